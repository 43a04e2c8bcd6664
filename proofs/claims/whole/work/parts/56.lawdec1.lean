theorem ld_0 : decode code 0 = .ok (.new 7, 3) := by decide +kernel
theorem ld_3 : decode code 3 = .ok (.dup, 1) := by decide +kernel
theorem ld_4 : decode code 4 = .ok (.invokespecial 9, 3) := by decide +kernel
theorem ld_7 : decode code 7 = .ok (.astore_n 1, 1) := by decide +kernel
theorem ld_8 : decode code 8 = .ok (.new 10, 3) := by decide +kernel
theorem ld_11 : decode code 11 = .ok (.dup, 1) := by decide +kernel
theorem ld_12 : decode code 12 = .ok (.invokespecial 12, 3) := by decide +kernel
theorem ld_15 : decode code 15 = .ok (.astore_n 2, 1) := by decide +kernel
theorem ld_16 : decode code 16 = .ok (.iconst 0, 1) := by decide +kernel
theorem ld_17 : decode code 17 = .ok (.istore_n 3, 1) := by decide +kernel
theorem ld_18 : decode code 18 = .ok (.iload_n 3, 1) := by decide +kernel
theorem ld_19 : decode code 19 = .ok (.aload_n 0, 1) := by decide +kernel
theorem ld_20 : decode code 20 = .ok (.arraylength, 1) := by decide +kernel
theorem ld_21 : decode code 21 = .ok (.bipush 6, 2) := by decide +kernel
theorem ld_23 : decode code 23 = .ok (.isub, 1) := by decide +kernel
theorem ld_24 : decode code 24 = .ok (.if_icmp .gt 855, 3) := by decide +kernel
theorem ld_27 : decode code 27 = .ok (.aload_n 0, 1) := by decide +kernel
theorem ld_28 : decode code 28 = .ok (.iload_n 3, 1) := by decide +kernel
theorem ld_29 : decode code 29 = .ok (.iaload, 1) := by decide +kernel
theorem ld_30 : decode code 30 = .ok (.bipush 31, 2) := by decide +kernel
theorem ld_32 : decode code 32 = .ok (.iand, 1) := by decide +kernel
theorem ld_33 : decode code 33 = .ok (.tableswitch 840 0 24 #[115, 138, 181, 204, 227, 260, 323, 346, 369, 402, 445, 468, 491, 514, 537, 560, 583, 606, 639, 672, 705, 728, 751, 784, 817], 115) := by decide +kernel
theorem ld_873 : decode code 873 = .ok (.iinc 3 6, 3) := by decide +kernel
theorem ld_876 : decode code 876 = .ok (.goto (-858), 3) := by decide +kernel
theorem ld_879 : decode code 879 = .ok (.iconst 1, 1) := by decide +kernel
theorem ld_880 : decode code 880 = .ok (.ireturn, 1) := by decide +kernel
theorem ld_148 : decode code 148 = .ok (.aload_n 1, 1) := by decide +kernel
theorem ld_149 : la_dA 149 1 := ⟨by decide +kernel, by decide +kernel, by decide +kernel, by decide +kernel, by decide +kernel⟩
theorem ld_154 : decode code 154 = .ok (.invokevirtual 13, 3) := by decide +kernel
theorem ld_157 : decode code 157 = .ok (.aload_n 2, 1) := by decide +kernel
theorem ld_158 : la_dA 158 1 := ⟨by decide +kernel, by decide +kernel, by decide +kernel, by decide +kernel, by decide +kernel⟩
theorem ld_163 : decode code 163 = .ok (.invokevirtual 17, 3) := by decide +kernel
theorem ld_166 : decode code 166 = .ok (.if_icmp .eq 707, 3) := by decide +kernel
theorem ld_171 : decode code 171 = .ok (.aload_n 1, 1) := by decide +kernel
theorem ld_172 : la_dA 172 1 := ⟨by decide +kernel, by decide +kernel, by decide +kernel, by decide +kernel, by decide +kernel⟩
theorem ld_177 : la_dA 177 2 := ⟨by decide +kernel, by decide +kernel, by decide +kernel, by decide +kernel, by decide +kernel⟩
theorem ld_182 : la_dA 182 3 := ⟨by decide +kernel, by decide +kernel, by decide +kernel, by decide +kernel, by decide +kernel⟩
theorem ld_187 : decode code 187 = .ok (.invokevirtual 18, 3) := by decide +kernel
theorem ld_190 : decode code 190 = .ok (.aload_n 2, 1) := by decide +kernel
theorem ld_191 : la_dA 191 1 := ⟨by decide +kernel, by decide +kernel, by decide +kernel, by decide +kernel, by decide +kernel⟩
theorem ld_196 : la_dA 196 2 := ⟨by decide +kernel, by decide +kernel, by decide +kernel, by decide +kernel, by decide +kernel⟩
theorem ld_201 : la_dA 201 3 := ⟨by decide +kernel, by decide +kernel, by decide +kernel, by decide +kernel, by decide +kernel⟩
theorem ld_206 : decode code 206 = .ok (.invokevirtual 22, 3) := by decide +kernel
theorem ld_209 : decode code 209 = .ok (.if_icmp .eq 664, 3) := by decide +kernel
theorem ld_214 : decode code 214 = .ok (.aload_n 1, 1) := by decide +kernel
theorem ld_215 : la_dA 215 1 := ⟨by decide +kernel, by decide +kernel, by decide +kernel, by decide +kernel, by decide +kernel⟩
theorem ld_220 : decode code 220 = .ok (.invokevirtual 23, 3) := by decide +kernel
theorem ld_223 : decode code 223 = .ok (.aload_n 2, 1) := by decide +kernel
theorem ld_224 : la_dA 224 1 := ⟨by decide +kernel, by decide +kernel, by decide +kernel, by decide +kernel, by decide +kernel⟩
theorem ld_229 : decode code 229 = .ok (.invokevirtual 26, 3) := by decide +kernel
theorem ld_232 : decode code 232 = .ok (.if_icmp .eq 641, 3) := by decide +kernel
theorem ld_237 : decode code 237 = .ok (.aload_n 1, 1) := by decide +kernel
theorem ld_238 : la_dA 238 1 := ⟨by decide +kernel, by decide +kernel, by decide +kernel, by decide +kernel, by decide +kernel⟩
theorem ld_243 : decode code 243 = .ok (.invokevirtual 27, 3) := by decide +kernel
theorem ld_246 : decode code 246 = .ok (.aload_n 2, 1) := by decide +kernel
theorem ld_247 : la_dA 247 1 := ⟨by decide +kernel, by decide +kernel, by decide +kernel, by decide +kernel, by decide +kernel⟩
theorem ld_252 : decode code 252 = .ok (.invokevirtual 30, 3) := by decide +kernel
theorem ld_255 : decode code 255 = .ok (.if_icmp .eq 618, 3) := by decide +kernel
