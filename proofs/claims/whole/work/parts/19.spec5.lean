/-! a tick as a whole -/
def n_ev (hn : Nat) (N : cr_M) : cr_M := n_tick (n_busy hn 1 N)
noncomputable def n_pg (hn cn : Nat) (N : cr_M) : cr_M := n_lose cn (n_ring cn (n_brk hn (n_ec (n_ev hn N) cn)))
noncomputable def n_go (hn cn : Nat) (N : cr_M) : cr_M := n_gv hn cn cn (n_pg hn cn N)
def n_gon (hn cn : Nat) (N : cr_M) : Int32 := n_ecn (n_ev hn N) cn
def n_ON (hn cn : Nat) (N : cr_M) : Prop := ∀ c, c < cn → N 16 c = 1 → ∃ k, k < hn ∧ N 18 c = nI k
theorem n_W_busy {hn cn : Nat} {N : cr_M} (h : n_W hn cn N) {m : Nat} {x : Int32} : n_W hn cn (n_busy m x N) := n_W_of h rfl rfl (fun _ _ => rfl) (fun _ _ => rfl)
theorem n_W_tick {hn cn : Nat} {N : cr_M} (h : n_W hn cn N) : n_W hn cn (n_tick N) := n_W_of h rfl rfl (fun _ _ => rfl) (fun _ _ => rfl)
theorem n_W_ec {hn cn : Nat} {N : cr_M} (h : n_W hn cn N) (j : Nat) : n_W hn cn (n_ec N j) := n_W_of h (n_ec_out (by decide) (by decide) (by decide) (by decide) (by decide) (by decide) j) (n_ec_out (by decide) (by decide) (by decide) (by decide) (by decide) (by decide) j) (fun _ _ => n_ec_out (by decide) (by decide) (by decide) (by decide) (by decide) (by decide) j) (fun _ _ => n_ec_out (by decide) (by decide) (by decide) (by decide) (by decide) (by decide) j)
theorem n_W_brk {hn cn : Nat} {N : cr_M} (h : n_W hn cn N) {m : Nat} : n_W hn cn (n_brk m N) := n_W_of h rfl rfl (fun _ _ => rfl) (fun _ _ => rfl)
theorem n_W_ring {hn cn : Nat} {N : cr_M} (h : n_W hn cn N) {m : Nat} : n_W hn cn (n_ring m N) := n_W_of h rfl rfl (fun _ _ => rfl) (fun _ _ => rfl)
theorem n_W_lose {hn cn : Nat} {N : cr_M} (h : n_W hn cn N) {m : Nat} : n_W hn cn (n_lose m N) := n_W_of h rfl rfl (fun _ _ => rfl) (fun _ _ => rfl)
theorem n_W_pg {hn cn : Nat} {N : cr_M} (h : n_W hn cn N) : n_W hn cn (n_pg hn cn N) := n_W_lose (n_W_ring (n_W_brk (n_W_ec (n_W_tick (n_W_busy h)) cn)))
