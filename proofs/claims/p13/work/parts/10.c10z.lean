def NB (n x : Int) : Prop := (0 < n ∨ x ≤ 0) ∧ (1 < n ∨ x ≤ 15) ∧ (2 < n ∨ x ≤ 255) ∧ (3 < n ∨ x ≤ 4095) ∧ (4 < n ∨ x ≤ 65535)
theorem NB_0 {n x : Int} (h : 0 ≤ n) (k : x ≤ 0) : NB n x := by unfold NB; omega
theorem NB_le {n x : Int} (h : NB n x) (hn : n ≤ 4) : x ≤ 65535 := by unfold NB at h; omega
theorem NB_step {n x y : Int} (h : NB n x) (hn : 0 ≤ n) (hx : 0 ≤ x) (hy : y ≤ 16 * x + 15) : NB (n + 1) y := by unfold NB at h ⊢; omega
theorem NB_ge {n x : Int} (h : 5 ≤ n) : NB (n + 1) x := by unfold NB; omega
theorem NB_to {n m x y : Int} (h : NB n x) (e : m = n) (k : y = x) : NB m y := by rw [e, k]; exact h
theorem iv_eqc {x y : Int32} {k : Int} (h : x = y) (e : y.toInt = k) : iv x k k := by subst h; exact ⟨by omega, by omega⟩
