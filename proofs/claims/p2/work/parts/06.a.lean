def isCodeB (o : Option Cond) (y : MethodName) (c : ByteArray) (n : Nat) (r : Option FieldType) : Bool :=
  match o with
  | some (.code y' c' n' r') => decide (y' = y) && (decide (c'.data.toList = c.data.toList) && (decide (n' = n) && decide (r' = r)))
  | _ => false
theorem ba_ext {a b : ByteArray} (h : a.data.toList = b.data.toList) : a = b := by
  cases a
  cases b
  congr
  exact Array.ext' h
theorem isCodeB_s {o : Option Cond} {y : MethodName} {c : ByteArray} {n : Nat} {r : Option FieldType} (h : isCodeB o y c n r = true) : o = some (.code y c n r) := by
  unfold isCodeB at h
  split at h
  · simp only [Bool.and_eq_true, decide_eq_true_eq] at h
    obtain ⟨h1, h2, h3, h4⟩ := h
    rw [h1, ba_ext h2, h3, h4]
  · exact absurd h (by decide)
theorem lwG_tc {y : MethodName} {c : ByteArray} {n : Nat} {r : Option FieldType} {i : Nat} (h : isCodeB tables_1[i]? y c n r = true) (hg : goodWord (.code y c n r) = true) : Cond.code y c n r ∈ lw_G := lwG_t (isCodeB_s h) hg
