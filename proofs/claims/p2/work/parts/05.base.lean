/-! own base rows: good words, values by equation, intervals -/
def lw_G : List Cond := lw_tbl.filter goodWord
theorem lwG_t {w : Cond} {i : Nat} (h : tables_1[i]? = some w) (hg : goodWord w = true) : w ∈ lw_G :=
  List.mem_filter.mpr ⟨List.mem_append_right _ (List.mem_of_getElem? h), hg⟩
theorem lwG_p {w : Cond} {i : Nat} (h : (k2_sels lw_privs)[i]? = some w) (hg : goodWord w = true) : w ∈ lw_G :=
  List.mem_filter.mpr ⟨List.mem_append_left _ (List.mem_of_getElem? h), hg⟩
theorem lwG_in {w : Cond} (h : w ∈ lw_G) : w ∈ lw_tbl := (List.mem_filter.mp h).1
theorem lwG_good {w : Cond} (h : w ∈ lw_G) : (w.onTables && w.keeps) = true ∨ ∃ ty, w = .arrayClass ty := good_of_word (List.mem_filter.mp h).2
theorem lwG_l (ws : List Cond) (ps : List Nat) (hp : ws = ps.filterMap (fun i => tables_1[i]?)) (hg : ws.all goodWord = true) : ∀ w ∈ ws, w ∈ lw_G := by
  intro w hw
  have h1 := List.all_eq_true.mp hg w hw
  rw [hp] at hw
  obtain ⟨i, -, hi⟩ := List.mem_filterMap.mp hw
  exact lwG_t hi h1
theorem gC {w : Cond} (h : w ∈ lw_G) : GoodIn lw_G (w :: lw_G) := fun v hv => by
  rcases List.mem_cons.mp hv with rfl | hv
  · exact ⟨h, lwG_good h⟩
  · exact ⟨hv, lwG_good hv⟩
theorem gV {own : String} {idx : Nat} {C : String} {y : MethodName} {w : Cond} (h1 : Cond.methodLink own idx y ∈ lw_G) (h2 : Cond.instanceMethod y ∈ lw_G) (h3 : Cond.selects C y y ∈ lw_G) (h4 : Cond.initialized C ∈ lw_G) (h5 : w ∈ lw_G) : GoodIn lw_G (wsV own idx C y (w :: lw_G)) := fun v hv => by
  unfold wsV at hv
  rcases List.mem_append.mp hv with hv | hv
  · have : v ∈ lw_G := by
      simp only [List.mem_cons, List.not_mem_nil, or_false] at hv
      rcases hv with rfl | rfl | rfl | rfl
      · exact h1
      · exact h2
      · exact h3
      · exact h4
    exact ⟨this, lwG_good this⟩
  · exact gC h5 v hv
theorem gS {own : String} {idx : Nat} {y : MethodName} {w : Cond} (h1 : Cond.methodLink own idx y ∈ lw_G) (h2 : Cond.static y ∈ lw_G) (h4 : Cond.initialized y.cls ∈ lw_G) (h5 : w ∈ lw_G) : GoodIn lw_G (va_wsS own idx y (w :: lw_G)) := fun v hv => by
  unfold va_wsS at hv
  rcases List.mem_append.mp hv with hv | hv
  · have : v ∈ lw_G := by
      simp only [List.mem_cons, List.not_mem_nil, or_false] at hv
      rcases hv with rfl | rfl | rfl
      · exact h1
      · exact h2
      · exact h4
    exact ⟨this, lwG_good this⟩
  · exact gC h5 v hv
section VAL
variable {p : Program} {l : Launch} {e : Env} {R : Room} {s : State} {m : MethodId} {args : Array Value} {below : List Frame} {meth : Method} {c : Code} {H : Heap} {locs : List Loc} {cells slots : Nat} {Q : State → Prop} {pc : Nat} {ls : Array Slot} {rest : List Value}
theorem lv_val {x y : Int32} (h : x = y) (k : W p l e R s m args below meth c H locs cells slots Q (F0 m pc ls (.int y :: rest))) : W p l e R s m args below meth c H locs cells slots Q (F0 m pc ls (.int x :: rest)) := h ▸ k
theorem lv_valL {x y : Int64} (h : x = y) (k : W p l e R s m args below meth c H locs cells slots Q (F0 m pc ls (.long y :: rest))) : W p l e R s m args below meth c H locs cells slots Q (F0 m pc ls (.long x :: rest)) := h ▸ k
end VAL
abbrev iv (x : Int32) (a b : Int) : Prop := a ≤ x.toInt ∧ x.toInt ≤ b
theorem iv_any (x : Int32) : iv x (-2147483648) 2147483647 := by
  have h1 := x.le_toInt
  have h2 := x.toInt_lt
  exact ⟨by omega, by omega⟩
theorem iv_w {x : Int32} {a b a' b' : Int} (h : iv x a b) (h1 : a' ≤ a) (h2 : b ≤ b') : iv x a' b' := ⟨Int.le_trans h1 h.1, Int.le_trans h.2 h2⟩
theorem iv_bmod {z : Int} (h1 : -2147483648 ≤ z) (h2 : z ≤ 2147483647) : z.bmod (2 ^ 32) = z := by
  apply Int.bmod_eq_of_le <;> omega
theorem iv_add {x y : Int32} {a b c d : Int} (h : iv x a b) (k : iv y c d) (h1 : -2147483648 ≤ a + c) (h2 : b + d ≤ 2147483647) : iv (x + y) (a + c) (b + d) := by
  have e : (x + y).toInt = x.toInt + y.toInt := by rw [Int32.toInt_add]; exact iv_bmod (by omega) (by omega)
  exact ⟨by omega, by omega⟩
theorem iv_sub {x y : Int32} {a b c d : Int} (h : iv x a b) (k : iv y c d) (h1 : -2147483648 ≤ a - d) (h2 : b - c ≤ 2147483647) : iv (x - y) (a - d) (b - c) := by
  have e : (x - y).toInt = x.toInt - y.toInt := by rw [Int32.toInt_sub]; exact iv_bmod (by omega) (by omega)
  exact ⟨by omega, by omega⟩
theorem iv_eq {x y : Int32} {a b : Int} (e : x = y) (h : iv y a b) : iv x a b := e ▸ h
theorem iv_tn {x : Int32} {b : Int} (h : iv x 0 b) : x.toInt = (x.toBitVec.toNat : Int) ∧ x.toBitVec.toNat < 2147483648 := by
  have h0 := h.1
  have e : x.toInt = x.toBitVec.toInt := rfl
  rw [e, BitVec.toInt_eq_toNat_cond] at h0 ⊢
  have hlt : x.toBitVec.toNat < 4294967296 := x.toBitVec.isLt
  split at h0 <;> simp_all <;> omega
theorem iv_ofn {x : Int32} {n : Nat} (h : x.toBitVec.toNat ≤ n) (hn : n < 2147483648) : iv x 0 n := by
  have e : x.toInt = x.toBitVec.toInt := rfl
  rw [iv, e, BitVec.toInt_eq_toNat_cond]
  have : 2 * x.toBitVec.toNat < 2 ^ 32 := by omega
  rw [if_pos this]
  omega
theorem iv_and {x y : Int32} {b : Int} (h : iv y 0 b) : iv (x &&& y) 0 b := by
  have h1 := iv_tn h
  have h2 : (x &&& y).toBitVec.toNat ≤ y.toBitVec.toNat := by
    rw [Int32.toBitVec_and, BitVec.toNat_and]; exact Nat.and_le_right
  have h3 := iv_ofn h2 h1.2
  have h4 := h.2
  exact ⟨h3.1, by have := h3.2; omega⟩
theorem iv_andL {x y : Int32} {b : Int} (h : iv x 0 b) : iv (x &&& y) 0 b := by
  have h1 := iv_tn h
  have h2 : (x &&& y).toBitVec.toNat ≤ x.toBitVec.toNat := by
    rw [Int32.toBitVec_and, BitVec.toNat_and]; exact Nat.and_le_left
  have h3 := iv_ofn h2 h1.2
  have h4 := h.2
  exact ⟨h3.1, by have := h3.2; omega⟩
theorem iv_or {x y : Int32} {b d : Int} (k : Nat) (h : iv x 0 b) (g : iv y 0 d) (hb : b < 2 ^ k) (hd : d < 2 ^ k) (hk : k ≤ 31) : iv (x ||| y) 0 (2 ^ k - 1) := by
  have h1 := iv_tn h
  have g1 := iv_tn g
  have p : (2 : Nat) ^ k ≤ 2 ^ 31 := Nat.pow_le_pow_right (by decide) hk
  have hp : ((2 ^ k : Nat) : Int) = (2 : Int) ^ k := by simp
  have hx : x.toBitVec.toNat < 2 ^ k := by have := h.2; omega
  have hy : y.toBitVec.toNat < 2 ^ k := by have := g.2; omega
  have h2 : (x ||| y).toBitVec.toNat < 2 ^ k := by
    rw [Int32.toBitVec_or, BitVec.toNat_or]; exact Nat.or_lt_two_pow hx hy
  have h3 := iv_ofn (x := x ||| y) (n := 2 ^ k - 1) (by omega) (by omega)
  exact ⟨h3.1, by have := h3.2; omega⟩
theorem iv_xor {x y : Int32} {b d : Int} (k : Nat) (h : iv x 0 b) (g : iv y 0 d) (hb : b < 2 ^ k) (hd : d < 2 ^ k) (hk : k ≤ 31) : iv (x ^^^ y) 0 (2 ^ k - 1) := by
  have h1 := iv_tn h
  have g1 := iv_tn g
  have p : (2 : Nat) ^ k ≤ 2 ^ 31 := Nat.pow_le_pow_right (by decide) hk
  have hp : ((2 ^ k : Nat) : Int) = (2 : Int) ^ k := by simp
  have hx : x.toBitVec.toNat < 2 ^ k := by have := h.2; omega
  have hy : y.toBitVec.toNat < 2 ^ k := by have := g.2; omega
  have h2 : (x ^^^ y).toBitVec.toNat < 2 ^ k := by
    rw [Int32.toBitVec_xor, BitVec.toNat_xor]; exact Nat.xor_lt_two_pow hx hy
  have h3 := iv_ofn (x := x ^^^ y) (n := 2 ^ k - 1) (by omega) (by omega)
  exact ⟨h3.1, by have := h3.2; omega⟩
theorem iv_shr {x s : Int32} {a b a' b' : Int} (k : Nat) (hs : (s.toBitVec.smod 32).toNat = k) (h : iv x a b) (ha : a' = a >>> k) (hb : b' = b >>> k) : iv (x >>> s) a' b' := by
  have e := pk_shr x s k hs
  rw [iv, e, ha, hb]
  exact ⟨by rw [Int.shiftRight_eq_div_pow, Int.shiftRight_eq_div_pow]; exact Int.ediv_le_ediv (by exact_mod_cast Nat.pow_pos (n := k) (show 0 < 2 by decide)) h.1, by rw [Int.shiftRight_eq_div_pow, Int.shiftRight_eq_div_pow]; exact Int.ediv_le_ediv (by exact_mod_cast Nat.pow_pos (n := k) (show 0 < 2 by decide)) h.2⟩
theorem iv_in {x : Int32} {a b : Int} {n : Nat} (h : iv x a b) (h1 : 0 ≤ a) (h2 : b < n) : vp_in x n := vp_in_iff.mpr ⟨by have := h.1; omega, by have := h.2; omega⟩
theorem iv_lt {x y : Int32} {a b c d : Int} (h : iv x a b) (k : iv y c d) (e : b < c) : x < y := by
  rw [Int32.lt_iff_toInt_lt]; have := h.2; have := k.1; omega
theorem iv_nlt {x y : Int32} {a b c d : Int} (h : iv x a b) (k : iv y c d) (e : d ≤ a) : ¬ x < y := by
  rw [Int32.lt_iff_toInt_lt]; have := h.1; have := k.2; omega
theorem iv_le {x y : Int32} {a b c d : Int} (h : iv x a b) (k : iv y c d) (e : b ≤ c) : x ≤ y := by
  rw [Int32.le_iff_toInt_le]; have := h.2; have := k.1; omega
theorem iv_nle {x y : Int32} {a b c d : Int} (h : iv x a b) (k : iv y c d) (e : d < a) : ¬ x ≤ y := by
  rw [Int32.le_iff_toInt_le]; have := h.1; have := k.2; omega
theorem iv_ne {x y : Int32} {a b c d : Int} (h : iv x a b) (k : iv y c d) (e : b < c ∨ d < a) : ¬ x = y := by
  intro q; subst q; have := h.1; have := h.2; have := k.1; have := k.2; omega
theorem iv_pt {x : Int32} {a : Int} (h : iv x a a) {y : Int32} (k : iv y a a) : x = y := Int32.toInt_inj.mp (by have := h.1; have := h.2; have := k.1; have := k.2; omega)
theorem iv_ltL {x y : Int32} {a b c d b' : Int} (h : iv x a b) (k : iv y c d) (q : x < y) (e : d - 1 ≤ b') : iv x a b' := by
  rw [Int32.lt_iff_toInt_lt] at q; exact ⟨h.1, by have := k.2; omega⟩
theorem iv_ltR {x y : Int32} {a b c d c' : Int} (h : iv x a b) (k : iv y c d) (q : x < y) (e : c' ≤ a + 1) : iv y c' d := by
  rw [Int32.lt_iff_toInt_lt] at q; exact ⟨by have := h.1; omega, k.2⟩
theorem iv_leL {x y : Int32} {a b c d b' : Int} (h : iv x a b) (k : iv y c d) (q : x ≤ y) (e : d ≤ b') : iv x a b' := by
  rw [Int32.le_iff_toInt_le] at q; exact ⟨h.1, by have := k.2; omega⟩
theorem iv_leR {x y : Int32} {a b c d c' : Int} (h : iv x a b) (k : iv y c d) (q : x ≤ y) (e : c' ≤ a) : iv y c' d := by
  rw [Int32.le_iff_toInt_le] at q; exact ⟨by have := h.1; omega, k.2⟩
theorem iv_nltL {x y : Int32} {a b c d a' : Int} (h : iv x a b) (k : iv y c d) (q : ¬ x < y) (e : a' ≤ c) : iv x a' b := by
  rw [Int32.lt_iff_toInt_lt] at q; exact ⟨by have := k.1; omega, h.2⟩
theorem iv_nltR {x y : Int32} {a b c d d' : Int} (h : iv x a b) (k : iv y c d) (q : ¬ x < y) (e : b ≤ d') : iv y c d' := by
  rw [Int32.lt_iff_toInt_lt] at q; exact ⟨k.1, by have := h.2; omega⟩
theorem iv_nleL {x y : Int32} {a b c d a' : Int} (h : iv x a b) (k : iv y c d) (q : ¬ x ≤ y) (e : a' ≤ c + 1) : iv x a' b := by
  rw [Int32.le_iff_toInt_le] at q; exact ⟨by have := k.1; omega, h.2⟩
theorem iv_nleR {x y : Int32} {a b c d d' : Int} (h : iv x a b) (k : iv y c d) (q : ¬ x ≤ y) (e : b - 1 ≤ d') : iv y c d' := by
  rw [Int32.le_iff_toInt_le] at q; exact ⟨k.1, by have := h.2; omega⟩
theorem iv_eqL {x y : Int32} {a b c d : Int} (h : iv x a b) (k : iv y c d) (q : x = y) : iv x c d := q ▸ k
theorem iv_neLo {x y : Int32} {a b a' : Int} (h : iv x a b) (k : iv y a a) (q : ¬ x = y) (e : a' = a + 1) : iv x a' b := by
  have : x.toInt ≠ y.toInt := fun z => q (Int32.toInt_inj.mp z)
  exact ⟨by have := h.1; have := k.1; have := k.2; omega, h.2⟩
theorem iv_neHi {x y : Int32} {a b b' : Int} (h : iv x a b) (k : iv y b b) (q : ¬ x = y) (e : b' = b - 1) : iv x a b' := by
  have : x.toInt ≠ y.toInt := fun z => q (Int32.toInt_inj.mp z)
  exact ⟨h.1, by have := h.2; have := k.1; have := k.2; omega⟩
theorem iv_upd {f : Nat → Int32} {k : Nat} {x : Int32} {a b c d a' b' : Int} (h : ∀ j, iv (f j) a b) (g : iv x c d) (h1 : a' ≤ a) (h2 : b ≤ b') (h3 : a' ≤ c) (h4 : d ≤ b') : ∀ j, iv (upd f k x j) a' b' := by
  intro j
  unfold upd
  split
  · exact iv_w g h3 h4
  · exact iv_w (h j) h1 h2
theorem iv_z {v : Int32} (h : iv v 0 1) : narrow .boolean (.int v) = .int v ∧ fits .boolean (.int v) = true := by
  have : v = 0 ∨ v = 1 := by
    have h1 := h.1; have h2 := h.2
    rcases (show v.toInt = 0 ∨ v.toInt = 1 by omega) with q | q
    · exact Or.inl (Int32.toInt_inj.mp q)
    · exact Or.inr (Int32.toInt_inj.mp q)
  rcases this with rfl | rfl <;> exact ⟨rfl, by decide⟩
theorem iv_ch {v : Int32} (h : iv v 0 65535) : narrow .char (.int v) = .int v := by
  obtain ⟨j, hj, rfl⟩ := vp_in_of (n := 65536) (iv_in h (by decide) (by decide)) (by decide)
  exact (pk_charN hj).1
theorem iv_i2c (x : Int32) : iv (x.toUInt32 % 65536).toInt32 0 65535 := by
  rw [pk_char]
  have h : x.toBitVec.toNat % 65536 < 65536 := Nat.mod_lt _ (by decide)
  have e := nI_toInt (n := x.toBitVec.toNat % 65536) (by omega)
  exact ⟨by rw [e]; omega, by rw [e]; omega⟩
theorem iv_i2b (x : Int32) : iv x.toInt8.toInt32 (-128) 127 := by
  have e : x.toInt8.toInt32.toInt = x.toInt8.toInt := Int8.toInt_toInt32 _
  have h1 := x.toInt8.le_toInt
  have h2 := x.toInt8.toInt_lt
  exact ⟨by rw [e]; omega, by rw [e]; omega⟩
theorem iv_i2s (x : Int32) : iv x.toInt16.toInt32 (-32768) 32767 := by
  have e : x.toInt16.toInt32.toInt = x.toInt16.toInt := Int16.toInt_toInt32 _
  have h1 := x.toInt16.le_toInt
  have h2 := x.toInt16.toInt_lt
  exact ⟨by rw [e]; omega, by rw [e]; omega⟩
theorem iv_byte (x : Int32) : iv (vp_nar .byte x) (-128) 127 := by
  rw [vp_nar_byte]; exact iv_i2b x
def lenS : List Nat := [140, 9, 19, 16, 15, 19]
def bytS : List (List Int32) := [[109, 111, 118, 32, 97, 100, 100, 32, 97, 100, 100, 99, 115, 117, 98, 99, 115, 117, 98, 32, 99, 109, 112, 32, 100, 97, 100, 100, 98, 105, 116, 32, 98, 105, 99, 32, 98, 105, 115, 32, 120, 111, 114, 32, 97, 110, 100, 32, 114, 114, 99, 32, 115, 119, 112, 98, 114, 114, 97, 32, 115, 120, 116, 32, 112, 117, 115, 104, 99, 97, 108, 108, 114, 101, 116, 105, 106, 110, 101, 32, 106, 101, 113, 32, 106, 110, 99, 32, 106, 99, 32, 32, 106, 110, 32, 32, 106, 103, 101, 32, 106, 108, 32, 32, 106, 109, 112, 32, 111, 114, 103, 32, 119, 111, 114, 100, 98, 121, 116, 101, 114, 101, 116, 32, 110, 111, 112, 32, 98, 114, 32, 32, 112, 111, 112, 32, 99, 108, 114, 32], [58, 44, 40, 41, 38, 64, 35, 43, 45], [115, 116, 101, 112, 115, 32, 97, 114, 101, 32, 48, 32, 116, 111, 32, 53, 48, 48, 48], [110, 111, 32, 115, 117, 99, 104, 32, 114, 101, 103, 105, 115, 116, 101, 114], [110, 111, 32, 115, 117, 99, 104, 32, 97, 100, 100, 114, 101, 115, 115], [110, 111, 32, 115, 117, 99, 104, 32, 98, 121, 116, 101, 32, 111, 102, 32, 79, 85, 84]]
def evT0 : String := "mov add addcsubcsub cmp daddbit bic bis xor and rrc swpbrra sxt pushcallretijne jeq jnc jc  jn  jge jl  jmp org wordbyteret nop br  pop clr "
def evT1 : String := ":,()&@#+-"
def evT2 : String := "steps are 0 to 5000"
def evT3 : String := "no such register"
def evT4 : String := "no such address"
def evT5 : String := "no such byte of OUT"
def evK : List (String × Nat × String) := [(RX10, 35, evT0), (RX10, 85, evT1), (RX11, 91, evT2), (RX11, 108, evT3), (RX11, 116, evT4), (RX11, 151, evT5)]
def evN : List Cond := [.methodLinkNest RX11 15 yX1_init RX11, .methodLinkNest RX1 18 yX7_init RX11, .methodLinkNest RX1 25 yX5_init RX11, .methodLinkNest RX1 32 yX9_init RX11, .methodLinkNest RX2 17 yX3_init RX11, .methodLinkNest RX0 11 yX6_init RX11, .methodLinkNest RX0 30 yX4_init RX11]
def evOk (w : Cond) : Bool := match w with
  | .castable _ _ => true
  | .declares _ => true
  | _ => false
def evX : List Cond := (vx_atS RX11 93 "java/lang/IllegalArgumentException" ["java/lang/RuntimeException", "java/lang/Exception"] ++ vx_atS RX11 110 "java/lang/IndexOutOfBoundsException" ["java/lang/RuntimeException", "java/lang/Exception"] ++ nx_at RX11 153 "java/util/NoSuchElementException" 13 prog_25_method_4_code ["java/lang/RuntimeException", "java/lang/Exception"]).filter (fun w => !goodWord w)
theorem evX_ok : evX.all evOk = true := by decide +kernel
theorem evX_on : ∀ w ∈ evX, w.onTables = true := by
  intro w hw
  have h := List.all_eq_true.mp evX_ok w hw
  cases w <;> first | rfl | exact absurd h (by simp [evOk])
theorem evI0 : ∀ w ∈ (vx_atS RX11 93 "java/lang/IllegalArgumentException" ["java/lang/RuntimeException", "java/lang/Exception"]).filter goodWord, w ∈ lw_G := lwG_l _ [20, 908, 917, 921, 924, 926, 909, 910, 32, 33, 911, 916, 922, 942, 898, 943, 900, 944, 902, 912, 914, 904, 938, 939, 941, 904, 929, 930, 931, 932, 932, 933, 934, 935, 935, 936, 937, 938, 928, 887, 895, 896, 897, 899, 901, 903, 907, 906, 905] (by decide +kernel) (by decide +kernel)
theorem evI1 : ∀ w ∈ (vx_atS RX11 110 "java/lang/IndexOutOfBoundsException" ["java/lang/RuntimeException", "java/lang/Exception"]).filter goodWord, w ∈ lw_G := lwG_l _ [20, 908, 917, 921, 924, 926, 909, 910, 32, 33, 911, 916, 922, 942, 898, 943, 900, 944, 902, 912, 914, 904, 938, 939, 941, 904, 1137, 1138, 1139, 932, 932, 933, 934, 935, 935, 936, 937, 938, 1136, 1127, 1129, 919, 1130, 1131, 1132, 1133, 907, 906, 1134] (by decide +kernel) (by decide +kernel)
theorem evI2 : ∀ w ∈ (nx_at RX11 153 "java/util/NoSuchElementException" 13 prog_25_method_4_code ["java/lang/RuntimeException", "java/lang/Exception"]).filter goodWord, w ∈ lw_G := lwG_l _ [20, 908, 917, 921, 924, 926, 909, 910, 32, 33, 911, 916, 922, 942, 898, 943, 900, 944, 902, 912, 914, 904, 938, 939, 941, 904, 1256, 1257, 1258, 932, 932, 933, 934, 935, 935, 936, 937, 938, 1255, 1246, 1248, 920, 1249, 1250, 1251, 1252, 907, 906, 1253] (by decide +kernel) (by decide +kernel)
def ev (adK adV : Nat → Nat) (A : Nat → Prop) (U : State) (H : Heap) : Prop :=
  vk_S 6 lenS bytS adK adV A U H ∧ va_Z "java/lang/String" "COMPACT_STRINGS" "Z" (.int 1) A U H ∧ va_Zq "jdk/internal/util/Preconditions" "SIOOBE_FORMATTER" "Ljava/util/function/BiFunction;" A U H ∧ vx_Zq Bundle.tN "UNASSIGNED_STACK" Bundle.steD A U H ∧ vx_Zq Bundle.tN "SUPPRESSED_SENTINEL" Bundle.listD A U H ∧ (∀ (i : Nat) (q : String × Nat × String), evK[i]? = some q → vk_R q.1 q.2.1 q.2.2 (adK i) U) ∧ (∀ (i : Nat) (w : Cond), evN[i]? = some w → va_Nw w U) ∧ ∀ w ∈ evX, va_Nw w U
theorem ev.kept {adK adV : Nat → Nat} {A : Nat → Prop} {U : State} {H H1 : Heap} (h : ev adK adV A U H) (hq : ∀ a : Nat, a < H.size → ¬ A a → H1[a]? = H[a]?) : ev adK adV A U H1 :=
  ⟨h.1.kept hq, h.2.1.kept hq, h.2.2.1.kept hq, h.2.2.2.1.kept hq, h.2.2.2.2.1.kept hq, h.2.2.2.2.2.1, h.2.2.2.2.2.2.1, h.2.2.2.2.2.2.2⟩
theorem ev.narrow {adK adV : Nat → Nat} {A B : Nat → Prop} {U : State} {H : Heap} (h : ev adK adV A U H) (hAB : ∀ q, B q → A q) : ev adK adV B U H :=
  ⟨h.1.narrow hAB, h.2.1.narrow hAB, h.2.2.1.narrow hAB, h.2.2.2.1.narrow hAB, h.2.2.2.2.1.narrow hAB, h.2.2.2.2.2.1, h.2.2.2.2.2.2.1, h.2.2.2.2.2.2.2⟩
theorem evN_on : ∀ w ∈ evN, w.onTables = true := by decide +kernel
theorem evN_shape : ∀ w ∈ evN, ∃ a i x h, w = .methodLinkNest a i x h := by
  intro w hw
  simp only [evN, List.mem_cons, List.not_mem_nil, or_false] at hw
  rcases hw with rfl | rfl | rfl | rfl | rfl | rfl | rfl <;> exact ⟨_, _, _, _, rfl⟩
theorem ev.warm {adK adV : Nat → Nat} {A : Nat → Prop} {s U : State} {H : Heap} (h : ev adK adV A s H) (hW : s.WarmedH U.vm) : ev adK adV A U H :=
  ⟨h.1.moved hW.alike, h.2.1.moved hW.alike, h.2.2.1.moved hW.alike, h.2.2.2.1.moved hW.alike, h.2.2.2.2.1.moved hW.alike, fun i q e => (h.2.2.2.2.2.1 i q e).warm hW, fun i w e => by
    obtain ⟨a, k, x, z, rfl⟩ := evN_shape w (List.mem_of_getElem? e)
    exact (h.2.2.2.2.2.2.1 i _ e).warmM hW, fun w hw => by
    have h1 := h.2.2.2.2.2.2.2 w hw
    have h2 := List.all_eq_true.mp evX_ok w hw
    cases w <;> first | exact h1.warmC hW | exact h1.warmD hW | exact absurd h2 (by simp [evOk])⟩
theorem ev.same {adK adV : Nat → Nat} {A : Nat → Prop} {U V : State} {H : Heap} (h : ev adK adV A U H) (hv : V.vm = U.vm) : ev adK adV A V H :=
  have hm : U.vm.Alike V.vm := by rw [hv]; exact Vm.Alike.refl U.vm
  ⟨h.1.moved hm, h.2.1.moved hm, h.2.2.1.moved hm, h.2.2.2.1.moved hm, h.2.2.2.2.1.moved hm, fun i q e => (h.2.2.2.2.2.1 i q e).same hv, fun i w e => (h.2.2.2.2.2.2.1 i w e).same (evN_on w (List.mem_of_getElem? e)) hv.symm, fun w hw => (h.2.2.2.2.2.2.2 w hw).same (evX_on w hw) hv.symm⟩
theorem evR0 {adK adV : Nat → Nat} {A : Nat → Prop} {U : State} {H : Heap} (h : ev adK adV A U H) : vk_R RX10 35 evT0 (adK 0) U := h.2.2.2.2.2.1 0 (RX10, 35, evT0) rfl
theorem evR1 {adK adV : Nat → Nat} {A : Nat → Prop} {U : State} {H : Heap} (h : ev adK adV A U H) : vk_R RX10 85 evT1 (adK 1) U := h.2.2.2.2.2.1 1 (RX10, 85, evT1) rfl
theorem evR2 {adK adV : Nat → Nat} {A : Nat → Prop} {U : State} {H : Heap} (h : ev adK adV A U H) : vk_R RX11 91 evT2 (adK 2) U := h.2.2.2.2.2.1 2 (RX11, 91, evT2) rfl
theorem evR3 {adK adV : Nat → Nat} {A : Nat → Prop} {U : State} {H : Heap} (h : ev adK adV A U H) : vk_R RX11 108 evT3 (adK 3) U := h.2.2.2.2.2.1 3 (RX11, 108, evT3) rfl
theorem evR4 {adK adV : Nat → Nat} {A : Nat → Prop} {U : State} {H : Heap} (h : ev adK adV A U H) : vk_R RX11 116 evT4 (adK 4) U := h.2.2.2.2.2.1 4 (RX11, 116, evT4) rfl
theorem evR5 {adK adV : Nat → Nat} {A : Nat → Prop} {U : State} {H : Heap} (h : ev adK adV A U H) : vk_R RX11 151 evT5 (adK 5) U := h.2.2.2.2.2.1 5 (RX11, 151, evT5) rfl
theorem evW0 {adK adV : Nat → Nat} {A : Nat → Prop} {U : State} {H : Heap} (h : ev adK adV A U H) : va_Nw (.methodLinkNest RX11 15 yX1_init RX11) U := h.2.2.2.2.2.2.1 0 _ rfl
theorem evW1 {adK adV : Nat → Nat} {A : Nat → Prop} {U : State} {H : Heap} (h : ev adK adV A U H) : va_Nw (.methodLinkNest RX1 18 yX7_init RX11) U := h.2.2.2.2.2.2.1 1 _ rfl
theorem evW2 {adK adV : Nat → Nat} {A : Nat → Prop} {U : State} {H : Heap} (h : ev adK adV A U H) : va_Nw (.methodLinkNest RX1 25 yX5_init RX11) U := h.2.2.2.2.2.2.1 2 _ rfl
theorem evW3 {adK adV : Nat → Nat} {A : Nat → Prop} {U : State} {H : Heap} (h : ev adK adV A U H) : va_Nw (.methodLinkNest RX1 32 yX9_init RX11) U := h.2.2.2.2.2.2.1 3 _ rfl
theorem evW4 {adK adV : Nat → Nat} {A : Nat → Prop} {U : State} {H : Heap} (h : ev adK adV A U H) : va_Nw (.methodLinkNest RX2 17 yX3_init RX11) U := h.2.2.2.2.2.2.1 4 _ rfl
theorem evW5 {adK adV : Nat → Nat} {A : Nat → Prop} {U : State} {H : Heap} (h : ev adK adV A U H) : va_Nw (.methodLinkNest RX0 11 yX6_init RX11) U := h.2.2.2.2.2.2.1 5 _ rfl
theorem evW6 {adK adV : Nat → Nat} {A : Nat → Prop} {U : State} {H : Heap} (h : ev adK adV A U H) : va_Nw (.methodLinkNest RX0 30 yX4_init RX11) U := h.2.2.2.2.2.2.1 6 _ rfl
theorem evA0 {adK adV : Nat → Nat} {A : Nat → Prop} {s : State} {H : Heap} {args : Array Value} (h : ev adK adV A s H) (hG : ∀ w ∈ lw_G, w.before args s = true) : ∀ w ∈ vx_atS RX11 93 "java/lang/IllegalArgumentException" ["java/lang/RuntimeException", "java/lang/Exception"], w.before args s = true := by
  intro w hw
  by_cases g : goodWord w = true
  · exact hG w (evI0 w (List.mem_filter.mpr ⟨hw, g⟩))
  · have hm : w ∈ evX := List.mem_filter.mpr ⟨List.mem_append_left _ (List.mem_append_left _ hw), by simpa using g⟩
    exact (h.2.2.2.2.2.2.2 w hm).use (evX_on w hm)
theorem evA1 {adK adV : Nat → Nat} {A : Nat → Prop} {s : State} {H : Heap} {args : Array Value} (h : ev adK adV A s H) (hG : ∀ w ∈ lw_G, w.before args s = true) : ∀ w ∈ vx_atS RX11 110 "java/lang/IndexOutOfBoundsException" ["java/lang/RuntimeException", "java/lang/Exception"], w.before args s = true := by
  intro w hw
  by_cases g : goodWord w = true
  · exact hG w (evI1 w (List.mem_filter.mpr ⟨hw, g⟩))
  · have hm : w ∈ evX := List.mem_filter.mpr ⟨List.mem_append_left _ (List.mem_append_right _ hw), by simpa using g⟩
    exact (h.2.2.2.2.2.2.2 w hm).use (evX_on w hm)
theorem evA2 {adK adV : Nat → Nat} {A : Nat → Prop} {s : State} {H : Heap} {args : Array Value} (h : ev adK adV A s H) (hG : ∀ w ∈ lw_G, w.before args s = true) : ∀ w ∈ nx_at RX11 153 "java/util/NoSuchElementException" 13 prog_25_method_4_code ["java/lang/RuntimeException", "java/lang/Exception"], w.before args s = true := by
  intro w hw
  by_cases g : goodWord w = true
  · exact hG w (evI2 w (List.mem_filter.mpr ⟨hw, g⟩))
  · have hm : w ∈ evX := List.mem_filter.mpr ⟨List.mem_append_right _ hw, by simpa using g⟩
    exact (h.2.2.2.2.2.2.2 w hm).use (evX_on w hm)
