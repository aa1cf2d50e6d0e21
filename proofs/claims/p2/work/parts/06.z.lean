theorem z0_ishl (s : Int32) : (0 : Int32) <<< (s &&& 31) = 0 := by simp
theorem z0_ishr (s : Int32) : (0 : Int32) >>> (s &&& 31) = 0 := by simp
theorem z0_iushr (s : Int32) : ((0 : Int32).toUInt32 >>> (s.toUInt32 &&& Int32.toUInt32 31)).toInt32 = 0 := by
  have h : (0 : Int32).toUInt32 = 0 := rfl
  rw [h, UInt32.zero_shiftRight]; rfl
theorem z0_iand (s : Int32) : (0 : Int32) &&& s = 0 := by simp
theorem z1_iand (s : Int32) : s &&& (0 : Int32) = 0 := by simp
theorem z0_imul (s : Int32) : (0 : Int32) * s = 0 := by simp
theorem z1_imul (s : Int32) : s * (0 : Int32) = 0 := by simp
theorem z1_iadd (s : Int32) : s + (0 : Int32) = s := by simp
theorem z1_isub (s : Int32) : s - (0 : Int32) = s := by simp
theorem z1_ior (s : Int32) : s ||| (0 : Int32) = s := by simp
theorem z0_iadd (s : Int32) : (0 : Int32) + s = s := by simp
theorem z0_ior (s : Int32) : (0 : Int32) ||| s = s := by simp
theorem ku {f g : Nat → Int32} {k j : Nat} {x : Int32} (e : g = upd f k x) (h : j = k) : g j = x := by subst h; rw [e]; exact pk_us
theorem kn {f g : Nat → Int32} {k j : Nat} {x y : Int32} (e : g = upd f k x) (h : ¬ j = k) (q : f j = y) : g j = y := by rw [e]; exact (pk_un h).trans q
theorem kuL {f g : Nat → Int64} {k j : Nat} {x : Int64} (e : g = vp_updL f k x) (h : j = k) : g j = x := by subst h; rw [e]; exact pk_uLs
theorem knL {f g : Nat → Int64} {k j : Nat} {x y : Int64} (e : g = vp_updL f k x) (h : ¬ j = k) (q : f j = y) : g j = y := by rw [e]; exact (pk_uLn h).trans q
theorem jcut {a b : Prop} (h : a) (k : a → b) : b := k h
section WQ
variable {p : Program} {l : Launch} {e : Env} {R : Room} {s : State} {m : MethodId} {args : Array Value} {below : List Frame} {meth : Method} {c : Code} {H : Heap} {locs : List Loc} {cells slots : Nat} {Q : State → Prop} {g : JFrame}
theorem wq (h : ∀ Q' : State → Prop, Q' = Q → W p l e R s m args below meth c H locs cells slots Q' g) : W p l e R s m args below meth c H locs cells slots Q g := h Q rfl
end WQ
theorem iv_addT {v x c : Int32} {a b k : Int} (e : v = x + c) (h : iv x a b) (hc : c.toInt = k) (h1 : -2147483648 ≤ a + k) (h2 : b + k ≤ 2147483647) : v.toInt = x.toInt + k := by
  have h3 := h.1; have h4 := h.2
  rw [e, Int32.toInt_add, hc]; exact iv_bmod (by omega) (by omega)
theorem iv_subT {v x c : Int32} {a b k : Int} (e : v = x - c) (h : iv x a b) (hc : c.toInt = -k) (h1 : -2147483648 ≤ a + k) (h2 : b + k ≤ 2147483647) : v.toInt = x.toInt + k := by
  have h3 := h.1; have h4 := h.2
  rw [e, Int32.toInt_sub, hc]; rw [show x.toInt - -k = x.toInt + k by omega]; exact iv_bmod (by omega) (by omega)
theorem iv_subR {x y : Int32} {a b c d : Int} (h : iv x a b) (k : iv y c d) (r : y.toInt ≤ x.toInt) (h1 : 0 ≤ c) (h2 : b - c ≤ 2147483647) : iv (x - y) 0 (b - c) := by
  have h3 := h.1; have h4 := h.2; have h5 := k.1; have h6 := k.2
  have e : (x - y).toInt = x.toInt - y.toInt := by rw [Int32.toInt_sub]; exact iv_bmod (by omega) (by omega)
  exact ⟨by omega, by omega⟩
theorem iv_nlt2 {x y : Int32} (h : ¬ x < y) : y.toInt ≤ x.toInt := by rw [Int32.lt_iff_toInt_lt] at h; omega
theorem iv_nle2 {x y : Int32} (h : ¬ x ≤ y) : y.toInt < x.toInt := by rw [Int32.le_iff_toInt_le] at h; omega
theorem iv_mul {x y : Int32} {a b c d : Int} (h : iv x a b) (k : iv y c d) (h1 : 0 ≤ a) (h2 : 0 ≤ c) (h3 : b * d ≤ 2147483647) : iv (x * y) (a * c) (b * d) := by
  have p1 := h.1; have p2 := h.2; have p3 := k.1; have p4 := k.2
  have q1 : a * c ≤ x.toInt * y.toInt := Int.mul_le_mul p1 p3 h2 (by omega)
  have q2 : x.toInt * y.toInt ≤ b * d := Int.mul_le_mul p2 p4 (by omega) (by omega)
  have q3 : 0 ≤ a * c := Int.mul_nonneg h1 h2
  have e : (x * y).toInt = x.toInt * y.toInt := by rw [Int32.toInt_mul]; exact iv_bmod (by omega) (by omega)
  exact ⟨by omega, by omega⟩
theorem iv_shl {x s : Int32} {a b a' b' : Int} (k : Nat) (hs : (s.toBitVec.smod 32).toNat = k) (h : iv x a b) (h0 : 0 ≤ a) (ha : a' = a * 2 ^ k) (hb : b' = b * 2 ^ k) (h3 : b * 2 ^ k ≤ 2147483647) : iv (x <<< s) a' b' := by
  have p1 := h.1; have p2 := h.2
  have t := iv_tn (iv_w h h0 (Int.le_refl b))
  have e := pk_shl x s k hs
  have hp : (0 : Int) < 2 ^ k := Int.pow_pos (by decide)
  have q2 : x.toInt * 2 ^ k ≤ b * 2 ^ k := Int.mul_le_mul_of_nonneg_right p2 (by omega)
  have q1 : a * 2 ^ k ≤ x.toInt * 2 ^ k := Int.mul_le_mul_of_nonneg_right p1 (by omega)
  have hc : ((x.toBitVec.toNat * 2 ^ k : Nat) : Int) = x.toInt * 2 ^ k := by rw [t.1]; simp
  have hlt : x.toBitVec.toNat * 2 ^ k < 2 ^ 32 := by omega
  rw [Nat.mod_eq_of_lt hlt] at e
  have f := iv_ofn (x := x <<< s) (n := x.toBitVec.toNat * 2 ^ k) (by omega) (by omega)
  have g := iv_tn f
  rw [e] at g
  rw [iv, ha, hb, g.1, hc]
  exact ⟨q1, q2⟩
theorem iv_add2T {v x y : Int32} {a b c d : Int} (e : v = x + y) (h : iv x a b) (k : iv y c d) (h1 : -2147483648 ≤ a + c) (h2 : b + d ≤ 2147483647) : v.toInt = x.toInt + y.toInt := by
  have p1 := h.1; have p2 := h.2; have p3 := k.1; have p4 := k.2
  rw [e, Int32.toInt_add]; exact iv_bmod (by omega) (by omega)
theorem iv_mulT {v x c : Int32} {a b k : Int} (e : v = x * c) (h : iv x a b) (hc : c.toInt = k) (h1 : 0 ≤ a) (h2 : 0 ≤ k) (h3 : b * k ≤ 2147483647) : v.toInt = x.toInt * k := by
  have p1 := h.1; have p2 := h.2
  have q1 : 0 ≤ x.toInt * k := Int.mul_nonneg (by omega) h2
  have q2 : x.toInt * k ≤ b * k := Int.mul_le_mul_of_nonneg_right p2 h2
  rw [e, Int32.toInt_mul, hc]; exact iv_bmod (by omega) (by omega)
theorem lcmp_self (x : Int64) : lg_cmp x x = 0 := by simp [lg_cmp]
def pkf (p le : Int32) (f : Nat → Int32) : Int32 := if p < le then f p.toNatClampNeg &&& 255 else -1
theorem ofNat_toInt {n : Nat} (h : n ≤ 3072) : (Int32.ofNat n).toInt = (n : Int) := nI_toInt (by omega)
section NRM
variable {A A0 : Nat → Prop} {D : va_G} {cl : List vw_C} {ws ws' wc w1 wf : va_W} {H H0 H1 : Heap} {locs : List Loc}
theorem nv_eq (hP : va_P D cl ws H) (hD : va_D A ws) (h : ws = ws') : va_P D cl ws' H ∧ va_D A ws' := by subst h; exact ⟨hP, hD⟩
theorem nv_psub (hP : va_P D cl ws H) (is : List Nat) (hs : is.map (fun i => ws[i]?) = wc.map some) : va_P D cl wc H := by
  intro k q hk
  have h1 : (is.map (fun i => ws[i]?))[k]? = some (some q) := by rw [hs, List.getElem?_map, hk]; rfl
  rw [List.getElem?_map] at h1
  cases hi : is[k]? with
  | none => rw [hi] at h1; cases h1
  | some i => rw [hi] at h1; exact hP i q (Option.some.inj h1)
theorem nv_sub2 (hP : va_P D cl ws H) (hD : va_D A ws) (is : List Nat) (hn : va_nd is = true) (hs : is.map (fun i => ws[i]?) = wc.map some) : va_P D cl wc H ∧ va_D A wc := ⟨nv_psub hP is hs, hD.sub is hn hs⟩
theorem nv_sub3 (hP : va_P D cl ws H) (hD : va_D A ws) (hS : va_S A H0 H locs) (hA : ∀ q : Nat, H0.size ≤ q → A q) (is : List Nat) (hn : va_nd is = true) (hs : is.map (fun i => ws[i]?) = wc.map some) : va_P D cl wc H ∧ va_D A wc ∧ ∀ q, va_A wc H.size q → A q := ⟨nv_psub hP is hs, hD.sub is hn hs, va_free hD hS hA is hs⟩
theorem nv_join (hP : va_P D cl ws H) (hD : va_D A ws) (isC isR : List Nat) (hC : isC.map (fun i => ws[i]?) = wc.map some) (hR : isR.map (fun i => ws[i]?) = (isR.filterMap (fun i => ws[i]?)).map some) (hn : va_nd isR = true) (hdis : ∀ i ∈ isR, i ∉ isC) (hk : ∀ q : Nat, q < H.size → ¬ va_A wc H.size q → H1[q]? = H[q]?) (hF : ∀ q, va_A wc H.size q → A q) (hP1 : va_P D cl w1 H1) (hD1 : va_D (va_A wc H.size) w1) (hw : isR.filterMap (fun i => ws[i]?) ++ w1 = wf) : va_P D cl wf H1 ∧ va_D A wf := by
  subst hw
  exact va_join hP hD isC isR hC hR hn hdis hk hF hP1 hD1
end NRM
theorem evG0_89 : ∀ w ∈ Cond.classLink RX11 89 "java/lang/IllegalArgumentException" :: Cond.initialized "java/lang/IllegalArgumentException" :: vx_atS RX11 93 "java/lang/IllegalArgumentException" ["java/lang/RuntimeException", "java/lang/Exception"], vx_ot w = true := by decide +kernel
theorem evG1_106 : ∀ w ∈ Cond.classLink RX11 106 "java/lang/IndexOutOfBoundsException" :: Cond.initialized "java/lang/IndexOutOfBoundsException" :: vx_atS RX11 110 "java/lang/IndexOutOfBoundsException" ["java/lang/RuntimeException", "java/lang/Exception"], vx_ot w = true := by decide +kernel
theorem evG2_149 : ∀ w ∈ Cond.classLink RX11 149 "java/util/NoSuchElementException" :: Cond.initialized "java/util/NoSuchElementException" :: nx_at RX11 153 "java/util/NoSuchElementException" 13 prog_25_method_4_code ["java/lang/RuntimeException", "java/lang/Exception"], vx_ot w = true := by decide +kernel
theorem evC0 {adK adV : Nat → Nat} {A : Nat → Prop} {s : State} {H : Heap} {args : Array Value} (h : ev adK adV A s H) : (Cond.castable "java/lang/IllegalArgumentException" "java/lang/IllegalArgumentException").before args s = true := (h.2.2.2.2.2.2.2 _ (by decide +kernel)).use rfl
theorem evC1 {adK adV : Nat → Nat} {A : Nat → Prop} {s : State} {H : Heap} {args : Array Value} (h : ev adK adV A s H) : (Cond.castable "java/lang/IndexOutOfBoundsException" "java/lang/IndexOutOfBoundsException").before args s = true := (h.2.2.2.2.2.2.2 _ (by decide +kernel)).use rfl
theorem evC2 {adK adV : Nat → Nat} {A : Nat → Prop} {s : State} {H : Heap} {args : Array Value} (h : ev adK adV A s H) : (Cond.castable "java/util/NoSuchElementException" "java/util/NoSuchElementException").before args s = true := (h.2.2.2.2.2.2.2 _ (by decide +kernel)).use rfl
