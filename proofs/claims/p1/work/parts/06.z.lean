theorem z0_ishl (s : Int32) : (0 : Int32) <<< (s &&& 31) = 0 := by simp
theorem z0_ishr (s : Int32) : (0 : Int32) >>> (s &&& 31) = 0 := by simp
theorem z0_iushr (s : Int32) : ((0 : Int32).toUInt32 >>> (s.toUInt32 &&& Int32.toUInt32 31)).toInt32 = 0 := by
  have h : (0 : Int32).toUInt32 = 0 := rfl
  rw [h, UInt32.zero_shiftRight]; rfl
theorem z0_iand (s : Int32) : (0 : Int32) &&& s = 0 := by simp
theorem z1_iand (s : Int32) : s &&& (0 : Int32) = 0 := by simp
theorem z0_imul (s : Int32) : (0 : Int32) * s = 0 := by simp
theorem z1_imul (s : Int32) : s * (0 : Int32) = 0 := by simp
theorem z1_iadd (s : Int32) : s + (0 : Int32) = s := by simp
theorem z1_isub (s : Int32) : s - (0 : Int32) = s := by simp
theorem z1_ior (s : Int32) : s ||| (0 : Int32) = s := by simp
theorem z0_iadd (s : Int32) : (0 : Int32) + s = s := by simp
theorem z0_ior (s : Int32) : (0 : Int32) ||| s = s := by simp
theorem ku {f g : Nat → Int32} {k j : Nat} {x : Int32} (e : g = upd f k x) (h : j = k) : g j = x := by subst h; rw [e]; exact pk_us
theorem kn {f g : Nat → Int32} {k j : Nat} {x y : Int32} (e : g = upd f k x) (h : ¬ j = k) (q : f j = y) : g j = y := by rw [e]; exact (pk_un h).trans q
theorem kuL {f g : Nat → Int64} {k j : Nat} {x : Int64} (e : g = vp_updL f k x) (h : j = k) : g j = x := by subst h; rw [e]; exact pk_uLs
theorem knL {f g : Nat → Int64} {k j : Nat} {x y : Int64} (e : g = vp_updL f k x) (h : ¬ j = k) (q : f j = y) : g j = y := by rw [e]; exact (pk_uLn h).trans q
theorem evG0_89 : ∀ w ∈ Cond.classLink RX11 89 "java/lang/IllegalArgumentException" :: Cond.initialized "java/lang/IllegalArgumentException" :: vx_atS RX11 93 "java/lang/IllegalArgumentException" ["java/lang/RuntimeException", "java/lang/Exception"], vx_ot w = true := by decide +kernel
theorem evG1_106 : ∀ w ∈ Cond.classLink RX11 106 "java/lang/IndexOutOfBoundsException" :: Cond.initialized "java/lang/IndexOutOfBoundsException" :: vx_atS RX11 110 "java/lang/IndexOutOfBoundsException" ["java/lang/RuntimeException", "java/lang/Exception"], vx_ot w = true := by decide +kernel
theorem evG2_149 : ∀ w ∈ Cond.classLink RX11 149 "java/util/NoSuchElementException" :: Cond.initialized "java/util/NoSuchElementException" :: nx_at RX11 153 "java/util/NoSuchElementException" 13 prog_25_method_4_code ["java/lang/RuntimeException", "java/lang/Exception"], vx_ot w = true := by decide +kernel
theorem evC0 {adK adV : Nat → Nat} {A : Nat → Prop} {s : State} {H : Heap} {args : Array Value} (h : ev adK adV A s H) : (Cond.castable "java/lang/IllegalArgumentException" "java/lang/IllegalArgumentException").before args s = true := (h.2.2.2.2.2.2.2 _ (by decide +kernel)).use rfl
theorem evC1 {adK adV : Nat → Nat} {A : Nat → Prop} {s : State} {H : Heap} {args : Array Value} (h : ev adK adV A s H) : (Cond.castable "java/lang/IndexOutOfBoundsException" "java/lang/IndexOutOfBoundsException").before args s = true := (h.2.2.2.2.2.2.2 _ (by decide +kernel)).use rfl
theorem evC2 {adK adV : Nat → Nat} {A : Nat → Prop} {s : State} {H : Heap} {args : Array Value} (h : ev adK adV A s H) : (Cond.castable "java/util/NoSuchElementException" "java/util/NoSuchElementException").before args s = true := (h.2.2.2.2.2.2.2 _ (by decide +kernel)).use rfl
