set_option maxHeartbeats 4000000 in
set_option maxRecDepth 100000 in
theorem cX10_nameSign_6 (l : Launch) (dC : Nat → ClassId) (dI : Nat → Nat → Nat) (adK adV : Nat → Nat) (sz : Nat) : Met l yX10_nameSign (Cond.code yX10_nameSign cX10_nameSign 3 (some .int) :: lw_G) ({ frames := 4, cells := 0, slots := 0, locals := 85 }) (va_Pc [.int 28, .int 1] (fun U => U.heap.size = sz ∧ va_P (dC, dI) vwCl [] U.heap ∧ va_K (dC, dI) vwCl [] U ∧ va_D (fun _ => True) [] ∧ ev adK adV (va_A [] sz) U U.heap)) (va_Qi (fun (r : Int32) (u : Unit) => r = 111 ∧ True) (fun (u : Unit) (t : State) => va_P (dC, dI) vwCl [] t.heap ∧ va_K (dC, dI) vwCl [] t ∧ va_D (va_A [] sz) []) (va_A [] sz)) 0 0 (va_A [] sz) := by
  refine Met.ofW (cc := cX10_nameSign) (maxL := 3) (ret := (some .int)) (by decide) rfl ?_
  intro p e s m args below meth c s₁ B hml hv
  obtain ⟨rfl, hsz, hP, hK, hD0, hE⟩ := hv
  have hx := B.exec
  have hb := B.bytes
  have hr := B.returns
  have hts0 := atoms_spec (ws := Cond.code yX10_nameSign cX10_nameSign 3 (some .int) :: lw_G) B.pre
  have hG : ∀ w ∈ lw_G, w.before _ s = true := fun w h => hts0 w (List.mem_cons_of_mem _ h)
  have hown : s.vm.findClass RX10 = some m.cls := findClass_of_methodNamed B.named
  have hlocks := B.notSynchronized
  subst hsz
  have hD := hD0.self (sz := s.heap.size)
  generalize hAe : va_A [] s.heap.size = A at hD hE ⊢
  have hA : ∀ q : Nat, s.heap.size ≤ q → A q := fun q h => by rw [← hAe]; exact Or.inr h
  have hS : va_S A s.heap s.heap [] := va_S.rf
  have hP : va_P (dC, dI) vwCl [] s.heap := hP
  have hl := lv_entry ([.int 28, .int 1]) (n := 3) (Nat.le_of_ble_eq_true rfl)
  rw [lg_entry_eq]
  generalize (lg_sl ([.int 28, .int 1]) ++ List.replicate (3 - (lg_sl ([.int 28, .int 1])).length) Slot.unset).toArray = ls at hl ⊢
  have hl : lv_has ls 3 [(0, .int 28), (1, .int 1)] := hl
  refine lv_iload_n hx hb dX10_nameSign_0 rfl (lv_at hl 0 rfl) ?_
  refine lv_iconst (v := 4) hx hb dX10_nameSign_1 (by decide) ?_
  refine lv_imul hx hb dX10_nameSign_2 ?_
  refine lv_val (y := 112) (by decide +kernel) ?_
  refine lv_iload_n hx hb dX10_nameSign_3 rfl (lv_at hl 1 rfl) ?_
  refine lv_iadd hx hb dX10_nameSign_4 ?_
  refine lv_val (y := 113) (by decide +kernel) ?_
  refine lv_istore_n (lv' := [(2, .int 113), (0, .int 28), (1, .int 1)]) hx hb dX10_nameSign_5 rfl hl (by decide) rfl (fun ls hl => ?_)
  refine lv_iload_n hx hb dX10_nameSign_6 rfl (lv_at hl 2 rfl) ?_
  refine lv_iconst (v := 4) hx hb dX10_nameSign_7 (by decide) ?_
  refine lv_icmp_ge (tgt := 33) hx hb dX10_nameSign_8 (by decide) (fun c => absurd c (by decide)) (fun _ => ?_)
  refine lv_iload_n hx hb dX10_nameSign_11 rfl (lv_at hl 0 rfl) ?_
  refine lv_if_lt (tgt := 33) hx hb dX10_nameSign_12 (by decide) (fun c => absurd c (by decide)) (fun _ => ?_)
  refine lv_iload_n hx hb dX10_nameSign_15 rfl (lv_at hl 0 rfl) ?_
  refine va_ldcS (q := adK 0) hx hb hown (evR0 hE) dX10_nameSign_16 ?_
  have hPc := hP.sub (ws' := []) [] rfl
  have hDc := hD.sub (ws' := []) [] (by decide) rfl
  have hKc := hK.sub (tys' := []) [] rfl
  have hFc := va_free (wc := []) hD hS hA [] rfl
  refine va_calli (va_runV (As := []) (rest := [.int 113]) ⟨hx, hb, hml, hown, hG⟩ (cJ0_length_8abf5_1 l dC dI adK adV s.heap.size) (cwV 0 hG (gV wd_235 wd_236 wd_237 wd_12 wd_238) rfl rfl rfl (by decide +kernel) ⟨Nat.le_of_ble_eq_true rfl, Nat.le_of_ble_eq_true rfl⟩) ⟨fun a U g mk q => by obtain ⟨q0, q1, qP, qK, qD, qE⟩ := q; exact ⟨q0, q1, qP, va_K.moved (u := U) (U := U.calling g mk a) (Vm.Alike.refl U.vm) qK, qD, qE.same rfl⟩, vk_recv hE.1 (i := 0) (by decide) hS, fun U hU hW => ⟨rfl, by rw [hU], by rw [hU]; exact hPc, va_K.moved hW.alike hKc, hDc.weaken (fun _ _ _ _ => trivial), by rw [hU]; exact ((hE.kept hS.2.1).narrow hFc).warm hW⟩⟩ rfl rfl hl.1 rfl (lv_room (Nat.le_of_ble_eq_true rfl)) dX10_nameSign_18 ⟨by decide, by decide⟩) hS (fun q _ h => hFc q h) hFc (fun r1 u2 t H1 locs ht hvm hw hB hz1 hk1 hS => ?_)
  have hw : r1 = 140 ∧ True := hw
  obtain ⟨er1, -⟩ := hw
  obtain ⟨hP1, hK1, hD1⟩ := hB
  rw [ht] at hP1
  have hK1 := va_K.moved hvm.symm hK1
  obtain ⟨hP, hD⟩ := va_join (wr := []) (w1 := []) hP hD [] [] rfl rfl (by decide) (by decide) hk1 hFc hP1 hD1
  have hK := (hK.sub (tys' := []) [] rfl).app hK1
  generalize H1 = H at hP hS ⊢
  have hP : va_P (dC, dI) vwCl [] H := hP
  have hD : va_D A [] := hD
  have hK : va_K (dC, dI) vwCl [] s := hK
  subst er1
  refine lv_icmp_ge (tgt := 33) hx hb dX10_nameSign_21 (by decide) (fun c => absurd c (by decide)) (fun _ => ?_)
  refine va_ldcS (q := adK 0) hx hb hown (evR0 hE) dX10_nameSign_24 ?_
  refine lv_iload_n hx hb dX10_nameSign_26 rfl (lv_at hl 0 rfl) ?_
  have hPc := hP.sub (ws' := []) [] rfl
  have hDc := hD.sub (ws' := []) [] (by decide) rfl
  have hKc := hK.sub (tys' := []) [] rfl
  have hFc := va_free (wc := []) hD hS hA [] rfl
  refine va_calli (va_runV (As := [.int 113]) (rest := []) ⟨hx, hb, hml, hown, hG⟩ (cJ0_charAt_5068e_3 l dC dI adK adV H.size) (cwV 1 hG (gV wd_245 wd_246 wd_247 wd_12 wd_248) rfl rfl rfl (by decide +kernel) ⟨Nat.le_of_ble_eq_true rfl, Nat.le_of_ble_eq_true rfl⟩) ⟨fun a U g mk q => by obtain ⟨q0, q1, qP, qK, qD, qE⟩ := q; exact ⟨q0, q1, qP, va_K.moved (u := U) (U := U.calling g mk a) (Vm.Alike.refl U.vm) qK, qD, qE.same rfl⟩, vk_recv hE.1 (i := 0) (by decide) hS, fun U hU hW => ⟨rfl, by rw [hU], by rw [hU]; exact hPc, va_K.moved hW.alike hKc, hDc.weaken (fun _ _ _ _ => trivial), by rw [hU]; exact ((hE.kept hS.2.1).narrow hFc).warm hW⟩⟩ rfl rfl hl.1 rfl (lv_room (Nat.le_of_ble_eq_true rfl)) dX10_nameSign_27 ⟨by decide, by decide⟩) hS (fun q _ h => hFc q h) hFc (fun r3 u4 t H1 locs ht hvm hw hB hz1 hk1 hS => ?_)
  have hw : r3 = 111 ∧ True := hw
  obtain ⟨er3, -⟩ := hw
  obtain ⟨hP1, hK1, hD1⟩ := hB
  rw [ht] at hP1
  have hK1 := va_K.moved hvm.symm hK1
  obtain ⟨hP, hD⟩ := va_join (wr := []) (w1 := []) hP hD [] [] rfl rfl (by decide) (by decide) hk1 hFc hP1 hD1
  have hK := (hK.sub (tys' := []) [] rfl).app hK1
  generalize H1 = H at hP hS ⊢
  have hP : va_P (dC, dI) vwCl [] H := hP
  have hD : va_D A [] := hD
  have hK : va_K (dC, dI) vwCl [] s := hK
  subst er3
  refine lv_goto (tgt := 35) hx hb dX10_nameSign_30 (by decide) ?_
  have hP9 := hP.sub (ws' := []) [] rfl
  have hD9 := hD.sub (ws' := []) [] (by decide) rfl
  have hK9 := hK.sub (tys' := []) [] rfl
  exact W.iret (v := 111) hx hb hr (fun t ht hW => ⟨⟨111, (), rfl, ⟨rfl, trivial⟩, by rw [ht]; exact hP9, va_K.moved hW.alike hK9, hD9⟩, hS.F ht⟩) hS.2.2 dX10_nameSign_35
set_option maxHeartbeats 4000000 in
set_option maxRecDepth 100000 in
theorem cX8_put_2 (l : Launch) (dC : Nat → ClassId) (dI : Nat → Nat → Nat) (h0 h1 h2 : Nat) (y0 : ClassId) (sz : Nat) (x0 x1 : Int32) (f0 : Nat → Int32) (ix0 : iv x0 0 65535) (ix1 : iv x1 2 65536) (if0 : ∀ j, iv (f0 j) 0 119) (kf0_0 : f0 0 = 119) : Met l yX8_put (Cond.code yX8_put cX8_put 2 none :: lw_G) ({ frames := 0, cells := 0, slots := 0, locals := 0 }) (va_Pc [.ref h0, .int 111] (fun U => U.heap.size = sz ∧ va_P (dC, dI) vwCl [(h0, .inr (8, [.ref h1, .ref h2, .int 1, .int x0, .int x1])), (h1, .inl (y0, 64, .inl f0))] U.heap ∧ va_K (dC, dI) vwCl [(y0, .int)] U ∧ va_D (fun _ => True) [(h0, .inr (8, [.ref h1, .ref h2, .int 1, .int x0, .int x1])), (h1, .inl (y0, 64, .inl f0))])) (va_Qv (fun (u : (Nat → Int32)) => (∀ j, iv (u j) 0 119) ∧ u 0 = 119 ∧ u 1 = 111 ∧ True) (fun (u : (Nat → Int32)) (t : State) => va_P (dC, dI) vwCl [(h0, .inr (8, [.ref h1, .ref h2, .int 2, .int x0, .int x1])), (h1, .inl (y0, 64, .inl u))] t.heap ∧ va_K (dC, dI) vwCl [(y0, .int)] t ∧ va_D (va_A [(h0, .inr (8, [.ref h1, .ref h2, .int 1, .int x0, .int x1])), (h1, .inl (y0, 64, .inl f0))] sz) [(h0, .inr (8, [.ref h1, .ref h2, .int 2, .int x0, .int x1])), (h1, .inl (y0, 64, .inl u))]) (va_A [(h0, .inr (8, [.ref h1, .ref h2, .int 1, .int x0, .int x1])), (h1, .inl (y0, 64, .inl f0))] sz)) 0 0 (va_A [(h0, .inr (8, [.ref h1, .ref h2, .int 1, .int x0, .int x1])), (h1, .inl (y0, 64, .inl f0))] sz) := by
  refine Met.ofW (cc := cX8_put) (maxL := 2) (ret := none) (by decide) rfl ?_
  intro p e s m args below meth c s₁ B hml hv
  obtain ⟨rfl, hsz, hP, hK, hD0⟩ := hv
  have hx := B.exec
  have hb := B.bytes
  have hr := B.returns
  have hts0 := atoms_spec (ws := Cond.code yX8_put cX8_put 2 none :: lw_G) B.pre
  have hG : ∀ w ∈ lw_G, w.before _ s = true := fun w h => hts0 w (List.mem_cons_of_mem _ h)
  have hown : s.vm.findClass RX8 = some m.cls := findClass_of_methodNamed B.named
  have hlocks := B.notSynchronized
  subst hsz
  have hD := hD0.self (sz := s.heap.size)
  generalize hAe : va_A [(h0, .inr (8, [.ref h1, .ref h2, .int 1, .int x0, .int x1])), (h1, .inl (y0, 64, .inl f0))] s.heap.size = A at hD ⊢
  have hA : ∀ q : Nat, s.heap.size ≤ q → A q := fun q h => by rw [← hAe]; exact Or.inr h
  have hS : va_S A s.heap s.heap [] := va_S.rf
  have hP : va_P (dC, dI) vwCl [(h0, .inr (8, [.ref h1, .ref h2, .int 1, .int x0, .int x1])), (h1, .inl (y0, 64, .inl f0))] s.heap := hP
  have hl := lv_entry ([.ref h0, .int 111]) (n := 2) (Nat.le_of_ble_eq_true rfl)
  rw [lg_entry_eq]
  generalize (lg_sl ([.ref h0, .int 111]) ++ List.replicate (2 - (lg_sl ([.ref h0, .int 111])).length) Slot.unset).toArray = ls at hl ⊢
  have hl : lv_has ls 2 [(0, .ref h0), (1, .int 111)] := hl
  refine lv_aload_n hx hb dX8_put_0 rfl (lv_at hl 0 rfl) ?_
  refine va_get (D := (dC, dI)) (ci := 8) (v := .int 1) (C := RX8) (T := TX8) (N := 5) hx hb hG inGX8 hown hK hP 0 rfl rfl 2 (by decide) (hG _ wd_381) (fun _ h9 => h9) rfl dX8_put_1 ?_
  refine lv_bipush (v := 64) hx hb dX8_put_4 (by decide) ?_
  refine lv_icmp_ge (tgt := 29) hx hb dX8_put_6 (by decide) (fun c => absurd c (by decide)) (fun _ => ?_)
  refine lv_aload_n hx hb dX8_put_9 rfl (lv_at hl 0 rfl) ?_
  refine va_get (D := (dC, dI)) (ci := 8) (v := .ref h1) (C := RX8) (T := TX8) (N := 5) hx hb hG inGX8 hown hK hP 0 rfl rfl 0 (by decide) (hG _ wd_379) (fun _ h9 => h9) rfl dX8_put_10 ?_
  refine lv_aload_n hx hb dX8_put_13 rfl (lv_at hl 0 rfl) ?_
  refine va_get (D := (dC, dI)) (ci := 8) (v := .int 1) (C := RX8) (T := TX8) (N := 5) hx hb hG inGX8 hown hK hP 0 rfl rfl 2 (by decide) (hG _ wd_381) (fun _ h9 => h9) rfl dX8_put_14 ?_
  refine lv_iload_n hx hb dX8_put_17 rfl (lv_at hl 1 rfl) ?_
  refine va_iast hx hb hK hP hD hS 1 0 rfl rfl (iv_in (by decide : iv 1 1 1) (by decide) (by decide) : vp_in 1 64) dX8_put_18 (fun H locs hP hD hS => ?_)
  have hP : va_P (dC, dI) vwCl [(h0, .inr (8, [.ref h1, .ref h2, .int 1, .int x0, .int x1])), (h1, .inl (y0, 64, .inl (upd f0 (1 : Int32).toNatClampNeg 111)))] H := hP
  have hD : va_D A [(h0, .inr (8, [.ref h1, .ref h2, .int 1, .int x0, .int x1])), (h1, .inl (y0, 64, .inl (upd f0 (1 : Int32).toNatClampNeg 111)))] := hD
  obtain ⟨f1, ef1⟩ : ∃ z, z = upd f0 (1 : Int32).toNatClampNeg 111 := ⟨_, rfl⟩
  rw [← ef1] at hP hD
  have if1 : ∀ j, iv (f1 j) 0 119 := by rw [ef1]; exact iv_upd if0 (by decide : iv 111 111 111) (by decide) (by decide) (by decide) (by decide)
  refine lv_aload_n hx hb dX8_put_19 rfl (lv_at hl 0 rfl) ?_
  refine lv_dup hx hb dX8_put_20 rfl ?_
  refine va_get (D := (dC, dI)) (ci := 8) (v := .int 1) (C := RX8) (T := TX8) (N := 5) hx hb hG inGX8 hown hK hP 0 rfl rfl 2 (by decide) (hG _ wd_381) (fun _ h9 => h9) rfl dX8_put_21 ?_
  refine lv_iconst (v := 1) hx hb dX8_put_24 (by decide) ?_
  refine lv_iadd hx hb dX8_put_25 ?_
  refine lv_val (y := 2) (by decide +kernel) ?_
  refine va_put (D := (dC, dI)) (ci := 8) (v := .int 2) (ty := .int) (C := RX8) (T := TX8) (N := 5) hx hb hG inGX8 tyX8 tyX8_ok nmX8 hown hK hP hD hS 0 rfl rfl 2 (by decide) (hG _ wd_381) (fun _ h9 => h9) rfl (by decide +kernel) rfl rfl (Nat.le_of_ble_eq_true rfl) dX8_put_26 (fun H locs hP hD hS => ?_)
  have hP : va_P (dC, dI) vwCl [(h0, .inr (8, [.ref h1, .ref h2, .int 2, .int x0, .int x1])), (h1, .inl (y0, 64, .inl f1))] H := hP
  have hD : va_D A [(h0, .inr (8, [.ref h1, .ref h2, .int 2, .int x0, .int x1])), (h1, .inl (y0, 64, .inl f1))] := hD
  have hP9 := hP.sub (ws' := [(h0, .inr (8, [.ref h1, .ref h2, .int 2, .int x0, .int x1])), (h1, .inl (y0, 64, .inl f1))]) [0, 1] rfl
  have hD9 := hD.sub (ws' := [(h0, .inr (8, [.ref h1, .ref h2, .int 2, .int x0, .int x1])), (h1, .inl (y0, 64, .inl f1))]) [0, 1] (by decide) rfl
  have hK9 := hK.sub (tys' := [(y0, .int)]) [0] rfl
  exact W.vret hx hb hr (fun t ht hW => ⟨⟨f1, rfl, ⟨(fun j => iv_w (if1 j) (by decide) (by decide)), (kn ef1 (by decide) kf0_0), (ku ef1 (by decide)), trivial⟩, by rw [ht]; exact hP9, va_K.moved hW.alike hK9, hD9⟩, hS.F ht⟩) hS.2.2 dX8_put_29
set_option maxHeartbeats 4000000 in
set_option maxRecDepth 100000 in
theorem cJ3_checkIndex_8e157_7 (l : Launch) (dC : Nat → ClassId) (dI : Nat → Nat → Nat) (sz : Nat) : Met l yJ3_checkIndex_8e157 (Cond.code yJ3_checkIndex_8e157 cJ3_checkIndex_8e157 3 (some .int) :: lw_G) ({ frames := 0, cells := 0, slots := 0, locals := 0 }) (va_Pc [.int 114, .int 140, .null] (fun U => U.heap.size = sz ∧ va_P (dC, dI) vwCl [] U.heap ∧ va_K (dC, dI) vwCl [] U ∧ va_D (fun _ => True) [])) (va_Qi (fun (r : Int32) (u : Unit) => r = 114 ∧ True) (fun (u : Unit) (t : State) => va_P (dC, dI) vwCl [] t.heap ∧ va_K (dC, dI) vwCl [] t ∧ va_D (va_A [] sz) []) (va_A [] sz)) 0 0 (va_A [] sz) := by
  refine Met.ofW (cc := cJ3_checkIndex_8e157) (maxL := 3) (ret := (some .int)) (by decide) rfl ?_
  intro p e s m args below meth c s₁ B hml hv
  obtain ⟨rfl, hsz, hP, hK, hD0⟩ := hv
  have hx := B.exec
  have hb := B.bytes
  have hr := B.returns
  have hts0 := atoms_spec (ws := Cond.code yJ3_checkIndex_8e157 cJ3_checkIndex_8e157 3 (some .int) :: lw_G) B.pre
  have hG : ∀ w ∈ lw_G, w.before _ s = true := fun w h => hts0 w (List.mem_cons_of_mem _ h)
  have hown : s.vm.findClass RJ3 = some m.cls := findClass_of_methodNamed B.named
  have hlocks := B.notSynchronized
  subst hsz
  have hD := hD0.self (sz := s.heap.size)
  generalize hAe : va_A [] s.heap.size = A at hD ⊢
  have hA : ∀ q : Nat, s.heap.size ≤ q → A q := fun q h => by rw [← hAe]; exact Or.inr h
  have hS : va_S A s.heap s.heap [] := va_S.rf
  have hP : va_P (dC, dI) vwCl [] s.heap := hP
  have hl := lv_entry ([.int 114, .int 140, .null]) (n := 3) (Nat.le_of_ble_eq_true rfl)
  rw [lg_entry_eq]
  generalize (lg_sl ([.int 114, .int 140, .null]) ++ List.replicate (3 - (lg_sl ([.int 114, .int 140, .null])).length) Slot.unset).toArray = ls at hl ⊢
  have hl : lv_has ls 3 [(0, .int 114), (1, .int 140), (2, .null)] := hl
  refine lv_iload_n hx hb dJ3_checkIndex_8e157_0 rfl (lv_at hl 0 rfl) ?_
  refine lv_if_lt (tgt := 9) hx hb dJ3_checkIndex_8e157_1 (by decide) (fun c => absurd c (by decide)) (fun _ => ?_)
  refine lv_iload_n hx hb dJ3_checkIndex_8e157_4 rfl (lv_at hl 0 rfl) ?_
  refine lv_iload_n hx hb dJ3_checkIndex_8e157_5 rfl (lv_at hl 1 rfl) ?_
  refine lv_icmp_lt (tgt := 16) hx hb dJ3_checkIndex_8e157_6 (by decide) (fun _ => ?_) (fun c => absurd (by decide) c)
  refine lv_iload_n hx hb dJ3_checkIndex_8e157_16 rfl (lv_at hl 0 rfl) ?_
  have hP9 := hP.sub (ws' := []) [] rfl
  have hD9 := hD.sub (ws' := []) [] (by decide) rfl
  have hK9 := hK.sub (tys' := []) [] rfl
  exact W.iret (v := 114) hx hb hr (fun t ht hW => ⟨⟨114, (), rfl, ⟨rfl, trivial⟩, by rw [ht]; exact hP9, va_K.moved hW.alike hK9, hD9⟩, hS.F ht⟩) hS.2.2 dJ3_checkIndex_8e157_17
set_option maxHeartbeats 4000000 in
set_option maxRecDepth 100000 in
theorem cJ3_checkIndex_8e157_8 (l : Launch) (dC : Nat → ClassId) (dI : Nat → Nat → Nat) (h0 : Nat) (sz : Nat) : Met l yJ3_checkIndex_8e157 (Cond.code yJ3_checkIndex_8e157 cJ3_checkIndex_8e157 3 (some .int) :: lw_G) ({ frames := 0, cells := 0, slots := 0, locals := 0 }) (va_Pc [.int 114, .int 140, .ref h0] (fun U => U.heap.size = sz ∧ va_P (dC, dI) vwCl [] U.heap ∧ va_K (dC, dI) vwCl [] U ∧ va_D (fun _ => True) [])) (va_Qi (fun (r : Int32) (u : Unit) => r = 114 ∧ True) (fun (u : Unit) (t : State) => va_P (dC, dI) vwCl [] t.heap ∧ va_K (dC, dI) vwCl [] t ∧ va_D (va_A [] sz) []) (va_A [] sz)) 0 0 (va_A [] sz) := by
  refine Met.ofW (cc := cJ3_checkIndex_8e157) (maxL := 3) (ret := (some .int)) (by decide) rfl ?_
  intro p e s m args below meth c s₁ B hml hv
  obtain ⟨rfl, hsz, hP, hK, hD0⟩ := hv
  have hx := B.exec
  have hb := B.bytes
  have hr := B.returns
  have hts0 := atoms_spec (ws := Cond.code yJ3_checkIndex_8e157 cJ3_checkIndex_8e157 3 (some .int) :: lw_G) B.pre
  have hG : ∀ w ∈ lw_G, w.before _ s = true := fun w h => hts0 w (List.mem_cons_of_mem _ h)
  have hown : s.vm.findClass RJ3 = some m.cls := findClass_of_methodNamed B.named
  have hlocks := B.notSynchronized
  subst hsz
  have hD := hD0.self (sz := s.heap.size)
  generalize hAe : va_A [] s.heap.size = A at hD ⊢
  have hA : ∀ q : Nat, s.heap.size ≤ q → A q := fun q h => by rw [← hAe]; exact Or.inr h
  have hS : va_S A s.heap s.heap [] := va_S.rf
  have hP : va_P (dC, dI) vwCl [] s.heap := hP
  have hl := lv_entry ([.int 114, .int 140, .ref h0]) (n := 3) (Nat.le_of_ble_eq_true rfl)
  rw [lg_entry_eq]
  generalize (lg_sl ([.int 114, .int 140, .ref h0]) ++ List.replicate (3 - (lg_sl ([.int 114, .int 140, .ref h0])).length) Slot.unset).toArray = ls at hl ⊢
  have hl : lv_has ls 3 [(0, .int 114), (1, .int 140), (2, .ref h0)] := hl
  refine lv_iload_n hx hb dJ3_checkIndex_8e157_0 rfl (lv_at hl 0 rfl) ?_
  refine lv_if_lt (tgt := 9) hx hb dJ3_checkIndex_8e157_1 (by decide) (fun c => absurd c (by decide)) (fun _ => ?_)
  refine lv_iload_n hx hb dJ3_checkIndex_8e157_4 rfl (lv_at hl 0 rfl) ?_
  refine lv_iload_n hx hb dJ3_checkIndex_8e157_5 rfl (lv_at hl 1 rfl) ?_
  refine lv_icmp_lt (tgt := 16) hx hb dJ3_checkIndex_8e157_6 (by decide) (fun _ => ?_) (fun c => absurd (by decide) c)
  refine lv_iload_n hx hb dJ3_checkIndex_8e157_16 rfl (lv_at hl 0 rfl) ?_
  have hP9 := hP.sub (ws' := []) [] rfl
  have hD9 := hD.sub (ws' := []) [] (by decide) rfl
  have hK9 := hK.sub (tys' := []) [] rfl
  exact W.iret (v := 114) hx hb hr (fun t ht hW => ⟨⟨114, (), rfl, ⟨rfl, trivial⟩, by rw [ht]; exact hP9, va_K.moved hW.alike hK9, hD9⟩, hS.F ht⟩) hS.2.2 dJ3_checkIndex_8e157_17
set_option maxHeartbeats 4000000 in
set_option maxRecDepth 100000 in
theorem cJ0_checkIndex_df160_4 (l : Launch) (dC : Nat → ClassId) (dI : Nat → Nat → Nat) (adK adV : Nat → Nat) (sz : Nat) : Met l yJ0_checkIndex_df160 (Cond.code yJ0_checkIndex_df160 cJ0_checkIndex_df160 2 none :: lw_G) ({ frames := 1, cells := 0, slots := 0, locals := 22 }) (va_Pc [.int 114, .int 140] (fun U => U.heap.size = sz ∧ va_P (dC, dI) vwCl [] U.heap ∧ va_K (dC, dI) vwCl [] U ∧ va_D (fun _ => True) [] ∧ ev adK adV (va_A [] sz) U U.heap)) (va_Qv (fun (u : Unit) => True) (fun (u : Unit) (t : State) => va_P (dC, dI) vwCl [] t.heap ∧ va_K (dC, dI) vwCl [] t ∧ va_D (va_A [] sz) []) (va_A [] sz)) 0 0 (va_A [] sz) := by
  refine Met.ofW (cc := cJ0_checkIndex_df160) (maxL := 2) (ret := none) (by decide) rfl ?_
  intro p e s m args below meth c s₁ B hml hv
  obtain ⟨rfl, hsz, hP, hK, hD0, hE⟩ := hv
  have hx := B.exec
  have hb := B.bytes
  have hr := B.returns
  have hts0 := atoms_spec (ws := Cond.code yJ0_checkIndex_df160 cJ0_checkIndex_df160 2 none :: lw_G) B.pre
  have hG : ∀ w ∈ lw_G, w.before _ s = true := fun w h => hts0 w (List.mem_cons_of_mem _ h)
  have hown : s.vm.findClass RJ0 = some m.cls := findClass_of_methodNamed B.named
  have hlocks := B.notSynchronized
  subst hsz
  have hD := hD0.self (sz := s.heap.size)
  generalize hAe : va_A [] s.heap.size = A at hD hE ⊢
  have hA : ∀ q : Nat, s.heap.size ≤ q → A q := fun q h => by rw [← hAe]; exact Or.inr h
  have hS : va_S A s.heap s.heap [] := va_S.rf
  have hP : va_P (dC, dI) vwCl [] s.heap := hP
  have hl := lv_entry ([.int 114, .int 140]) (n := 2) (Nat.le_of_ble_eq_true rfl)
  rw [lg_entry_eq]
  generalize (lg_sl ([.int 114, .int 140]) ++ List.replicate (2 - (lg_sl ([.int 114, .int 140])).length) Slot.unset).toArray = ls at hl ⊢
  have hl : lv_has ls 2 [(0, .int 114), (1, .int 140)] := hl
  refine lv_iload_n hx hb dJ0_checkIndex_df160_0 rfl (lv_at hl 0 rfl) ?_
  refine lv_iload_n hx hb dJ0_checkIndex_df160_1 rfl (lv_at hl 1 rfl) ?_
  rcases hE.2.2.1 with hZ | ⟨t1, hZ⟩
  · skip
    refine va_gets hx hb hZ hS hown (hG _ wd_259) (fun _ h9 => h9) dJ0_checkIndex_df160_2 ?_
    have hPc := hP.sub (ws' := []) [] rfl
    have hDc := hD.sub (ws' := []) [] (by decide) rfl
    have hKc := hK.sub (tys' := []) [] rfl
    have hFc := va_free (wc := []) hD hS hA [] rfl
    refine va_calli (va_runS (As := [.int 114, .int 140, .null]) (rest := []) ⟨hx, hb, hml, hown, hG⟩ (cJ3_checkIndex_8e157_7 l dC dI s.heap.size) (va_cwS 3 hG (gS wd_261 wd_262 wd_14 wd_263) rfl rfl rfl (by decide +kernel) ⟨Nat.le_of_ble_eq_true rfl, Nat.le_of_ble_eq_true rfl⟩) ⟨fun a U g mk q => by obtain ⟨q0, q1, qP, qK, qD⟩ := q; exact ⟨q0, q1, qP, va_K.moved (u := U) (U := U.calling g mk a) (Vm.Alike.refl U.vm) qK, qD⟩, fun U hU hW => ⟨rfl, by rw [hU], by rw [hU]; exact hPc, va_K.moved hW.alike hKc, hDc.weaken (fun _ _ _ _ => trivial)⟩⟩ rfl rfl hl.1 rfl (lv_room (Nat.le_of_ble_eq_true rfl)) dJ0_checkIndex_df160_5 ⟨by decide, by decide⟩) hS (fun q _ h => hFc q h) hFc (fun r2 u3 t H1 locs ht hvm hw hB hz1 hk1 hS => ?_)
    have hw : r2 = 114 ∧ True := hw
    obtain ⟨er2, -⟩ := hw
    obtain ⟨hP1, hK1, hD1⟩ := hB
    rw [ht] at hP1
    have hK1 := va_K.moved hvm.symm hK1
    obtain ⟨hP, hD⟩ := va_join (wr := []) (w1 := []) hP hD [] [] rfl rfl (by decide) (by decide) hk1 hFc hP1 hD1
    have hK := (hK.sub (tys' := []) [] rfl).app hK1
    generalize H1 = H at hP hS ⊢
    have hP : va_P (dC, dI) vwCl [] H := hP
    have hD : va_D A [] := hD
    have hK : va_K (dC, dI) vwCl [] s := hK
    subst er2
    refine lv_pop hx hb dJ0_checkIndex_df160_8 rfl ?_
    have hP9 := hP.sub (ws' := []) [] rfl
    have hD9 := hD.sub (ws' := []) [] (by decide) rfl
    have hK9 := hK.sub (tys' := []) [] rfl
    exact W.vret hx hb hr (fun t ht hW => ⟨⟨(), rfl, trivial, by rw [ht]; exact hP9, va_K.moved hW.alike hK9, hD9⟩, hS.F ht⟩) hS.2.2 dJ0_checkIndex_df160_9
  · skip
    refine va_gets hx hb hZ hS hown (hG _ wd_259) (fun _ h9 => h9) dJ0_checkIndex_df160_2 ?_
    have hPc := hP.sub (ws' := []) [] rfl
    have hDc := hD.sub (ws' := []) [] (by decide) rfl
    have hKc := hK.sub (tys' := []) [] rfl
    have hFc := va_free (wc := []) hD hS hA [] rfl
    refine va_calli (va_runS (As := [.int 114, .int 140, .ref t1]) (rest := []) ⟨hx, hb, hml, hown, hG⟩ (cJ3_checkIndex_8e157_8 l dC dI t1 s.heap.size) (va_cwS 3 hG (gS wd_261 wd_262 wd_14 wd_263) rfl rfl rfl (by decide +kernel) ⟨Nat.le_of_ble_eq_true rfl, Nat.le_of_ble_eq_true rfl⟩) ⟨fun a U g mk q => by obtain ⟨q0, q1, qP, qK, qD⟩ := q; exact ⟨q0, q1, qP, va_K.moved (u := U) (U := U.calling g mk a) (Vm.Alike.refl U.vm) qK, qD⟩, fun U hU hW => ⟨rfl, by rw [hU], by rw [hU]; exact hPc, va_K.moved hW.alike hKc, hDc.weaken (fun _ _ _ _ => trivial)⟩⟩ rfl rfl hl.1 rfl (lv_room (Nat.le_of_ble_eq_true rfl)) dJ0_checkIndex_df160_5 ⟨by decide, by decide⟩) hS (fun q _ h => hFc q h) hFc (fun r4 u5 t H1 locs ht hvm hw hB hz1 hk1 hS => ?_)
    have hw : r4 = 114 ∧ True := hw
    obtain ⟨er4, -⟩ := hw
    obtain ⟨hP1, hK1, hD1⟩ := hB
    rw [ht] at hP1
    have hK1 := va_K.moved hvm.symm hK1
    obtain ⟨hP, hD⟩ := va_join (wr := []) (w1 := []) hP hD [] [] rfl rfl (by decide) (by decide) hk1 hFc hP1 hD1
    have hK := (hK.sub (tys' := []) [] rfl).app hK1
    generalize H1 = H at hP hS ⊢
    have hP : va_P (dC, dI) vwCl [] H := hP
    have hD : va_D A [] := hD
    have hK : va_K (dC, dI) vwCl [] s := hK
    subst er4
    refine lv_pop hx hb dJ0_checkIndex_df160_8 rfl ?_
    have hP9 := hP.sub (ws' := []) [] rfl
    have hD9 := hD.sub (ws' := []) [] (by decide) rfl
    have hK9 := hK.sub (tys' := []) [] rfl
    exact W.vret hx hb hr (fun t ht hW => ⟨⟨(), rfl, trivial, by rw [ht]; exact hP9, va_K.moved hW.alike hK9, hD9⟩, hS.F ht⟩) hS.2.2 dJ0_checkIndex_df160_9
set_option maxHeartbeats 4000000 in
set_option maxRecDepth 100000 in
theorem cJ1_charAt_3b067_4 (l : Launch) (dC : Nat → ClassId) (dI : Nat → Nat → Nat) (adK adV : Nat → Nat) (sz : Nat) : Met l yJ1_charAt_3b067 (Cond.code yJ1_charAt_3b067 cJ1_charAt_3b067 2 (some .char) :: lw_G) ({ frames := 2, cells := 0, slots := 0, locals := 43 }) (va_Pc [.ref (adV 0), .int 114] (fun U => U.heap.size = sz ∧ va_P (dC, dI) vwCl [] U.heap ∧ va_K (dC, dI) vwCl [] U ∧ va_D (fun _ => True) [] ∧ ev adK adV (va_A [] sz) U U.heap)) (va_Qi (fun (r : Int32) (u : Unit) => r = 114 ∧ True) (fun (u : Unit) (t : State) => va_P (dC, dI) vwCl [] t.heap ∧ va_K (dC, dI) vwCl [] t ∧ va_D (va_A [] sz) []) (va_A [] sz)) 0 0 (va_A [] sz) := by
  refine Met.ofW (cc := cJ1_charAt_3b067) (maxL := 2) (ret := (some .char)) (by decide) rfl ?_
  intro p e s m args below meth c s₁ B hml hv
  obtain ⟨rfl, hsz, hP, hK, hD0, hE⟩ := hv
  have hx := B.exec
  have hb := B.bytes
  have hr := B.returns
  have hts0 := atoms_spec (ws := Cond.code yJ1_charAt_3b067 cJ1_charAt_3b067 2 (some .char) :: lw_G) B.pre
  have hG : ∀ w ∈ lw_G, w.before _ s = true := fun w h => hts0 w (List.mem_cons_of_mem _ h)
  have hown : s.vm.findClass RJ1 = some m.cls := findClass_of_methodNamed B.named
  have hlocks := B.notSynchronized
  subst hsz
  have hD := hD0.self (sz := s.heap.size)
  generalize hAe : va_A [] s.heap.size = A at hD hE ⊢
  have hA : ∀ q : Nat, s.heap.size ≤ q → A q := fun q h => by rw [← hAe]; exact Or.inr h
  have hS : va_S A s.heap s.heap [] := va_S.rf
  have hP : va_P (dC, dI) vwCl [] s.heap := hP
  have hl := lv_entry ([.ref (adV 0), .int 114]) (n := 2) (Nat.le_of_ble_eq_true rfl)
  rw [lg_entry_eq]
  generalize (lg_sl ([.ref (adV 0), .int 114]) ++ List.replicate (2 - (lg_sl ([.ref (adV 0), .int 114])).length) Slot.unset).toArray = ls at hl ⊢
  have hl : lv_has ls 2 [(0, .ref (adV 0)), (1, .int 114)] := hl
  refine lv_iload_n hx hb dJ1_charAt_3b067_0 rfl (lv_at hl 1 rfl) ?_
  refine lv_aload_n hx hb dJ1_charAt_3b067_1 rfl (lv_at hl 0 rfl) ?_
  refine va_tlen (v := 140) hx hb (hE.1.1 0 (by decide)).2.2.2 hS (by decide) dJ1_charAt_3b067_2 ?_
  have hPc := hP.sub (ws' := []) [] rfl
  have hDc := hD.sub (ws' := []) [] (by decide) rfl
  have hKc := hK.sub (tys' := []) [] rfl
  have hFc := va_free (wc := []) hD hS hA [] rfl
  refine va_callv (va_runS (As := [.int 114, .int 140]) (rest := []) ⟨hx, hb, hml, hown, hG⟩ (cJ0_checkIndex_df160_4 l dC dI adK adV s.heap.size) (va_cwS 2 hG (gS wd_256 wd_257 wd_12 wd_258) rfl rfl rfl (by decide +kernel) ⟨Nat.le_of_ble_eq_true rfl, Nat.le_of_ble_eq_true rfl⟩) ⟨fun a U g mk q => by obtain ⟨q0, q1, qP, qK, qD, qE⟩ := q; exact ⟨q0, q1, qP, va_K.moved (u := U) (U := U.calling g mk a) (Vm.Alike.refl U.vm) qK, qD, qE.same rfl⟩, fun U hU hW => ⟨rfl, by rw [hU], by rw [hU]; exact hPc, va_K.moved hW.alike hKc, hDc.weaken (fun _ _ _ _ => trivial), by rw [hU]; exact ((hE.kept hS.2.1).narrow hFc).warm hW⟩⟩ rfl rfl hl.1 rfl (lv_room (Nat.le_of_ble_eq_true rfl)) dJ1_charAt_3b067_3 ⟨by decide, by decide⟩) hS (fun q _ h => hFc q h) hFc (fun u2 t H1 locs ht hvm hw hB hz1 hk1 hS => ?_)
  obtain ⟨hP1, hK1, hD1⟩ := hB
  rw [ht] at hP1
  have hK1 := va_K.moved hvm.symm hK1
  obtain ⟨hP, hD⟩ := va_join (wr := []) (w1 := []) hP hD [] [] rfl rfl (by decide) (by decide) hk1 hFc hP1 hD1
  have hK := (hK.sub (tys' := []) [] rfl).app hK1
  generalize H1 = H at hP hS ⊢
  have hP : va_P (dC, dI) vwCl [] H := hP
  have hD : va_D A [] := hD
  have hK : va_K (dC, dI) vwCl [] s := hK
  refine lv_aload_n hx hb dJ1_charAt_3b067_6 rfl (lv_at hl 0 rfl) ?_
  refine lv_iload_n hx hb dJ1_charAt_3b067_7 rfl (lv_at hl 1 rfl) ?_
  refine va_tb (v := .int 114) hx hb (hE.1.1 0 (by decide)).2.2.2 hS (iv_in (by decide : iv 114 114 114) (by decide) (by decide) : vp_in 114 140) rfl dJ1_charAt_3b067_8 ?_
  refine lv_sipush (v := 255) hx hb dJ1_charAt_3b067_9 (by decide) ?_
  refine lv_iand hx hb dJ1_charAt_3b067_12 ?_
  refine lv_val (y := 114) (by decide +kernel) ?_
  refine lv_i2c (v := _) hx hb dJ1_charAt_3b067_13 rfl ?_
  refine lv_val (y := 114) (by decide +kernel) ?_
  have hP9 := hP.sub (ws' := []) [] rfl
  have hD9 := hD.sub (ws' := []) [] (by decide) rfl
  have hK9 := hK.sub (tys' := []) [] rfl
  exact W.zret (v := 114) hx hb hr rfl (fun t ht hW => ⟨⟨114, (), rfl, ⟨rfl, trivial⟩, by rw [ht]; exact hP9, va_K.moved hW.alike hK9, hD9⟩, hS.F ht⟩) hS.2.2 dJ1_charAt_3b067_14
set_option maxHeartbeats 4000000 in
set_option maxRecDepth 100000 in
theorem cJ0_charAt_5068e_4 (l : Launch) (dC : Nat → ClassId) (dI : Nat → Nat → Nat) (adK adV : Nat → Nat) (sz : Nat) : Met l yJ0_charAt_5068e (Cond.code yJ0_charAt_5068e cJ0_charAt_5068e 2 (some .char) :: lw_G) ({ frames := 3, cells := 0, slots := 0, locals := 64 }) (va_Pc [.ref (adK 0), .int 114] (fun U => U.heap.size = sz ∧ va_P (dC, dI) vwCl [] U.heap ∧ va_K (dC, dI) vwCl [] U ∧ va_D (fun _ => True) [] ∧ ev adK adV (va_A [] sz) U U.heap)) (va_Qi (fun (r : Int32) (u : Unit) => r = 114 ∧ True) (fun (u : Unit) (t : State) => va_P (dC, dI) vwCl [] t.heap ∧ va_K (dC, dI) vwCl [] t ∧ va_D (va_A [] sz) []) (va_A [] sz)) 0 0 (va_A [] sz) := by
  refine Met.ofW (cc := cJ0_charAt_5068e) (maxL := 2) (ret := (some .char)) (by decide) rfl ?_
  intro p e s m args below meth c s₁ B hml hv
  obtain ⟨rfl, hsz, hP, hK, hD0, hE⟩ := hv
  have hx := B.exec
  have hb := B.bytes
  have hr := B.returns
  have hts0 := atoms_spec (ws := Cond.code yJ0_charAt_5068e cJ0_charAt_5068e 2 (some .char) :: lw_G) B.pre
  have hG : ∀ w ∈ lw_G, w.before _ s = true := fun w h => hts0 w (List.mem_cons_of_mem _ h)
  have hown : s.vm.findClass RJ0 = some m.cls := findClass_of_methodNamed B.named
  have hlocks := B.notSynchronized
  subst hsz
  have hD := hD0.self (sz := s.heap.size)
  generalize hAe : va_A [] s.heap.size = A at hD hE ⊢
  have hA : ∀ q : Nat, s.heap.size ≤ q → A q := fun q h => by rw [← hAe]; exact Or.inr h
  have hS : va_S A s.heap s.heap [] := va_S.rf
  have hP : va_P (dC, dI) vwCl [] s.heap := hP
  have hl := lv_entry ([.ref (adK 0), .int 114]) (n := 2) (Nat.le_of_ble_eq_true rfl)
  rw [lg_entry_eq]
  generalize (lg_sl ([.ref (adK 0), .int 114]) ++ List.replicate (2 - (lg_sl ([.ref (adK 0), .int 114])).length) Slot.unset).toArray = ls at hl ⊢
  have hl : lv_has ls 2 [(0, .ref (adK 0)), (1, .int 114)] := hl
  refine lv_aload_n hx hb dJ0_charAt_5068e_0 rfl (lv_at hl 0 rfl) ?_
  have hPc := hP.sub (ws' := []) [] rfl
  have hDc := hD.sub (ws' := []) [] (by decide) rfl
  have hKc := hK.sub (tys' := []) [] rfl
  have hFc := va_free (wc := []) hD hS hA [] rfl
  refine va_calli (va_runV (As := []) (rest := []) ⟨hx, hb, hml, hown, hG⟩ (cJ0_isLatin1_aae02_1 l dC dI adK adV s.heap.size) (cwV 0 hG (gV wd_249 wd_250 wd_251 wd_12 wd_252) rfl rfl rfl (by decide +kernel) ⟨Nat.le_of_ble_eq_true rfl, Nat.le_of_ble_eq_true rfl⟩) ⟨fun a U g mk q => by obtain ⟨q0, q1, qP, qK, qD, qE⟩ := q; exact ⟨q0, q1, qP, va_K.moved (u := U) (U := U.calling g mk a) (Vm.Alike.refl U.vm) qK, qD, qE.same rfl⟩, vk_recv hE.1 (i := 0) (by decide) hS, fun U hU hW => ⟨rfl, by rw [hU], by rw [hU]; exact hPc, va_K.moved hW.alike hKc, hDc.weaken (fun _ _ _ _ => trivial), by rw [hU]; exact ((hE.kept hS.2.1).narrow hFc).warm hW⟩⟩ rfl rfl hl.1 rfl (lv_room (Nat.le_of_ble_eq_true rfl)) dJ0_charAt_5068e_1 ⟨by decide, by decide⟩) hS (fun q _ h => hFc q h) hFc (fun r1 u2 t H1 locs ht hvm hw hB hz1 hk1 hS => ?_)
  have hw : r1 = 1 ∧ True := hw
  obtain ⟨er1, -⟩ := hw
  obtain ⟨hP1, hK1, hD1⟩ := hB
  rw [ht] at hP1
  have hK1 := va_K.moved hvm.symm hK1
  obtain ⟨hP, hD⟩ := va_join (wr := []) (w1 := []) hP hD [] [] rfl rfl (by decide) (by decide) hk1 hFc hP1 hD1
  have hK := (hK.sub (tys' := []) [] rfl).app hK1
  generalize H1 = H at hP hS ⊢
  have hP : va_P (dC, dI) vwCl [] H := hP
  have hD : va_D A [] := hD
  have hK : va_K (dC, dI) vwCl [] s := hK
  subst er1
  refine lv_if_eq (tgt := 16) hx hb dJ0_charAt_5068e_4 (by decide) (fun c => absurd c (by decide)) (fun _ => ?_)
  refine lv_aload_n hx hb dJ0_charAt_5068e_7 rfl (lv_at hl 0 rfl) ?_
  refine vk_getf hx hb (hE.1.1 0 (by decide)).2.2.1 hS hown (hG _ wd_1893) (fun _ h9 => h9) dJ0_charAt_5068e_8 ?_
  refine lv_iload_n hx hb dJ0_charAt_5068e_11 rfl (lv_at hl 1 rfl) ?_
  have hPc := hP.sub (ws' := []) [] rfl
  have hDc := hD.sub (ws' := []) [] (by decide) rfl
  have hKc := hK.sub (tys' := []) [] rfl
  have hFc := va_free (wc := []) hD hS hA [] rfl
  refine va_calli (va_runS (As := [.ref (adV 0), .int 114]) (rest := []) ⟨hx, hb, hml, hown, hG⟩ (cJ1_charAt_3b067_4 l dC dI adK adV H.size) (va_cwS 2 hG (gS wd_253 wd_254 wd_13 wd_255) rfl rfl rfl (by decide +kernel) ⟨Nat.le_of_ble_eq_true rfl, Nat.le_of_ble_eq_true rfl⟩) ⟨fun a U g mk q => by obtain ⟨q0, q1, qP, qK, qD, qE⟩ := q; exact ⟨q0, q1, qP, va_K.moved (u := U) (U := U.calling g mk a) (Vm.Alike.refl U.vm) qK, qD, qE.same rfl⟩, fun U hU hW => ⟨rfl, by rw [hU], by rw [hU]; exact hPc, va_K.moved hW.alike hKc, hDc.weaken (fun _ _ _ _ => trivial), by rw [hU]; exact ((hE.kept hS.2.1).narrow hFc).warm hW⟩⟩ rfl rfl hl.1 rfl (lv_room (Nat.le_of_ble_eq_true rfl)) dJ0_charAt_5068e_12 ⟨by decide, by decide⟩) hS (fun q _ h => hFc q h) hFc (fun r3 u4 t H1 locs ht hvm hw hB hz1 hk1 hS => ?_)
  have hw : r3 = 114 ∧ True := hw
  obtain ⟨er3, -⟩ := hw
  obtain ⟨hP1, hK1, hD1⟩ := hB
  rw [ht] at hP1
  have hK1 := va_K.moved hvm.symm hK1
  obtain ⟨hP, hD⟩ := va_join (wr := []) (w1 := []) hP hD [] [] rfl rfl (by decide) (by decide) hk1 hFc hP1 hD1
  have hK := (hK.sub (tys' := []) [] rfl).app hK1
  generalize H1 = H at hP hS ⊢
  have hP : va_P (dC, dI) vwCl [] H := hP
  have hD : va_D A [] := hD
  have hK : va_K (dC, dI) vwCl [] s := hK
  subst er3
  have hP9 := hP.sub (ws' := []) [] rfl
  have hD9 := hD.sub (ws' := []) [] (by decide) rfl
  have hK9 := hK.sub (tys' := []) [] rfl
  exact W.zret (v := 114) hx hb hr rfl (fun t ht hW => ⟨⟨114, (), rfl, ⟨rfl, trivial⟩, by rw [ht]; exact hP9, va_K.moved hW.alike hK9, hD9⟩, hS.F ht⟩) hS.2.2 dJ0_charAt_5068e_15
set_option maxHeartbeats 4000000 in
set_option maxRecDepth 100000 in
theorem cX10_nameSign_7 (l : Launch) (dC : Nat → ClassId) (dI : Nat → Nat → Nat) (adK adV : Nat → Nat) (sz : Nat) : Met l yX10_nameSign (Cond.code yX10_nameSign cX10_nameSign 3 (some .int) :: lw_G) ({ frames := 4, cells := 0, slots := 0, locals := 85 }) (va_Pc [.int 28, .int 2] (fun U => U.heap.size = sz ∧ va_P (dC, dI) vwCl [] U.heap ∧ va_K (dC, dI) vwCl [] U ∧ va_D (fun _ => True) [] ∧ ev adK adV (va_A [] sz) U U.heap)) (va_Qi (fun (r : Int32) (u : Unit) => r = 114 ∧ True) (fun (u : Unit) (t : State) => va_P (dC, dI) vwCl [] t.heap ∧ va_K (dC, dI) vwCl [] t ∧ va_D (va_A [] sz) []) (va_A [] sz)) 0 0 (va_A [] sz) := by
  refine Met.ofW (cc := cX10_nameSign) (maxL := 3) (ret := (some .int)) (by decide) rfl ?_
  intro p e s m args below meth c s₁ B hml hv
  obtain ⟨rfl, hsz, hP, hK, hD0, hE⟩ := hv
  have hx := B.exec
  have hb := B.bytes
  have hr := B.returns
  have hts0 := atoms_spec (ws := Cond.code yX10_nameSign cX10_nameSign 3 (some .int) :: lw_G) B.pre
  have hG : ∀ w ∈ lw_G, w.before _ s = true := fun w h => hts0 w (List.mem_cons_of_mem _ h)
  have hown : s.vm.findClass RX10 = some m.cls := findClass_of_methodNamed B.named
  have hlocks := B.notSynchronized
  subst hsz
  have hD := hD0.self (sz := s.heap.size)
  generalize hAe : va_A [] s.heap.size = A at hD hE ⊢
  have hA : ∀ q : Nat, s.heap.size ≤ q → A q := fun q h => by rw [← hAe]; exact Or.inr h
  have hS : va_S A s.heap s.heap [] := va_S.rf
  have hP : va_P (dC, dI) vwCl [] s.heap := hP
  have hl := lv_entry ([.int 28, .int 2]) (n := 3) (Nat.le_of_ble_eq_true rfl)
  rw [lg_entry_eq]
  generalize (lg_sl ([.int 28, .int 2]) ++ List.replicate (3 - (lg_sl ([.int 28, .int 2])).length) Slot.unset).toArray = ls at hl ⊢
  have hl : lv_has ls 3 [(0, .int 28), (1, .int 2)] := hl
  refine lv_iload_n hx hb dX10_nameSign_0 rfl (lv_at hl 0 rfl) ?_
  refine lv_iconst (v := 4) hx hb dX10_nameSign_1 (by decide) ?_
  refine lv_imul hx hb dX10_nameSign_2 ?_
  refine lv_val (y := 112) (by decide +kernel) ?_
  refine lv_iload_n hx hb dX10_nameSign_3 rfl (lv_at hl 1 rfl) ?_
  refine lv_iadd hx hb dX10_nameSign_4 ?_
  refine lv_val (y := 114) (by decide +kernel) ?_
  refine lv_istore_n (lv' := [(2, .int 114), (0, .int 28), (1, .int 2)]) hx hb dX10_nameSign_5 rfl hl (by decide) rfl (fun ls hl => ?_)
  refine lv_iload_n hx hb dX10_nameSign_6 rfl (lv_at hl 2 rfl) ?_
  refine lv_iconst (v := 4) hx hb dX10_nameSign_7 (by decide) ?_
  refine lv_icmp_ge (tgt := 33) hx hb dX10_nameSign_8 (by decide) (fun c => absurd c (by decide)) (fun _ => ?_)
  refine lv_iload_n hx hb dX10_nameSign_11 rfl (lv_at hl 0 rfl) ?_
  refine lv_if_lt (tgt := 33) hx hb dX10_nameSign_12 (by decide) (fun c => absurd c (by decide)) (fun _ => ?_)
  refine lv_iload_n hx hb dX10_nameSign_15 rfl (lv_at hl 0 rfl) ?_
  refine va_ldcS (q := adK 0) hx hb hown (evR0 hE) dX10_nameSign_16 ?_
  have hPc := hP.sub (ws' := []) [] rfl
  have hDc := hD.sub (ws' := []) [] (by decide) rfl
  have hKc := hK.sub (tys' := []) [] rfl
  have hFc := va_free (wc := []) hD hS hA [] rfl
  refine va_calli (va_runV (As := []) (rest := [.int 114]) ⟨hx, hb, hml, hown, hG⟩ (cJ0_length_8abf5_1 l dC dI adK adV s.heap.size) (cwV 0 hG (gV wd_235 wd_236 wd_237 wd_12 wd_238) rfl rfl rfl (by decide +kernel) ⟨Nat.le_of_ble_eq_true rfl, Nat.le_of_ble_eq_true rfl⟩) ⟨fun a U g mk q => by obtain ⟨q0, q1, qP, qK, qD, qE⟩ := q; exact ⟨q0, q1, qP, va_K.moved (u := U) (U := U.calling g mk a) (Vm.Alike.refl U.vm) qK, qD, qE.same rfl⟩, vk_recv hE.1 (i := 0) (by decide) hS, fun U hU hW => ⟨rfl, by rw [hU], by rw [hU]; exact hPc, va_K.moved hW.alike hKc, hDc.weaken (fun _ _ _ _ => trivial), by rw [hU]; exact ((hE.kept hS.2.1).narrow hFc).warm hW⟩⟩ rfl rfl hl.1 rfl (lv_room (Nat.le_of_ble_eq_true rfl)) dX10_nameSign_18 ⟨by decide, by decide⟩) hS (fun q _ h => hFc q h) hFc (fun r1 u2 t H1 locs ht hvm hw hB hz1 hk1 hS => ?_)
  have hw : r1 = 140 ∧ True := hw
  obtain ⟨er1, -⟩ := hw
  obtain ⟨hP1, hK1, hD1⟩ := hB
  rw [ht] at hP1
  have hK1 := va_K.moved hvm.symm hK1
  obtain ⟨hP, hD⟩ := va_join (wr := []) (w1 := []) hP hD [] [] rfl rfl (by decide) (by decide) hk1 hFc hP1 hD1
  have hK := (hK.sub (tys' := []) [] rfl).app hK1
  generalize H1 = H at hP hS ⊢
  have hP : va_P (dC, dI) vwCl [] H := hP
  have hD : va_D A [] := hD
  have hK : va_K (dC, dI) vwCl [] s := hK
  subst er1
  refine lv_icmp_ge (tgt := 33) hx hb dX10_nameSign_21 (by decide) (fun c => absurd c (by decide)) (fun _ => ?_)
  refine va_ldcS (q := adK 0) hx hb hown (evR0 hE) dX10_nameSign_24 ?_
  refine lv_iload_n hx hb dX10_nameSign_26 rfl (lv_at hl 0 rfl) ?_
  have hPc := hP.sub (ws' := []) [] rfl
  have hDc := hD.sub (ws' := []) [] (by decide) rfl
  have hKc := hK.sub (tys' := []) [] rfl
  have hFc := va_free (wc := []) hD hS hA [] rfl
  refine va_calli (va_runV (As := [.int 114]) (rest := []) ⟨hx, hb, hml, hown, hG⟩ (cJ0_charAt_5068e_4 l dC dI adK adV H.size) (cwV 1 hG (gV wd_245 wd_246 wd_247 wd_12 wd_248) rfl rfl rfl (by decide +kernel) ⟨Nat.le_of_ble_eq_true rfl, Nat.le_of_ble_eq_true rfl⟩) ⟨fun a U g mk q => by obtain ⟨q0, q1, qP, qK, qD, qE⟩ := q; exact ⟨q0, q1, qP, va_K.moved (u := U) (U := U.calling g mk a) (Vm.Alike.refl U.vm) qK, qD, qE.same rfl⟩, vk_recv hE.1 (i := 0) (by decide) hS, fun U hU hW => ⟨rfl, by rw [hU], by rw [hU]; exact hPc, va_K.moved hW.alike hKc, hDc.weaken (fun _ _ _ _ => trivial), by rw [hU]; exact ((hE.kept hS.2.1).narrow hFc).warm hW⟩⟩ rfl rfl hl.1 rfl (lv_room (Nat.le_of_ble_eq_true rfl)) dX10_nameSign_27 ⟨by decide, by decide⟩) hS (fun q _ h => hFc q h) hFc (fun r3 u4 t H1 locs ht hvm hw hB hz1 hk1 hS => ?_)
  have hw : r3 = 114 ∧ True := hw
  obtain ⟨er3, -⟩ := hw
  obtain ⟨hP1, hK1, hD1⟩ := hB
  rw [ht] at hP1
  have hK1 := va_K.moved hvm.symm hK1
  obtain ⟨hP, hD⟩ := va_join (wr := []) (w1 := []) hP hD [] [] rfl rfl (by decide) (by decide) hk1 hFc hP1 hD1
  have hK := (hK.sub (tys' := []) [] rfl).app hK1
  generalize H1 = H at hP hS ⊢
  have hP : va_P (dC, dI) vwCl [] H := hP
  have hD : va_D A [] := hD
  have hK : va_K (dC, dI) vwCl [] s := hK
  subst er3
  refine lv_goto (tgt := 35) hx hb dX10_nameSign_30 (by decide) ?_
  have hP9 := hP.sub (ws' := []) [] rfl
  have hD9 := hD.sub (ws' := []) [] (by decide) rfl
  have hK9 := hK.sub (tys' := []) [] rfl
  exact W.iret (v := 114) hx hb hr (fun t ht hW => ⟨⟨114, (), rfl, ⟨rfl, trivial⟩, by rw [ht]; exact hP9, va_K.moved hW.alike hK9, hD9⟩, hS.F ht⟩) hS.2.2 dX10_nameSign_35
set_option maxHeartbeats 4000000 in
set_option maxRecDepth 100000 in
theorem cX8_put_3 (l : Launch) (dC : Nat → ClassId) (dI : Nat → Nat → Nat) (h0 h1 h2 : Nat) (y0 : ClassId) (sz : Nat) (x0 x1 : Int32) (f0 : Nat → Int32) (ix0 : iv x0 0 65535) (ix1 : iv x1 2 65536) (if0 : ∀ j, iv (f0 j) 0 119) (kf0_0 : f0 0 = 119) (kf0_1 : f0 1 = 111) : Met l yX8_put (Cond.code yX8_put cX8_put 2 none :: lw_G) ({ frames := 0, cells := 0, slots := 0, locals := 0 }) (va_Pc [.ref h0, .int 114] (fun U => U.heap.size = sz ∧ va_P (dC, dI) vwCl [(h0, .inr (8, [.ref h1, .ref h2, .int 2, .int x0, .int x1])), (h1, .inl (y0, 64, .inl f0))] U.heap ∧ va_K (dC, dI) vwCl [(y0, .int)] U ∧ va_D (fun _ => True) [(h0, .inr (8, [.ref h1, .ref h2, .int 2, .int x0, .int x1])), (h1, .inl (y0, 64, .inl f0))])) (va_Qv (fun (u : (Nat → Int32)) => (∀ j, iv (u j) 0 119) ∧ u 0 = 119 ∧ u 1 = 111 ∧ u 2 = 114 ∧ True) (fun (u : (Nat → Int32)) (t : State) => va_P (dC, dI) vwCl [(h0, .inr (8, [.ref h1, .ref h2, .int 3, .int x0, .int x1])), (h1, .inl (y0, 64, .inl u))] t.heap ∧ va_K (dC, dI) vwCl [(y0, .int)] t ∧ va_D (va_A [(h0, .inr (8, [.ref h1, .ref h2, .int 2, .int x0, .int x1])), (h1, .inl (y0, 64, .inl f0))] sz) [(h0, .inr (8, [.ref h1, .ref h2, .int 3, .int x0, .int x1])), (h1, .inl (y0, 64, .inl u))]) (va_A [(h0, .inr (8, [.ref h1, .ref h2, .int 2, .int x0, .int x1])), (h1, .inl (y0, 64, .inl f0))] sz)) 0 0 (va_A [(h0, .inr (8, [.ref h1, .ref h2, .int 2, .int x0, .int x1])), (h1, .inl (y0, 64, .inl f0))] sz) := by
  refine Met.ofW (cc := cX8_put) (maxL := 2) (ret := none) (by decide) rfl ?_
  intro p e s m args below meth c s₁ B hml hv
  obtain ⟨rfl, hsz, hP, hK, hD0⟩ := hv
  have hx := B.exec
  have hb := B.bytes
  have hr := B.returns
  have hts0 := atoms_spec (ws := Cond.code yX8_put cX8_put 2 none :: lw_G) B.pre
  have hG : ∀ w ∈ lw_G, w.before _ s = true := fun w h => hts0 w (List.mem_cons_of_mem _ h)
  have hown : s.vm.findClass RX8 = some m.cls := findClass_of_methodNamed B.named
  have hlocks := B.notSynchronized
  subst hsz
  have hD := hD0.self (sz := s.heap.size)
  generalize hAe : va_A [(h0, .inr (8, [.ref h1, .ref h2, .int 2, .int x0, .int x1])), (h1, .inl (y0, 64, .inl f0))] s.heap.size = A at hD ⊢
  have hA : ∀ q : Nat, s.heap.size ≤ q → A q := fun q h => by rw [← hAe]; exact Or.inr h
  have hS : va_S A s.heap s.heap [] := va_S.rf
  have hP : va_P (dC, dI) vwCl [(h0, .inr (8, [.ref h1, .ref h2, .int 2, .int x0, .int x1])), (h1, .inl (y0, 64, .inl f0))] s.heap := hP
  have hl := lv_entry ([.ref h0, .int 114]) (n := 2) (Nat.le_of_ble_eq_true rfl)
  rw [lg_entry_eq]
  generalize (lg_sl ([.ref h0, .int 114]) ++ List.replicate (2 - (lg_sl ([.ref h0, .int 114])).length) Slot.unset).toArray = ls at hl ⊢
  have hl : lv_has ls 2 [(0, .ref h0), (1, .int 114)] := hl
  refine lv_aload_n hx hb dX8_put_0 rfl (lv_at hl 0 rfl) ?_
  refine va_get (D := (dC, dI)) (ci := 8) (v := .int 2) (C := RX8) (T := TX8) (N := 5) hx hb hG inGX8 hown hK hP 0 rfl rfl 2 (by decide) (hG _ wd_381) (fun _ h9 => h9) rfl dX8_put_1 ?_
  refine lv_bipush (v := 64) hx hb dX8_put_4 (by decide) ?_
  refine lv_icmp_ge (tgt := 29) hx hb dX8_put_6 (by decide) (fun c => absurd c (by decide)) (fun _ => ?_)
  refine lv_aload_n hx hb dX8_put_9 rfl (lv_at hl 0 rfl) ?_
  refine va_get (D := (dC, dI)) (ci := 8) (v := .ref h1) (C := RX8) (T := TX8) (N := 5) hx hb hG inGX8 hown hK hP 0 rfl rfl 0 (by decide) (hG _ wd_379) (fun _ h9 => h9) rfl dX8_put_10 ?_
  refine lv_aload_n hx hb dX8_put_13 rfl (lv_at hl 0 rfl) ?_
  refine va_get (D := (dC, dI)) (ci := 8) (v := .int 2) (C := RX8) (T := TX8) (N := 5) hx hb hG inGX8 hown hK hP 0 rfl rfl 2 (by decide) (hG _ wd_381) (fun _ h9 => h9) rfl dX8_put_14 ?_
  refine lv_iload_n hx hb dX8_put_17 rfl (lv_at hl 1 rfl) ?_
  refine va_iast hx hb hK hP hD hS 1 0 rfl rfl (iv_in (by decide : iv 2 2 2) (by decide) (by decide) : vp_in 2 64) dX8_put_18 (fun H locs hP hD hS => ?_)
  have hP : va_P (dC, dI) vwCl [(h0, .inr (8, [.ref h1, .ref h2, .int 2, .int x0, .int x1])), (h1, .inl (y0, 64, .inl (upd f0 (2 : Int32).toNatClampNeg 114)))] H := hP
  have hD : va_D A [(h0, .inr (8, [.ref h1, .ref h2, .int 2, .int x0, .int x1])), (h1, .inl (y0, 64, .inl (upd f0 (2 : Int32).toNatClampNeg 114)))] := hD
  obtain ⟨f1, ef1⟩ : ∃ z, z = upd f0 (2 : Int32).toNatClampNeg 114 := ⟨_, rfl⟩
  rw [← ef1] at hP hD
  have if1 : ∀ j, iv (f1 j) 0 119 := by rw [ef1]; exact iv_upd if0 (by decide : iv 114 114 114) (by decide) (by decide) (by decide) (by decide)
  refine lv_aload_n hx hb dX8_put_19 rfl (lv_at hl 0 rfl) ?_
  refine lv_dup hx hb dX8_put_20 rfl ?_
  refine va_get (D := (dC, dI)) (ci := 8) (v := .int 2) (C := RX8) (T := TX8) (N := 5) hx hb hG inGX8 hown hK hP 0 rfl rfl 2 (by decide) (hG _ wd_381) (fun _ h9 => h9) rfl dX8_put_21 ?_
  refine lv_iconst (v := 1) hx hb dX8_put_24 (by decide) ?_
  refine lv_iadd hx hb dX8_put_25 ?_
  refine lv_val (y := 3) (by decide +kernel) ?_
  refine va_put (D := (dC, dI)) (ci := 8) (v := .int 3) (ty := .int) (C := RX8) (T := TX8) (N := 5) hx hb hG inGX8 tyX8 tyX8_ok nmX8 hown hK hP hD hS 0 rfl rfl 2 (by decide) (hG _ wd_381) (fun _ h9 => h9) rfl (by decide +kernel) rfl rfl (Nat.le_of_ble_eq_true rfl) dX8_put_26 (fun H locs hP hD hS => ?_)
  have hP : va_P (dC, dI) vwCl [(h0, .inr (8, [.ref h1, .ref h2, .int 3, .int x0, .int x1])), (h1, .inl (y0, 64, .inl f1))] H := hP
  have hD : va_D A [(h0, .inr (8, [.ref h1, .ref h2, .int 3, .int x0, .int x1])), (h1, .inl (y0, 64, .inl f1))] := hD
  have hP9 := hP.sub (ws' := [(h0, .inr (8, [.ref h1, .ref h2, .int 3, .int x0, .int x1])), (h1, .inl (y0, 64, .inl f1))]) [0, 1] rfl
  have hD9 := hD.sub (ws' := [(h0, .inr (8, [.ref h1, .ref h2, .int 3, .int x0, .int x1])), (h1, .inl (y0, 64, .inl f1))]) [0, 1] (by decide) rfl
  have hK9 := hK.sub (tys' := [(y0, .int)]) [0] rfl
  exact W.vret hx hb hr (fun t ht hW => ⟨⟨f1, rfl, ⟨(fun j => iv_w (if1 j) (by decide) (by decide)), (kn ef1 (by decide) kf0_0), (kn ef1 (by decide) kf0_1), (ku ef1 (by decide)), trivial⟩, by rw [ht]; exact hP9, va_K.moved hW.alike hK9, hD9⟩, hS.F ht⟩) hS.2.2 dX8_put_29
set_option maxHeartbeats 4000000 in
set_option maxRecDepth 100000 in
theorem cJ3_checkIndex_8e157_9 (l : Launch) (dC : Nat → ClassId) (dI : Nat → Nat → Nat) (sz : Nat) : Met l yJ3_checkIndex_8e157 (Cond.code yJ3_checkIndex_8e157 cJ3_checkIndex_8e157 3 (some .int) :: lw_G) ({ frames := 0, cells := 0, slots := 0, locals := 0 }) (va_Pc [.int 115, .int 140, .null] (fun U => U.heap.size = sz ∧ va_P (dC, dI) vwCl [] U.heap ∧ va_K (dC, dI) vwCl [] U ∧ va_D (fun _ => True) [])) (va_Qi (fun (r : Int32) (u : Unit) => r = 115 ∧ True) (fun (u : Unit) (t : State) => va_P (dC, dI) vwCl [] t.heap ∧ va_K (dC, dI) vwCl [] t ∧ va_D (va_A [] sz) []) (va_A [] sz)) 0 0 (va_A [] sz) := by
  refine Met.ofW (cc := cJ3_checkIndex_8e157) (maxL := 3) (ret := (some .int)) (by decide) rfl ?_
  intro p e s m args below meth c s₁ B hml hv
  obtain ⟨rfl, hsz, hP, hK, hD0⟩ := hv
  have hx := B.exec
  have hb := B.bytes
  have hr := B.returns
  have hts0 := atoms_spec (ws := Cond.code yJ3_checkIndex_8e157 cJ3_checkIndex_8e157 3 (some .int) :: lw_G) B.pre
  have hG : ∀ w ∈ lw_G, w.before _ s = true := fun w h => hts0 w (List.mem_cons_of_mem _ h)
  have hown : s.vm.findClass RJ3 = some m.cls := findClass_of_methodNamed B.named
  have hlocks := B.notSynchronized
  subst hsz
  have hD := hD0.self (sz := s.heap.size)
  generalize hAe : va_A [] s.heap.size = A at hD ⊢
  have hA : ∀ q : Nat, s.heap.size ≤ q → A q := fun q h => by rw [← hAe]; exact Or.inr h
  have hS : va_S A s.heap s.heap [] := va_S.rf
  have hP : va_P (dC, dI) vwCl [] s.heap := hP
  have hl := lv_entry ([.int 115, .int 140, .null]) (n := 3) (Nat.le_of_ble_eq_true rfl)
  rw [lg_entry_eq]
  generalize (lg_sl ([.int 115, .int 140, .null]) ++ List.replicate (3 - (lg_sl ([.int 115, .int 140, .null])).length) Slot.unset).toArray = ls at hl ⊢
  have hl : lv_has ls 3 [(0, .int 115), (1, .int 140), (2, .null)] := hl
  refine lv_iload_n hx hb dJ3_checkIndex_8e157_0 rfl (lv_at hl 0 rfl) ?_
  refine lv_if_lt (tgt := 9) hx hb dJ3_checkIndex_8e157_1 (by decide) (fun c => absurd c (by decide)) (fun _ => ?_)
  refine lv_iload_n hx hb dJ3_checkIndex_8e157_4 rfl (lv_at hl 0 rfl) ?_
  refine lv_iload_n hx hb dJ3_checkIndex_8e157_5 rfl (lv_at hl 1 rfl) ?_
  refine lv_icmp_lt (tgt := 16) hx hb dJ3_checkIndex_8e157_6 (by decide) (fun _ => ?_) (fun c => absurd (by decide) c)
  refine lv_iload_n hx hb dJ3_checkIndex_8e157_16 rfl (lv_at hl 0 rfl) ?_
  have hP9 := hP.sub (ws' := []) [] rfl
  have hD9 := hD.sub (ws' := []) [] (by decide) rfl
  have hK9 := hK.sub (tys' := []) [] rfl
  exact W.iret (v := 115) hx hb hr (fun t ht hW => ⟨⟨115, (), rfl, ⟨rfl, trivial⟩, by rw [ht]; exact hP9, va_K.moved hW.alike hK9, hD9⟩, hS.F ht⟩) hS.2.2 dJ3_checkIndex_8e157_17
set_option maxHeartbeats 4000000 in
set_option maxRecDepth 100000 in
theorem cJ3_checkIndex_8e157_10 (l : Launch) (dC : Nat → ClassId) (dI : Nat → Nat → Nat) (h0 : Nat) (sz : Nat) : Met l yJ3_checkIndex_8e157 (Cond.code yJ3_checkIndex_8e157 cJ3_checkIndex_8e157 3 (some .int) :: lw_G) ({ frames := 0, cells := 0, slots := 0, locals := 0 }) (va_Pc [.int 115, .int 140, .ref h0] (fun U => U.heap.size = sz ∧ va_P (dC, dI) vwCl [] U.heap ∧ va_K (dC, dI) vwCl [] U ∧ va_D (fun _ => True) [])) (va_Qi (fun (r : Int32) (u : Unit) => r = 115 ∧ True) (fun (u : Unit) (t : State) => va_P (dC, dI) vwCl [] t.heap ∧ va_K (dC, dI) vwCl [] t ∧ va_D (va_A [] sz) []) (va_A [] sz)) 0 0 (va_A [] sz) := by
  refine Met.ofW (cc := cJ3_checkIndex_8e157) (maxL := 3) (ret := (some .int)) (by decide) rfl ?_
  intro p e s m args below meth c s₁ B hml hv
  obtain ⟨rfl, hsz, hP, hK, hD0⟩ := hv
  have hx := B.exec
  have hb := B.bytes
  have hr := B.returns
  have hts0 := atoms_spec (ws := Cond.code yJ3_checkIndex_8e157 cJ3_checkIndex_8e157 3 (some .int) :: lw_G) B.pre
  have hG : ∀ w ∈ lw_G, w.before _ s = true := fun w h => hts0 w (List.mem_cons_of_mem _ h)
  have hown : s.vm.findClass RJ3 = some m.cls := findClass_of_methodNamed B.named
  have hlocks := B.notSynchronized
  subst hsz
  have hD := hD0.self (sz := s.heap.size)
  generalize hAe : va_A [] s.heap.size = A at hD ⊢
  have hA : ∀ q : Nat, s.heap.size ≤ q → A q := fun q h => by rw [← hAe]; exact Or.inr h
  have hS : va_S A s.heap s.heap [] := va_S.rf
  have hP : va_P (dC, dI) vwCl [] s.heap := hP
  have hl := lv_entry ([.int 115, .int 140, .ref h0]) (n := 3) (Nat.le_of_ble_eq_true rfl)
  rw [lg_entry_eq]
  generalize (lg_sl ([.int 115, .int 140, .ref h0]) ++ List.replicate (3 - (lg_sl ([.int 115, .int 140, .ref h0])).length) Slot.unset).toArray = ls at hl ⊢
  have hl : lv_has ls 3 [(0, .int 115), (1, .int 140), (2, .ref h0)] := hl
  refine lv_iload_n hx hb dJ3_checkIndex_8e157_0 rfl (lv_at hl 0 rfl) ?_
  refine lv_if_lt (tgt := 9) hx hb dJ3_checkIndex_8e157_1 (by decide) (fun c => absurd c (by decide)) (fun _ => ?_)
  refine lv_iload_n hx hb dJ3_checkIndex_8e157_4 rfl (lv_at hl 0 rfl) ?_
  refine lv_iload_n hx hb dJ3_checkIndex_8e157_5 rfl (lv_at hl 1 rfl) ?_
  refine lv_icmp_lt (tgt := 16) hx hb dJ3_checkIndex_8e157_6 (by decide) (fun _ => ?_) (fun c => absurd (by decide) c)
  refine lv_iload_n hx hb dJ3_checkIndex_8e157_16 rfl (lv_at hl 0 rfl) ?_
  have hP9 := hP.sub (ws' := []) [] rfl
  have hD9 := hD.sub (ws' := []) [] (by decide) rfl
  have hK9 := hK.sub (tys' := []) [] rfl
  exact W.iret (v := 115) hx hb hr (fun t ht hW => ⟨⟨115, (), rfl, ⟨rfl, trivial⟩, by rw [ht]; exact hP9, va_K.moved hW.alike hK9, hD9⟩, hS.F ht⟩) hS.2.2 dJ3_checkIndex_8e157_17
set_option maxHeartbeats 4000000 in
set_option maxRecDepth 100000 in
theorem cJ0_checkIndex_df160_5 (l : Launch) (dC : Nat → ClassId) (dI : Nat → Nat → Nat) (adK adV : Nat → Nat) (sz : Nat) : Met l yJ0_checkIndex_df160 (Cond.code yJ0_checkIndex_df160 cJ0_checkIndex_df160 2 none :: lw_G) ({ frames := 1, cells := 0, slots := 0, locals := 22 }) (va_Pc [.int 115, .int 140] (fun U => U.heap.size = sz ∧ va_P (dC, dI) vwCl [] U.heap ∧ va_K (dC, dI) vwCl [] U ∧ va_D (fun _ => True) [] ∧ ev adK adV (va_A [] sz) U U.heap)) (va_Qv (fun (u : Unit) => True) (fun (u : Unit) (t : State) => va_P (dC, dI) vwCl [] t.heap ∧ va_K (dC, dI) vwCl [] t ∧ va_D (va_A [] sz) []) (va_A [] sz)) 0 0 (va_A [] sz) := by
  refine Met.ofW (cc := cJ0_checkIndex_df160) (maxL := 2) (ret := none) (by decide) rfl ?_
  intro p e s m args below meth c s₁ B hml hv
  obtain ⟨rfl, hsz, hP, hK, hD0, hE⟩ := hv
  have hx := B.exec
  have hb := B.bytes
  have hr := B.returns
  have hts0 := atoms_spec (ws := Cond.code yJ0_checkIndex_df160 cJ0_checkIndex_df160 2 none :: lw_G) B.pre
  have hG : ∀ w ∈ lw_G, w.before _ s = true := fun w h => hts0 w (List.mem_cons_of_mem _ h)
  have hown : s.vm.findClass RJ0 = some m.cls := findClass_of_methodNamed B.named
  have hlocks := B.notSynchronized
  subst hsz
  have hD := hD0.self (sz := s.heap.size)
  generalize hAe : va_A [] s.heap.size = A at hD hE ⊢
  have hA : ∀ q : Nat, s.heap.size ≤ q → A q := fun q h => by rw [← hAe]; exact Or.inr h
  have hS : va_S A s.heap s.heap [] := va_S.rf
  have hP : va_P (dC, dI) vwCl [] s.heap := hP
  have hl := lv_entry ([.int 115, .int 140]) (n := 2) (Nat.le_of_ble_eq_true rfl)
  rw [lg_entry_eq]
  generalize (lg_sl ([.int 115, .int 140]) ++ List.replicate (2 - (lg_sl ([.int 115, .int 140])).length) Slot.unset).toArray = ls at hl ⊢
  have hl : lv_has ls 2 [(0, .int 115), (1, .int 140)] := hl
  refine lv_iload_n hx hb dJ0_checkIndex_df160_0 rfl (lv_at hl 0 rfl) ?_
  refine lv_iload_n hx hb dJ0_checkIndex_df160_1 rfl (lv_at hl 1 rfl) ?_
  rcases hE.2.2.1 with hZ | ⟨t1, hZ⟩
  · skip
    refine va_gets hx hb hZ hS hown (hG _ wd_259) (fun _ h9 => h9) dJ0_checkIndex_df160_2 ?_
    have hPc := hP.sub (ws' := []) [] rfl
    have hDc := hD.sub (ws' := []) [] (by decide) rfl
    have hKc := hK.sub (tys' := []) [] rfl
    have hFc := va_free (wc := []) hD hS hA [] rfl
    refine va_calli (va_runS (As := [.int 115, .int 140, .null]) (rest := []) ⟨hx, hb, hml, hown, hG⟩ (cJ3_checkIndex_8e157_9 l dC dI s.heap.size) (va_cwS 3 hG (gS wd_261 wd_262 wd_14 wd_263) rfl rfl rfl (by decide +kernel) ⟨Nat.le_of_ble_eq_true rfl, Nat.le_of_ble_eq_true rfl⟩) ⟨fun a U g mk q => by obtain ⟨q0, q1, qP, qK, qD⟩ := q; exact ⟨q0, q1, qP, va_K.moved (u := U) (U := U.calling g mk a) (Vm.Alike.refl U.vm) qK, qD⟩, fun U hU hW => ⟨rfl, by rw [hU], by rw [hU]; exact hPc, va_K.moved hW.alike hKc, hDc.weaken (fun _ _ _ _ => trivial)⟩⟩ rfl rfl hl.1 rfl (lv_room (Nat.le_of_ble_eq_true rfl)) dJ0_checkIndex_df160_5 ⟨by decide, by decide⟩) hS (fun q _ h => hFc q h) hFc (fun r2 u3 t H1 locs ht hvm hw hB hz1 hk1 hS => ?_)
    have hw : r2 = 115 ∧ True := hw
    obtain ⟨er2, -⟩ := hw
    obtain ⟨hP1, hK1, hD1⟩ := hB
    rw [ht] at hP1
    have hK1 := va_K.moved hvm.symm hK1
    obtain ⟨hP, hD⟩ := va_join (wr := []) (w1 := []) hP hD [] [] rfl rfl (by decide) (by decide) hk1 hFc hP1 hD1
    have hK := (hK.sub (tys' := []) [] rfl).app hK1
    generalize H1 = H at hP hS ⊢
    have hP : va_P (dC, dI) vwCl [] H := hP
    have hD : va_D A [] := hD
    have hK : va_K (dC, dI) vwCl [] s := hK
    subst er2
    refine lv_pop hx hb dJ0_checkIndex_df160_8 rfl ?_
    have hP9 := hP.sub (ws' := []) [] rfl
    have hD9 := hD.sub (ws' := []) [] (by decide) rfl
    have hK9 := hK.sub (tys' := []) [] rfl
    exact W.vret hx hb hr (fun t ht hW => ⟨⟨(), rfl, trivial, by rw [ht]; exact hP9, va_K.moved hW.alike hK9, hD9⟩, hS.F ht⟩) hS.2.2 dJ0_checkIndex_df160_9
  · skip
    refine va_gets hx hb hZ hS hown (hG _ wd_259) (fun _ h9 => h9) dJ0_checkIndex_df160_2 ?_
    have hPc := hP.sub (ws' := []) [] rfl
    have hDc := hD.sub (ws' := []) [] (by decide) rfl
    have hKc := hK.sub (tys' := []) [] rfl
    have hFc := va_free (wc := []) hD hS hA [] rfl
    refine va_calli (va_runS (As := [.int 115, .int 140, .ref t1]) (rest := []) ⟨hx, hb, hml, hown, hG⟩ (cJ3_checkIndex_8e157_10 l dC dI t1 s.heap.size) (va_cwS 3 hG (gS wd_261 wd_262 wd_14 wd_263) rfl rfl rfl (by decide +kernel) ⟨Nat.le_of_ble_eq_true rfl, Nat.le_of_ble_eq_true rfl⟩) ⟨fun a U g mk q => by obtain ⟨q0, q1, qP, qK, qD⟩ := q; exact ⟨q0, q1, qP, va_K.moved (u := U) (U := U.calling g mk a) (Vm.Alike.refl U.vm) qK, qD⟩, fun U hU hW => ⟨rfl, by rw [hU], by rw [hU]; exact hPc, va_K.moved hW.alike hKc, hDc.weaken (fun _ _ _ _ => trivial)⟩⟩ rfl rfl hl.1 rfl (lv_room (Nat.le_of_ble_eq_true rfl)) dJ0_checkIndex_df160_5 ⟨by decide, by decide⟩) hS (fun q _ h => hFc q h) hFc (fun r4 u5 t H1 locs ht hvm hw hB hz1 hk1 hS => ?_)
    have hw : r4 = 115 ∧ True := hw
    obtain ⟨er4, -⟩ := hw
    obtain ⟨hP1, hK1, hD1⟩ := hB
    rw [ht] at hP1
    have hK1 := va_K.moved hvm.symm hK1
    obtain ⟨hP, hD⟩ := va_join (wr := []) (w1 := []) hP hD [] [] rfl rfl (by decide) (by decide) hk1 hFc hP1 hD1
    have hK := (hK.sub (tys' := []) [] rfl).app hK1
    generalize H1 = H at hP hS ⊢
    have hP : va_P (dC, dI) vwCl [] H := hP
    have hD : va_D A [] := hD
    have hK : va_K (dC, dI) vwCl [] s := hK
    subst er4
    refine lv_pop hx hb dJ0_checkIndex_df160_8 rfl ?_
    have hP9 := hP.sub (ws' := []) [] rfl
    have hD9 := hD.sub (ws' := []) [] (by decide) rfl
    have hK9 := hK.sub (tys' := []) [] rfl
    exact W.vret hx hb hr (fun t ht hW => ⟨⟨(), rfl, trivial, by rw [ht]; exact hP9, va_K.moved hW.alike hK9, hD9⟩, hS.F ht⟩) hS.2.2 dJ0_checkIndex_df160_9
set_option maxHeartbeats 4000000 in
set_option maxRecDepth 100000 in
theorem cJ1_charAt_3b067_5 (l : Launch) (dC : Nat → ClassId) (dI : Nat → Nat → Nat) (adK adV : Nat → Nat) (sz : Nat) : Met l yJ1_charAt_3b067 (Cond.code yJ1_charAt_3b067 cJ1_charAt_3b067 2 (some .char) :: lw_G) ({ frames := 2, cells := 0, slots := 0, locals := 43 }) (va_Pc [.ref (adV 0), .int 115] (fun U => U.heap.size = sz ∧ va_P (dC, dI) vwCl [] U.heap ∧ va_K (dC, dI) vwCl [] U ∧ va_D (fun _ => True) [] ∧ ev adK adV (va_A [] sz) U U.heap)) (va_Qi (fun (r : Int32) (u : Unit) => r = 100 ∧ True) (fun (u : Unit) (t : State) => va_P (dC, dI) vwCl [] t.heap ∧ va_K (dC, dI) vwCl [] t ∧ va_D (va_A [] sz) []) (va_A [] sz)) 0 0 (va_A [] sz) := by
  refine Met.ofW (cc := cJ1_charAt_3b067) (maxL := 2) (ret := (some .char)) (by decide) rfl ?_
  intro p e s m args below meth c s₁ B hml hv
  obtain ⟨rfl, hsz, hP, hK, hD0, hE⟩ := hv
  have hx := B.exec
  have hb := B.bytes
  have hr := B.returns
  have hts0 := atoms_spec (ws := Cond.code yJ1_charAt_3b067 cJ1_charAt_3b067 2 (some .char) :: lw_G) B.pre
  have hG : ∀ w ∈ lw_G, w.before _ s = true := fun w h => hts0 w (List.mem_cons_of_mem _ h)
  have hown : s.vm.findClass RJ1 = some m.cls := findClass_of_methodNamed B.named
  have hlocks := B.notSynchronized
  subst hsz
  have hD := hD0.self (sz := s.heap.size)
  generalize hAe : va_A [] s.heap.size = A at hD hE ⊢
  have hA : ∀ q : Nat, s.heap.size ≤ q → A q := fun q h => by rw [← hAe]; exact Or.inr h
  have hS : va_S A s.heap s.heap [] := va_S.rf
  have hP : va_P (dC, dI) vwCl [] s.heap := hP
  have hl := lv_entry ([.ref (adV 0), .int 115]) (n := 2) (Nat.le_of_ble_eq_true rfl)
  rw [lg_entry_eq]
  generalize (lg_sl ([.ref (adV 0), .int 115]) ++ List.replicate (2 - (lg_sl ([.ref (adV 0), .int 115])).length) Slot.unset).toArray = ls at hl ⊢
  have hl : lv_has ls 2 [(0, .ref (adV 0)), (1, .int 115)] := hl
  refine lv_iload_n hx hb dJ1_charAt_3b067_0 rfl (lv_at hl 1 rfl) ?_
  refine lv_aload_n hx hb dJ1_charAt_3b067_1 rfl (lv_at hl 0 rfl) ?_
  refine va_tlen (v := 140) hx hb (hE.1.1 0 (by decide)).2.2.2 hS (by decide) dJ1_charAt_3b067_2 ?_
  have hPc := hP.sub (ws' := []) [] rfl
  have hDc := hD.sub (ws' := []) [] (by decide) rfl
  have hKc := hK.sub (tys' := []) [] rfl
  have hFc := va_free (wc := []) hD hS hA [] rfl
  refine va_callv (va_runS (As := [.int 115, .int 140]) (rest := []) ⟨hx, hb, hml, hown, hG⟩ (cJ0_checkIndex_df160_5 l dC dI adK adV s.heap.size) (va_cwS 2 hG (gS wd_256 wd_257 wd_12 wd_258) rfl rfl rfl (by decide +kernel) ⟨Nat.le_of_ble_eq_true rfl, Nat.le_of_ble_eq_true rfl⟩) ⟨fun a U g mk q => by obtain ⟨q0, q1, qP, qK, qD, qE⟩ := q; exact ⟨q0, q1, qP, va_K.moved (u := U) (U := U.calling g mk a) (Vm.Alike.refl U.vm) qK, qD, qE.same rfl⟩, fun U hU hW => ⟨rfl, by rw [hU], by rw [hU]; exact hPc, va_K.moved hW.alike hKc, hDc.weaken (fun _ _ _ _ => trivial), by rw [hU]; exact ((hE.kept hS.2.1).narrow hFc).warm hW⟩⟩ rfl rfl hl.1 rfl (lv_room (Nat.le_of_ble_eq_true rfl)) dJ1_charAt_3b067_3 ⟨by decide, by decide⟩) hS (fun q _ h => hFc q h) hFc (fun u2 t H1 locs ht hvm hw hB hz1 hk1 hS => ?_)
  obtain ⟨hP1, hK1, hD1⟩ := hB
  rw [ht] at hP1
  have hK1 := va_K.moved hvm.symm hK1
  obtain ⟨hP, hD⟩ := va_join (wr := []) (w1 := []) hP hD [] [] rfl rfl (by decide) (by decide) hk1 hFc hP1 hD1
  have hK := (hK.sub (tys' := []) [] rfl).app hK1
  generalize H1 = H at hP hS ⊢
  have hP : va_P (dC, dI) vwCl [] H := hP
  have hD : va_D A [] := hD
  have hK : va_K (dC, dI) vwCl [] s := hK
  refine lv_aload_n hx hb dJ1_charAt_3b067_6 rfl (lv_at hl 0 rfl) ?_
  refine lv_iload_n hx hb dJ1_charAt_3b067_7 rfl (lv_at hl 1 rfl) ?_
  refine va_tb (v := .int 100) hx hb (hE.1.1 0 (by decide)).2.2.2 hS (iv_in (by decide : iv 115 115 115) (by decide) (by decide) : vp_in 115 140) rfl dJ1_charAt_3b067_8 ?_
  refine lv_sipush (v := 255) hx hb dJ1_charAt_3b067_9 (by decide) ?_
  refine lv_iand hx hb dJ1_charAt_3b067_12 ?_
  refine lv_val (y := 100) (by decide +kernel) ?_
  refine lv_i2c (v := _) hx hb dJ1_charAt_3b067_13 rfl ?_
  refine lv_val (y := 100) (by decide +kernel) ?_
  have hP9 := hP.sub (ws' := []) [] rfl
  have hD9 := hD.sub (ws' := []) [] (by decide) rfl
  have hK9 := hK.sub (tys' := []) [] rfl
  exact W.zret (v := 100) hx hb hr rfl (fun t ht hW => ⟨⟨100, (), rfl, ⟨rfl, trivial⟩, by rw [ht]; exact hP9, va_K.moved hW.alike hK9, hD9⟩, hS.F ht⟩) hS.2.2 dJ1_charAt_3b067_14
set_option maxHeartbeats 4000000 in
set_option maxRecDepth 100000 in
theorem cJ0_charAt_5068e_5 (l : Launch) (dC : Nat → ClassId) (dI : Nat → Nat → Nat) (adK adV : Nat → Nat) (sz : Nat) : Met l yJ0_charAt_5068e (Cond.code yJ0_charAt_5068e cJ0_charAt_5068e 2 (some .char) :: lw_G) ({ frames := 3, cells := 0, slots := 0, locals := 64 }) (va_Pc [.ref (adK 0), .int 115] (fun U => U.heap.size = sz ∧ va_P (dC, dI) vwCl [] U.heap ∧ va_K (dC, dI) vwCl [] U ∧ va_D (fun _ => True) [] ∧ ev adK adV (va_A [] sz) U U.heap)) (va_Qi (fun (r : Int32) (u : Unit) => r = 100 ∧ True) (fun (u : Unit) (t : State) => va_P (dC, dI) vwCl [] t.heap ∧ va_K (dC, dI) vwCl [] t ∧ va_D (va_A [] sz) []) (va_A [] sz)) 0 0 (va_A [] sz) := by
  refine Met.ofW (cc := cJ0_charAt_5068e) (maxL := 2) (ret := (some .char)) (by decide) rfl ?_
  intro p e s m args below meth c s₁ B hml hv
  obtain ⟨rfl, hsz, hP, hK, hD0, hE⟩ := hv
  have hx := B.exec
  have hb := B.bytes
  have hr := B.returns
  have hts0 := atoms_spec (ws := Cond.code yJ0_charAt_5068e cJ0_charAt_5068e 2 (some .char) :: lw_G) B.pre
  have hG : ∀ w ∈ lw_G, w.before _ s = true := fun w h => hts0 w (List.mem_cons_of_mem _ h)
  have hown : s.vm.findClass RJ0 = some m.cls := findClass_of_methodNamed B.named
  have hlocks := B.notSynchronized
  subst hsz
  have hD := hD0.self (sz := s.heap.size)
  generalize hAe : va_A [] s.heap.size = A at hD hE ⊢
  have hA : ∀ q : Nat, s.heap.size ≤ q → A q := fun q h => by rw [← hAe]; exact Or.inr h
  have hS : va_S A s.heap s.heap [] := va_S.rf
  have hP : va_P (dC, dI) vwCl [] s.heap := hP
  have hl := lv_entry ([.ref (adK 0), .int 115]) (n := 2) (Nat.le_of_ble_eq_true rfl)
  rw [lg_entry_eq]
  generalize (lg_sl ([.ref (adK 0), .int 115]) ++ List.replicate (2 - (lg_sl ([.ref (adK 0), .int 115])).length) Slot.unset).toArray = ls at hl ⊢
  have hl : lv_has ls 2 [(0, .ref (adK 0)), (1, .int 115)] := hl
  refine lv_aload_n hx hb dJ0_charAt_5068e_0 rfl (lv_at hl 0 rfl) ?_
  have hPc := hP.sub (ws' := []) [] rfl
  have hDc := hD.sub (ws' := []) [] (by decide) rfl
  have hKc := hK.sub (tys' := []) [] rfl
  have hFc := va_free (wc := []) hD hS hA [] rfl
  refine va_calli (va_runV (As := []) (rest := []) ⟨hx, hb, hml, hown, hG⟩ (cJ0_isLatin1_aae02_1 l dC dI adK adV s.heap.size) (cwV 0 hG (gV wd_249 wd_250 wd_251 wd_12 wd_252) rfl rfl rfl (by decide +kernel) ⟨Nat.le_of_ble_eq_true rfl, Nat.le_of_ble_eq_true rfl⟩) ⟨fun a U g mk q => by obtain ⟨q0, q1, qP, qK, qD, qE⟩ := q; exact ⟨q0, q1, qP, va_K.moved (u := U) (U := U.calling g mk a) (Vm.Alike.refl U.vm) qK, qD, qE.same rfl⟩, vk_recv hE.1 (i := 0) (by decide) hS, fun U hU hW => ⟨rfl, by rw [hU], by rw [hU]; exact hPc, va_K.moved hW.alike hKc, hDc.weaken (fun _ _ _ _ => trivial), by rw [hU]; exact ((hE.kept hS.2.1).narrow hFc).warm hW⟩⟩ rfl rfl hl.1 rfl (lv_room (Nat.le_of_ble_eq_true rfl)) dJ0_charAt_5068e_1 ⟨by decide, by decide⟩) hS (fun q _ h => hFc q h) hFc (fun r1 u2 t H1 locs ht hvm hw hB hz1 hk1 hS => ?_)
  have hw : r1 = 1 ∧ True := hw
  obtain ⟨er1, -⟩ := hw
  obtain ⟨hP1, hK1, hD1⟩ := hB
  rw [ht] at hP1
  have hK1 := va_K.moved hvm.symm hK1
  obtain ⟨hP, hD⟩ := va_join (wr := []) (w1 := []) hP hD [] [] rfl rfl (by decide) (by decide) hk1 hFc hP1 hD1
  have hK := (hK.sub (tys' := []) [] rfl).app hK1
  generalize H1 = H at hP hS ⊢
  have hP : va_P (dC, dI) vwCl [] H := hP
  have hD : va_D A [] := hD
  have hK : va_K (dC, dI) vwCl [] s := hK
  subst er1
  refine lv_if_eq (tgt := 16) hx hb dJ0_charAt_5068e_4 (by decide) (fun c => absurd c (by decide)) (fun _ => ?_)
  refine lv_aload_n hx hb dJ0_charAt_5068e_7 rfl (lv_at hl 0 rfl) ?_
  refine vk_getf hx hb (hE.1.1 0 (by decide)).2.2.1 hS hown (hG _ wd_1893) (fun _ h9 => h9) dJ0_charAt_5068e_8 ?_
  refine lv_iload_n hx hb dJ0_charAt_5068e_11 rfl (lv_at hl 1 rfl) ?_
  have hPc := hP.sub (ws' := []) [] rfl
  have hDc := hD.sub (ws' := []) [] (by decide) rfl
  have hKc := hK.sub (tys' := []) [] rfl
  have hFc := va_free (wc := []) hD hS hA [] rfl
  refine va_calli (va_runS (As := [.ref (adV 0), .int 115]) (rest := []) ⟨hx, hb, hml, hown, hG⟩ (cJ1_charAt_3b067_5 l dC dI adK adV H.size) (va_cwS 2 hG (gS wd_253 wd_254 wd_13 wd_255) rfl rfl rfl (by decide +kernel) ⟨Nat.le_of_ble_eq_true rfl, Nat.le_of_ble_eq_true rfl⟩) ⟨fun a U g mk q => by obtain ⟨q0, q1, qP, qK, qD, qE⟩ := q; exact ⟨q0, q1, qP, va_K.moved (u := U) (U := U.calling g mk a) (Vm.Alike.refl U.vm) qK, qD, qE.same rfl⟩, fun U hU hW => ⟨rfl, by rw [hU], by rw [hU]; exact hPc, va_K.moved hW.alike hKc, hDc.weaken (fun _ _ _ _ => trivial), by rw [hU]; exact ((hE.kept hS.2.1).narrow hFc).warm hW⟩⟩ rfl rfl hl.1 rfl (lv_room (Nat.le_of_ble_eq_true rfl)) dJ0_charAt_5068e_12 ⟨by decide, by decide⟩) hS (fun q _ h => hFc q h) hFc (fun r3 u4 t H1 locs ht hvm hw hB hz1 hk1 hS => ?_)
  have hw : r3 = 100 ∧ True := hw
  obtain ⟨er3, -⟩ := hw
  obtain ⟨hP1, hK1, hD1⟩ := hB
  rw [ht] at hP1
  have hK1 := va_K.moved hvm.symm hK1
  obtain ⟨hP, hD⟩ := va_join (wr := []) (w1 := []) hP hD [] [] rfl rfl (by decide) (by decide) hk1 hFc hP1 hD1
  have hK := (hK.sub (tys' := []) [] rfl).app hK1
  generalize H1 = H at hP hS ⊢
  have hP : va_P (dC, dI) vwCl [] H := hP
  have hD : va_D A [] := hD
  have hK : va_K (dC, dI) vwCl [] s := hK
  subst er3
  have hP9 := hP.sub (ws' := []) [] rfl
  have hD9 := hD.sub (ws' := []) [] (by decide) rfl
  have hK9 := hK.sub (tys' := []) [] rfl
  exact W.zret (v := 100) hx hb hr rfl (fun t ht hW => ⟨⟨100, (), rfl, ⟨rfl, trivial⟩, by rw [ht]; exact hP9, va_K.moved hW.alike hK9, hD9⟩, hS.F ht⟩) hS.2.2 dJ0_charAt_5068e_15
set_option maxHeartbeats 4000000 in
set_option maxRecDepth 100000 in
theorem cX10_nameSign_8 (l : Launch) (dC : Nat → ClassId) (dI : Nat → Nat → Nat) (adK adV : Nat → Nat) (sz : Nat) : Met l yX10_nameSign (Cond.code yX10_nameSign cX10_nameSign 3 (some .int) :: lw_G) ({ frames := 4, cells := 0, slots := 0, locals := 85 }) (va_Pc [.int 28, .int 3] (fun U => U.heap.size = sz ∧ va_P (dC, dI) vwCl [] U.heap ∧ va_K (dC, dI) vwCl [] U ∧ va_D (fun _ => True) [] ∧ ev adK adV (va_A [] sz) U U.heap)) (va_Qi (fun (r : Int32) (u : Unit) => r = 100 ∧ True) (fun (u : Unit) (t : State) => va_P (dC, dI) vwCl [] t.heap ∧ va_K (dC, dI) vwCl [] t ∧ va_D (va_A [] sz) []) (va_A [] sz)) 0 0 (va_A [] sz) := by
  refine Met.ofW (cc := cX10_nameSign) (maxL := 3) (ret := (some .int)) (by decide) rfl ?_
  intro p e s m args below meth c s₁ B hml hv
  obtain ⟨rfl, hsz, hP, hK, hD0, hE⟩ := hv
  have hx := B.exec
  have hb := B.bytes
  have hr := B.returns
  have hts0 := atoms_spec (ws := Cond.code yX10_nameSign cX10_nameSign 3 (some .int) :: lw_G) B.pre
  have hG : ∀ w ∈ lw_G, w.before _ s = true := fun w h => hts0 w (List.mem_cons_of_mem _ h)
  have hown : s.vm.findClass RX10 = some m.cls := findClass_of_methodNamed B.named
  have hlocks := B.notSynchronized
  subst hsz
  have hD := hD0.self (sz := s.heap.size)
  generalize hAe : va_A [] s.heap.size = A at hD hE ⊢
  have hA : ∀ q : Nat, s.heap.size ≤ q → A q := fun q h => by rw [← hAe]; exact Or.inr h
  have hS : va_S A s.heap s.heap [] := va_S.rf
  have hP : va_P (dC, dI) vwCl [] s.heap := hP
  have hl := lv_entry ([.int 28, .int 3]) (n := 3) (Nat.le_of_ble_eq_true rfl)
  rw [lg_entry_eq]
  generalize (lg_sl ([.int 28, .int 3]) ++ List.replicate (3 - (lg_sl ([.int 28, .int 3])).length) Slot.unset).toArray = ls at hl ⊢
  have hl : lv_has ls 3 [(0, .int 28), (1, .int 3)] := hl
  refine lv_iload_n hx hb dX10_nameSign_0 rfl (lv_at hl 0 rfl) ?_
  refine lv_iconst (v := 4) hx hb dX10_nameSign_1 (by decide) ?_
  refine lv_imul hx hb dX10_nameSign_2 ?_
  refine lv_val (y := 112) (by decide +kernel) ?_
  refine lv_iload_n hx hb dX10_nameSign_3 rfl (lv_at hl 1 rfl) ?_
  refine lv_iadd hx hb dX10_nameSign_4 ?_
  refine lv_val (y := 115) (by decide +kernel) ?_
  refine lv_istore_n (lv' := [(2, .int 115), (0, .int 28), (1, .int 3)]) hx hb dX10_nameSign_5 rfl hl (by decide) rfl (fun ls hl => ?_)
  refine lv_iload_n hx hb dX10_nameSign_6 rfl (lv_at hl 2 rfl) ?_
  refine lv_iconst (v := 4) hx hb dX10_nameSign_7 (by decide) ?_
  refine lv_icmp_ge (tgt := 33) hx hb dX10_nameSign_8 (by decide) (fun c => absurd c (by decide)) (fun _ => ?_)
  refine lv_iload_n hx hb dX10_nameSign_11 rfl (lv_at hl 0 rfl) ?_
  refine lv_if_lt (tgt := 33) hx hb dX10_nameSign_12 (by decide) (fun c => absurd c (by decide)) (fun _ => ?_)
  refine lv_iload_n hx hb dX10_nameSign_15 rfl (lv_at hl 0 rfl) ?_
  refine va_ldcS (q := adK 0) hx hb hown (evR0 hE) dX10_nameSign_16 ?_
  have hPc := hP.sub (ws' := []) [] rfl
  have hDc := hD.sub (ws' := []) [] (by decide) rfl
  have hKc := hK.sub (tys' := []) [] rfl
  have hFc := va_free (wc := []) hD hS hA [] rfl
  refine va_calli (va_runV (As := []) (rest := [.int 115]) ⟨hx, hb, hml, hown, hG⟩ (cJ0_length_8abf5_1 l dC dI adK adV s.heap.size) (cwV 0 hG (gV wd_235 wd_236 wd_237 wd_12 wd_238) rfl rfl rfl (by decide +kernel) ⟨Nat.le_of_ble_eq_true rfl, Nat.le_of_ble_eq_true rfl⟩) ⟨fun a U g mk q => by obtain ⟨q0, q1, qP, qK, qD, qE⟩ := q; exact ⟨q0, q1, qP, va_K.moved (u := U) (U := U.calling g mk a) (Vm.Alike.refl U.vm) qK, qD, qE.same rfl⟩, vk_recv hE.1 (i := 0) (by decide) hS, fun U hU hW => ⟨rfl, by rw [hU], by rw [hU]; exact hPc, va_K.moved hW.alike hKc, hDc.weaken (fun _ _ _ _ => trivial), by rw [hU]; exact ((hE.kept hS.2.1).narrow hFc).warm hW⟩⟩ rfl rfl hl.1 rfl (lv_room (Nat.le_of_ble_eq_true rfl)) dX10_nameSign_18 ⟨by decide, by decide⟩) hS (fun q _ h => hFc q h) hFc (fun r1 u2 t H1 locs ht hvm hw hB hz1 hk1 hS => ?_)
  have hw : r1 = 140 ∧ True := hw
  obtain ⟨er1, -⟩ := hw
  obtain ⟨hP1, hK1, hD1⟩ := hB
  rw [ht] at hP1
  have hK1 := va_K.moved hvm.symm hK1
  obtain ⟨hP, hD⟩ := va_join (wr := []) (w1 := []) hP hD [] [] rfl rfl (by decide) (by decide) hk1 hFc hP1 hD1
  have hK := (hK.sub (tys' := []) [] rfl).app hK1
  generalize H1 = H at hP hS ⊢
  have hP : va_P (dC, dI) vwCl [] H := hP
  have hD : va_D A [] := hD
  have hK : va_K (dC, dI) vwCl [] s := hK
  subst er1
  refine lv_icmp_ge (tgt := 33) hx hb dX10_nameSign_21 (by decide) (fun c => absurd c (by decide)) (fun _ => ?_)
  refine va_ldcS (q := adK 0) hx hb hown (evR0 hE) dX10_nameSign_24 ?_
  refine lv_iload_n hx hb dX10_nameSign_26 rfl (lv_at hl 0 rfl) ?_
  have hPc := hP.sub (ws' := []) [] rfl
  have hDc := hD.sub (ws' := []) [] (by decide) rfl
  have hKc := hK.sub (tys' := []) [] rfl
  have hFc := va_free (wc := []) hD hS hA [] rfl
  refine va_calli (va_runV (As := [.int 115]) (rest := []) ⟨hx, hb, hml, hown, hG⟩ (cJ0_charAt_5068e_5 l dC dI adK adV H.size) (cwV 1 hG (gV wd_245 wd_246 wd_247 wd_12 wd_248) rfl rfl rfl (by decide +kernel) ⟨Nat.le_of_ble_eq_true rfl, Nat.le_of_ble_eq_true rfl⟩) ⟨fun a U g mk q => by obtain ⟨q0, q1, qP, qK, qD, qE⟩ := q; exact ⟨q0, q1, qP, va_K.moved (u := U) (U := U.calling g mk a) (Vm.Alike.refl U.vm) qK, qD, qE.same rfl⟩, vk_recv hE.1 (i := 0) (by decide) hS, fun U hU hW => ⟨rfl, by rw [hU], by rw [hU]; exact hPc, va_K.moved hW.alike hKc, hDc.weaken (fun _ _ _ _ => trivial), by rw [hU]; exact ((hE.kept hS.2.1).narrow hFc).warm hW⟩⟩ rfl rfl hl.1 rfl (lv_room (Nat.le_of_ble_eq_true rfl)) dX10_nameSign_27 ⟨by decide, by decide⟩) hS (fun q _ h => hFc q h) hFc (fun r3 u4 t H1 locs ht hvm hw hB hz1 hk1 hS => ?_)
  have hw : r3 = 100 ∧ True := hw
  obtain ⟨er3, -⟩ := hw
  obtain ⟨hP1, hK1, hD1⟩ := hB
  rw [ht] at hP1
  have hK1 := va_K.moved hvm.symm hK1
  obtain ⟨hP, hD⟩ := va_join (wr := []) (w1 := []) hP hD [] [] rfl rfl (by decide) (by decide) hk1 hFc hP1 hD1
  have hK := (hK.sub (tys' := []) [] rfl).app hK1
  generalize H1 = H at hP hS ⊢
  have hP : va_P (dC, dI) vwCl [] H := hP
  have hD : va_D A [] := hD
  have hK : va_K (dC, dI) vwCl [] s := hK
  subst er3
  refine lv_goto (tgt := 35) hx hb dX10_nameSign_30 (by decide) ?_
  have hP9 := hP.sub (ws' := []) [] rfl
  have hD9 := hD.sub (ws' := []) [] (by decide) rfl
  have hK9 := hK.sub (tys' := []) [] rfl
  exact W.iret (v := 100) hx hb hr (fun t ht hW => ⟨⟨100, (), rfl, ⟨rfl, trivial⟩, by rw [ht]; exact hP9, va_K.moved hW.alike hK9, hD9⟩, hS.F ht⟩) hS.2.2 dX10_nameSign_35
set_option maxHeartbeats 4000000 in
set_option maxRecDepth 100000 in
theorem cX8_put_4 (l : Launch) (dC : Nat → ClassId) (dI : Nat → Nat → Nat) (h0 h1 h2 : Nat) (y0 : ClassId) (sz : Nat) (x0 x1 : Int32) (f0 : Nat → Int32) (ix0 : iv x0 0 65535) (ix1 : iv x1 2 65536) (if0 : ∀ j, iv (f0 j) 0 119) (kf0_0 : f0 0 = 119) (kf0_1 : f0 1 = 111) (kf0_2 : f0 2 = 114) : Met l yX8_put (Cond.code yX8_put cX8_put 2 none :: lw_G) ({ frames := 0, cells := 0, slots := 0, locals := 0 }) (va_Pc [.ref h0, .int 100] (fun U => U.heap.size = sz ∧ va_P (dC, dI) vwCl [(h0, .inr (8, [.ref h1, .ref h2, .int 3, .int x0, .int x1])), (h1, .inl (y0, 64, .inl f0))] U.heap ∧ va_K (dC, dI) vwCl [(y0, .int)] U ∧ va_D (fun _ => True) [(h0, .inr (8, [.ref h1, .ref h2, .int 3, .int x0, .int x1])), (h1, .inl (y0, 64, .inl f0))])) (va_Qv (fun (u : (Nat → Int32)) => (∀ j, iv (u j) 0 119) ∧ u 0 = 119 ∧ u 1 = 111 ∧ u 2 = 114 ∧ u 3 = 100 ∧ True) (fun (u : (Nat → Int32)) (t : State) => va_P (dC, dI) vwCl [(h0, .inr (8, [.ref h1, .ref h2, .int 4, .int x0, .int x1])), (h1, .inl (y0, 64, .inl u))] t.heap ∧ va_K (dC, dI) vwCl [(y0, .int)] t ∧ va_D (va_A [(h0, .inr (8, [.ref h1, .ref h2, .int 3, .int x0, .int x1])), (h1, .inl (y0, 64, .inl f0))] sz) [(h0, .inr (8, [.ref h1, .ref h2, .int 4, .int x0, .int x1])), (h1, .inl (y0, 64, .inl u))]) (va_A [(h0, .inr (8, [.ref h1, .ref h2, .int 3, .int x0, .int x1])), (h1, .inl (y0, 64, .inl f0))] sz)) 0 0 (va_A [(h0, .inr (8, [.ref h1, .ref h2, .int 3, .int x0, .int x1])), (h1, .inl (y0, 64, .inl f0))] sz) := by
  refine Met.ofW (cc := cX8_put) (maxL := 2) (ret := none) (by decide) rfl ?_
  intro p e s m args below meth c s₁ B hml hv
  obtain ⟨rfl, hsz, hP, hK, hD0⟩ := hv
  have hx := B.exec
  have hb := B.bytes
  have hr := B.returns
  have hts0 := atoms_spec (ws := Cond.code yX8_put cX8_put 2 none :: lw_G) B.pre
  have hG : ∀ w ∈ lw_G, w.before _ s = true := fun w h => hts0 w (List.mem_cons_of_mem _ h)
  have hown : s.vm.findClass RX8 = some m.cls := findClass_of_methodNamed B.named
  have hlocks := B.notSynchronized
  subst hsz
  have hD := hD0.self (sz := s.heap.size)
  generalize hAe : va_A [(h0, .inr (8, [.ref h1, .ref h2, .int 3, .int x0, .int x1])), (h1, .inl (y0, 64, .inl f0))] s.heap.size = A at hD ⊢
  have hA : ∀ q : Nat, s.heap.size ≤ q → A q := fun q h => by rw [← hAe]; exact Or.inr h
  have hS : va_S A s.heap s.heap [] := va_S.rf
  have hP : va_P (dC, dI) vwCl [(h0, .inr (8, [.ref h1, .ref h2, .int 3, .int x0, .int x1])), (h1, .inl (y0, 64, .inl f0))] s.heap := hP
  have hl := lv_entry ([.ref h0, .int 100]) (n := 2) (Nat.le_of_ble_eq_true rfl)
  rw [lg_entry_eq]
  generalize (lg_sl ([.ref h0, .int 100]) ++ List.replicate (2 - (lg_sl ([.ref h0, .int 100])).length) Slot.unset).toArray = ls at hl ⊢
  have hl : lv_has ls 2 [(0, .ref h0), (1, .int 100)] := hl
  refine lv_aload_n hx hb dX8_put_0 rfl (lv_at hl 0 rfl) ?_
  refine va_get (D := (dC, dI)) (ci := 8) (v := .int 3) (C := RX8) (T := TX8) (N := 5) hx hb hG inGX8 hown hK hP 0 rfl rfl 2 (by decide) (hG _ wd_381) (fun _ h9 => h9) rfl dX8_put_1 ?_
  refine lv_bipush (v := 64) hx hb dX8_put_4 (by decide) ?_
  refine lv_icmp_ge (tgt := 29) hx hb dX8_put_6 (by decide) (fun c => absurd c (by decide)) (fun _ => ?_)
  refine lv_aload_n hx hb dX8_put_9 rfl (lv_at hl 0 rfl) ?_
  refine va_get (D := (dC, dI)) (ci := 8) (v := .ref h1) (C := RX8) (T := TX8) (N := 5) hx hb hG inGX8 hown hK hP 0 rfl rfl 0 (by decide) (hG _ wd_379) (fun _ h9 => h9) rfl dX8_put_10 ?_
  refine lv_aload_n hx hb dX8_put_13 rfl (lv_at hl 0 rfl) ?_
  refine va_get (D := (dC, dI)) (ci := 8) (v := .int 3) (C := RX8) (T := TX8) (N := 5) hx hb hG inGX8 hown hK hP 0 rfl rfl 2 (by decide) (hG _ wd_381) (fun _ h9 => h9) rfl dX8_put_14 ?_
  refine lv_iload_n hx hb dX8_put_17 rfl (lv_at hl 1 rfl) ?_
  refine va_iast hx hb hK hP hD hS 1 0 rfl rfl (iv_in (by decide : iv 3 3 3) (by decide) (by decide) : vp_in 3 64) dX8_put_18 (fun H locs hP hD hS => ?_)
  have hP : va_P (dC, dI) vwCl [(h0, .inr (8, [.ref h1, .ref h2, .int 3, .int x0, .int x1])), (h1, .inl (y0, 64, .inl (upd f0 (3 : Int32).toNatClampNeg 100)))] H := hP
  have hD : va_D A [(h0, .inr (8, [.ref h1, .ref h2, .int 3, .int x0, .int x1])), (h1, .inl (y0, 64, .inl (upd f0 (3 : Int32).toNatClampNeg 100)))] := hD
  obtain ⟨f1, ef1⟩ : ∃ z, z = upd f0 (3 : Int32).toNatClampNeg 100 := ⟨_, rfl⟩
  rw [← ef1] at hP hD
  have if1 : ∀ j, iv (f1 j) 0 119 := by rw [ef1]; exact iv_upd if0 (by decide : iv 100 100 100) (by decide) (by decide) (by decide) (by decide)
  refine lv_aload_n hx hb dX8_put_19 rfl (lv_at hl 0 rfl) ?_
  refine lv_dup hx hb dX8_put_20 rfl ?_
  refine va_get (D := (dC, dI)) (ci := 8) (v := .int 3) (C := RX8) (T := TX8) (N := 5) hx hb hG inGX8 hown hK hP 0 rfl rfl 2 (by decide) (hG _ wd_381) (fun _ h9 => h9) rfl dX8_put_21 ?_
  refine lv_iconst (v := 1) hx hb dX8_put_24 (by decide) ?_
  refine lv_iadd hx hb dX8_put_25 ?_
  refine lv_val (y := 4) (by decide +kernel) ?_
  refine va_put (D := (dC, dI)) (ci := 8) (v := .int 4) (ty := .int) (C := RX8) (T := TX8) (N := 5) hx hb hG inGX8 tyX8 tyX8_ok nmX8 hown hK hP hD hS 0 rfl rfl 2 (by decide) (hG _ wd_381) (fun _ h9 => h9) rfl (by decide +kernel) rfl rfl (Nat.le_of_ble_eq_true rfl) dX8_put_26 (fun H locs hP hD hS => ?_)
  have hP : va_P (dC, dI) vwCl [(h0, .inr (8, [.ref h1, .ref h2, .int 4, .int x0, .int x1])), (h1, .inl (y0, 64, .inl f1))] H := hP
  have hD : va_D A [(h0, .inr (8, [.ref h1, .ref h2, .int 4, .int x0, .int x1])), (h1, .inl (y0, 64, .inl f1))] := hD
  have hP9 := hP.sub (ws' := [(h0, .inr (8, [.ref h1, .ref h2, .int 4, .int x0, .int x1])), (h1, .inl (y0, 64, .inl f1))]) [0, 1] rfl
  have hD9 := hD.sub (ws' := [(h0, .inr (8, [.ref h1, .ref h2, .int 4, .int x0, .int x1])), (h1, .inl (y0, 64, .inl f1))]) [0, 1] (by decide) rfl
  have hK9 := hK.sub (tys' := [(y0, .int)]) [0] rfl
  exact W.vret hx hb hr (fun t ht hW => ⟨⟨f1, rfl, ⟨(fun j => iv_w (if1 j) (by decide) (by decide)), (kn ef1 (by decide) kf0_0), (kn ef1 (by decide) kf0_1), (kn ef1 (by decide) kf0_2), (ku ef1 (by decide)), trivial⟩, by rw [ht]; exact hP9, va_K.moved hW.alike hK9, hD9⟩, hS.F ht⟩) hS.2.2 dX8_put_29
set_option maxHeartbeats 4000000 in
set_option maxRecDepth 100000 in
theorem cX8_put_5 (l : Launch) (dC : Nat → ClassId) (dI : Nat → Nat → Nat) (h0 h1 h2 : Nat) (y0 : ClassId) (sz : Nat) (x0 x1 : Int32) (f0 : Nat → Int32) (ix0 : iv x0 0 65535) (ix1 : iv x1 2 65536) (if0 : ∀ j, iv (f0 j) 0 119) (kf0_0 : f0 0 = 119) (kf0_1 : f0 1 = 111) (kf0_2 : f0 2 = 114) (kf0_3 : f0 3 = 100) : Met l yX8_put (Cond.code yX8_put cX8_put 2 none :: lw_G) ({ frames := 0, cells := 0, slots := 0, locals := 0 }) (va_Pc [.ref h0, .int 32] (fun U => U.heap.size = sz ∧ va_P (dC, dI) vwCl [(h0, .inr (8, [.ref h1, .ref h2, .int 4, .int x0, .int x1])), (h1, .inl (y0, 64, .inl f0))] U.heap ∧ va_K (dC, dI) vwCl [(y0, .int)] U ∧ va_D (fun _ => True) [(h0, .inr (8, [.ref h1, .ref h2, .int 4, .int x0, .int x1])), (h1, .inl (y0, 64, .inl f0))])) (va_Qv (fun (u : (Nat → Int32)) => (∀ j, iv (u j) 0 119) ∧ u 0 = 119 ∧ u 1 = 111 ∧ u 2 = 114 ∧ u 3 = 100 ∧ u 4 = 32 ∧ True) (fun (u : (Nat → Int32)) (t : State) => va_P (dC, dI) vwCl [(h0, .inr (8, [.ref h1, .ref h2, .int 5, .int x0, .int x1])), (h1, .inl (y0, 64, .inl u))] t.heap ∧ va_K (dC, dI) vwCl [(y0, .int)] t ∧ va_D (va_A [(h0, .inr (8, [.ref h1, .ref h2, .int 4, .int x0, .int x1])), (h1, .inl (y0, 64, .inl f0))] sz) [(h0, .inr (8, [.ref h1, .ref h2, .int 5, .int x0, .int x1])), (h1, .inl (y0, 64, .inl u))]) (va_A [(h0, .inr (8, [.ref h1, .ref h2, .int 4, .int x0, .int x1])), (h1, .inl (y0, 64, .inl f0))] sz)) 0 0 (va_A [(h0, .inr (8, [.ref h1, .ref h2, .int 4, .int x0, .int x1])), (h1, .inl (y0, 64, .inl f0))] sz) := by
  refine Met.ofW (cc := cX8_put) (maxL := 2) (ret := none) (by decide) rfl ?_
  intro p e s m args below meth c s₁ B hml hv
  obtain ⟨rfl, hsz, hP, hK, hD0⟩ := hv
  have hx := B.exec
  have hb := B.bytes
  have hr := B.returns
  have hts0 := atoms_spec (ws := Cond.code yX8_put cX8_put 2 none :: lw_G) B.pre
  have hG : ∀ w ∈ lw_G, w.before _ s = true := fun w h => hts0 w (List.mem_cons_of_mem _ h)
  have hown : s.vm.findClass RX8 = some m.cls := findClass_of_methodNamed B.named
  have hlocks := B.notSynchronized
  subst hsz
  have hD := hD0.self (sz := s.heap.size)
  generalize hAe : va_A [(h0, .inr (8, [.ref h1, .ref h2, .int 4, .int x0, .int x1])), (h1, .inl (y0, 64, .inl f0))] s.heap.size = A at hD ⊢
  have hA : ∀ q : Nat, s.heap.size ≤ q → A q := fun q h => by rw [← hAe]; exact Or.inr h
  have hS : va_S A s.heap s.heap [] := va_S.rf
  have hP : va_P (dC, dI) vwCl [(h0, .inr (8, [.ref h1, .ref h2, .int 4, .int x0, .int x1])), (h1, .inl (y0, 64, .inl f0))] s.heap := hP
  have hl := lv_entry ([.ref h0, .int 32]) (n := 2) (Nat.le_of_ble_eq_true rfl)
  rw [lg_entry_eq]
  generalize (lg_sl ([.ref h0, .int 32]) ++ List.replicate (2 - (lg_sl ([.ref h0, .int 32])).length) Slot.unset).toArray = ls at hl ⊢
  have hl : lv_has ls 2 [(0, .ref h0), (1, .int 32)] := hl
  refine lv_aload_n hx hb dX8_put_0 rfl (lv_at hl 0 rfl) ?_
  refine va_get (D := (dC, dI)) (ci := 8) (v := .int 4) (C := RX8) (T := TX8) (N := 5) hx hb hG inGX8 hown hK hP 0 rfl rfl 2 (by decide) (hG _ wd_381) (fun _ h9 => h9) rfl dX8_put_1 ?_
  refine lv_bipush (v := 64) hx hb dX8_put_4 (by decide) ?_
  refine lv_icmp_ge (tgt := 29) hx hb dX8_put_6 (by decide) (fun c => absurd c (by decide)) (fun _ => ?_)
  refine lv_aload_n hx hb dX8_put_9 rfl (lv_at hl 0 rfl) ?_
  refine va_get (D := (dC, dI)) (ci := 8) (v := .ref h1) (C := RX8) (T := TX8) (N := 5) hx hb hG inGX8 hown hK hP 0 rfl rfl 0 (by decide) (hG _ wd_379) (fun _ h9 => h9) rfl dX8_put_10 ?_
  refine lv_aload_n hx hb dX8_put_13 rfl (lv_at hl 0 rfl) ?_
  refine va_get (D := (dC, dI)) (ci := 8) (v := .int 4) (C := RX8) (T := TX8) (N := 5) hx hb hG inGX8 hown hK hP 0 rfl rfl 2 (by decide) (hG _ wd_381) (fun _ h9 => h9) rfl dX8_put_14 ?_
  refine lv_iload_n hx hb dX8_put_17 rfl (lv_at hl 1 rfl) ?_
  refine va_iast hx hb hK hP hD hS 1 0 rfl rfl (iv_in (by decide : iv 4 4 4) (by decide) (by decide) : vp_in 4 64) dX8_put_18 (fun H locs hP hD hS => ?_)
  have hP : va_P (dC, dI) vwCl [(h0, .inr (8, [.ref h1, .ref h2, .int 4, .int x0, .int x1])), (h1, .inl (y0, 64, .inl (upd f0 (4 : Int32).toNatClampNeg 32)))] H := hP
  have hD : va_D A [(h0, .inr (8, [.ref h1, .ref h2, .int 4, .int x0, .int x1])), (h1, .inl (y0, 64, .inl (upd f0 (4 : Int32).toNatClampNeg 32)))] := hD
  obtain ⟨f1, ef1⟩ : ∃ z, z = upd f0 (4 : Int32).toNatClampNeg 32 := ⟨_, rfl⟩
  rw [← ef1] at hP hD
  have if1 : ∀ j, iv (f1 j) 0 119 := by rw [ef1]; exact iv_upd if0 (by decide : iv 32 32 32) (by decide) (by decide) (by decide) (by decide)
  refine lv_aload_n hx hb dX8_put_19 rfl (lv_at hl 0 rfl) ?_
  refine lv_dup hx hb dX8_put_20 rfl ?_
  refine va_get (D := (dC, dI)) (ci := 8) (v := .int 4) (C := RX8) (T := TX8) (N := 5) hx hb hG inGX8 hown hK hP 0 rfl rfl 2 (by decide) (hG _ wd_381) (fun _ h9 => h9) rfl dX8_put_21 ?_
  refine lv_iconst (v := 1) hx hb dX8_put_24 (by decide) ?_
  refine lv_iadd hx hb dX8_put_25 ?_
  refine lv_val (y := 5) (by decide +kernel) ?_
  refine va_put (D := (dC, dI)) (ci := 8) (v := .int 5) (ty := .int) (C := RX8) (T := TX8) (N := 5) hx hb hG inGX8 tyX8 tyX8_ok nmX8 hown hK hP hD hS 0 rfl rfl 2 (by decide) (hG _ wd_381) (fun _ h9 => h9) rfl (by decide +kernel) rfl rfl (Nat.le_of_ble_eq_true rfl) dX8_put_26 (fun H locs hP hD hS => ?_)
  have hP : va_P (dC, dI) vwCl [(h0, .inr (8, [.ref h1, .ref h2, .int 5, .int x0, .int x1])), (h1, .inl (y0, 64, .inl f1))] H := hP
  have hD : va_D A [(h0, .inr (8, [.ref h1, .ref h2, .int 5, .int x0, .int x1])), (h1, .inl (y0, 64, .inl f1))] := hD
  have hP9 := hP.sub (ws' := [(h0, .inr (8, [.ref h1, .ref h2, .int 5, .int x0, .int x1])), (h1, .inl (y0, 64, .inl f1))]) [0, 1] rfl
  have hD9 := hD.sub (ws' := [(h0, .inr (8, [.ref h1, .ref h2, .int 5, .int x0, .int x1])), (h1, .inl (y0, 64, .inl f1))]) [0, 1] (by decide) rfl
  have hK9 := hK.sub (tys' := [(y0, .int)]) [0] rfl
  exact W.vret hx hb hr (fun t ht hW => ⟨⟨f1, rfl, ⟨(fun j => iv_w (if1 j) (by decide) (by decide)), (kn ef1 (by decide) kf0_0), (kn ef1 (by decide) kf0_1), (kn ef1 (by decide) kf0_2), (kn ef1 (by decide) kf0_3), (ku ef1 (by decide)), trivial⟩, by rw [ht]; exact hP9, va_K.moved hW.alike hK9, hD9⟩, hS.F ht⟩) hS.2.2 dX8_put_29
set_option maxHeartbeats 4000000 in
set_option maxRecDepth 100000 in
theorem cX8_putName_1 (l : Launch) (dC : Nat → ClassId) (dI : Nat → Nat → Nat) (adK adV : Nat → Nat) (h0 h1 h2 : Nat) (y0 : ClassId) (sz : Nat) (x0 x1 : Int32) (ix0 : iv x0 0 65535) (ix1 : iv x1 2 65536) : Met l yX8_putName (Cond.code yX8_putName cX8_putName 4 none :: lw_G) ({ frames := 5, cells := 0, slots := 0, locals := 107 }) (va_Pc [.ref h0, .int 28, .int 0] (fun U => U.heap.size = sz ∧ va_P (dC, dI) vwCl [(h0, .inr (8, [.ref h1, .ref h2, .int 0, .int x0, .int x1])), (h1, .inl (y0, 64, .inl (fun _ => 0)))] U.heap ∧ va_K (dC, dI) vwCl [(y0, .int)] U ∧ va_D (fun _ => True) [(h0, .inr (8, [.ref h1, .ref h2, .int 0, .int x0, .int x1])), (h1, .inl (y0, 64, .inl (fun _ => 0)))] ∧ ev adK adV (va_A [(h0, .inr (8, [.ref h1, .ref h2, .int 0, .int x0, .int x1])), (h1, .inl (y0, 64, .inl (fun _ => 0)))] sz) U U.heap)) (va_Qv (fun (u : (Nat → Int32)) => (∀ j, iv (u j) 0 119) ∧ u 0 = 119 ∧ u 1 = 111 ∧ u 2 = 114 ∧ u 3 = 100 ∧ u 4 = 32 ∧ True) (fun (u : (Nat → Int32)) (t : State) => va_P (dC, dI) vwCl [(h0, .inr (8, [.ref h1, .ref h2, .int 5, .int x0, .int x1])), (h1, .inl (y0, 64, .inl u))] t.heap ∧ va_K (dC, dI) vwCl [(y0, .int)] t ∧ va_D (va_A [(h0, .inr (8, [.ref h1, .ref h2, .int 0, .int x0, .int x1])), (h1, .inl (y0, 64, .inl (fun _ => 0)))] sz) [(h0, .inr (8, [.ref h1, .ref h2, .int 5, .int x0, .int x1])), (h1, .inl (y0, 64, .inl u))]) (va_A [(h0, .inr (8, [.ref h1, .ref h2, .int 0, .int x0, .int x1])), (h1, .inl (y0, 64, .inl (fun _ => 0)))] sz)) 0 0 (va_A [(h0, .inr (8, [.ref h1, .ref h2, .int 0, .int x0, .int x1])), (h1, .inl (y0, 64, .inl (fun _ => 0)))] sz) := by
  refine Met.ofW (cc := cX8_putName) (maxL := 4) (ret := none) (by decide) rfl ?_
  intro p e s m args below meth c s₁ B hml hv
  obtain ⟨rfl, hsz, hP, hK, hD0, hE⟩ := hv
  have hx := B.exec
  have hb := B.bytes
  have hr := B.returns
  have hts0 := atoms_spec (ws := Cond.code yX8_putName cX8_putName 4 none :: lw_G) B.pre
  have hG : ∀ w ∈ lw_G, w.before _ s = true := fun w h => hts0 w (List.mem_cons_of_mem _ h)
  have hown : s.vm.findClass RX8 = some m.cls := findClass_of_methodNamed B.named
  have hlocks := B.notSynchronized
  subst hsz
  have hD := hD0.self (sz := s.heap.size)
  generalize hAe : va_A [(h0, .inr (8, [.ref h1, .ref h2, .int 0, .int x0, .int x1])), (h1, .inl (y0, 64, .inl (fun _ => 0)))] s.heap.size = A at hD hE ⊢
  have hA : ∀ q : Nat, s.heap.size ≤ q → A q := fun q h => by rw [← hAe]; exact Or.inr h
  have hS : va_S A s.heap s.heap [] := va_S.rf
  have hP : va_P (dC, dI) vwCl [(h0, .inr (8, [.ref h1, .ref h2, .int 0, .int x0, .int x1])), (h1, .inl (y0, 64, .inl (fun _ => 0)))] s.heap := hP
  have hl := lv_entry ([.ref h0, .int 28, .int 0]) (n := 4) (Nat.le_of_ble_eq_true rfl)
  rw [lg_entry_eq]
  generalize (lg_sl ([.ref h0, .int 28, .int 0]) ++ List.replicate (4 - (lg_sl ([.ref h0, .int 28, .int 0])).length) Slot.unset).toArray = ls at hl ⊢
  have hl : lv_has ls 4 [(0, .ref h0), (1, .int 28), (2, .int 0)] := hl
  refine lv_iconst (v := 0) hx hb dX8_putName_0 (by decide) ?_
  refine lv_istore_n (lv' := [(3, .int 0), (0, .ref h0), (1, .int 28), (2, .int 0)]) hx hb dX8_putName_1 rfl hl (by decide) rfl (fun ls hl => ?_)
  refine lv_iload_n hx hb dX8_putName_2 rfl (lv_at hl 0 rfl) ?_
  refine lv_iconst (v := 4) hx hb dX8_putName_3 (by decide) ?_
  refine lv_icmp_ge (tgt := 32) hx hb dX8_putName_4 (by decide) (fun c => absurd c (by decide)) (fun _ => ?_)
  refine lv_iload_n hx hb dX8_putName_7 rfl (lv_at hl 2 rfl) ?_
  refine lv_iload_n hx hb dX8_putName_8 rfl (lv_at hl 0 rfl) ?_
  have hPc := hP.sub (ws' := []) [] rfl
  have hDc := hD.sub (ws' := []) [] (by decide) rfl
  have hKc := hK.sub (tys' := []) [] rfl
  have hFc := va_free (wc := []) hD hS hA [] rfl
  refine va_calli (va_runS (As := [.int 28, .int 0]) (rest := []) ⟨hx, hb, hml, hown, hG⟩ (cX10_nameSign_5 l dC dI adK adV s.heap.size) (va_cwS 2 hG (gS wd_1193 wd_232 wd_11 wd_233) rfl rfl rfl (by decide +kernel) ⟨Nat.le_of_ble_eq_true rfl, Nat.le_of_ble_eq_true rfl⟩) ⟨fun a U g mk q => by obtain ⟨q0, q1, qP, qK, qD, qE⟩ := q; exact ⟨q0, q1, qP, va_K.moved (u := U) (U := U.calling g mk a) (Vm.Alike.refl U.vm) qK, qD, qE.same rfl⟩, fun U hU hW => ⟨rfl, by rw [hU], by rw [hU]; exact hPc, va_K.moved hW.alike hKc, hDc.weaken (fun _ _ _ _ => trivial), by rw [hU]; exact ((hE.kept hS.2.1).narrow hFc).warm hW⟩⟩ rfl rfl hl.1 rfl (lv_room (Nat.le_of_ble_eq_true rfl)) dX8_putName_9 ⟨by decide, by decide⟩) hS (fun q _ h => hFc q h) hFc (fun r1 u2 t H1 locs ht hvm hw hB hz1 hk1 hS => ?_)
  have hw : r1 = 119 ∧ True := hw
  obtain ⟨er1, -⟩ := hw
  obtain ⟨hP1, hK1, hD1⟩ := hB
  rw [ht] at hP1
  have hK1 := va_K.moved hvm.symm hK1
  obtain ⟨hP, hD⟩ := va_join (wr := [(h0, .inr (8, [.ref h1, .ref h2, .int 0, .int x0, .int x1])), (h1, .inl (y0, 64, .inl (fun _ => 0)))]) (w1 := []) hP hD [] [0, 1] rfl rfl (by decide) (by decide) hk1 hFc hP1 hD1
  have hK := (hK.sub (tys' := [(y0, .int)]) [0] rfl).app hK1
  generalize H1 = H at hP hS ⊢
  have hP : va_P (dC, dI) vwCl [(h0, .inr (8, [.ref h1, .ref h2, .int 0, .int x0, .int x1])), (h1, .inl (y0, 64, .inl (fun _ => 0)))] H := hP
  have hD : va_D A [(h0, .inr (8, [.ref h1, .ref h2, .int 0, .int x0, .int x1])), (h1, .inl (y0, 64, .inl (fun _ => 0)))] := hD
  have hK : va_K (dC, dI) vwCl [(y0, .int)] s := hK
  subst er1
  refine lv_bipush (v := 32) hx hb dX8_putName_12 (by decide) ?_
  refine lv_icmp_eq (tgt := 32) hx hb dX8_putName_14 (by decide) (fun c => absurd c (by decide)) (fun _ => ?_)
  refine lv_aload_n hx hb dX8_putName_17 rfl (lv_at hl 1 rfl) ?_
  refine lv_iload_n hx hb dX8_putName_18 rfl (lv_at hl 2 rfl) ?_
  refine lv_iload_n hx hb dX8_putName_19 rfl (lv_at hl 0 rfl) ?_
  have hPc := hP.sub (ws' := []) [] rfl
  have hDc := hD.sub (ws' := []) [] (by decide) rfl
  have hKc := hK.sub (tys' := []) [] rfl
  have hFc := va_free (wc := []) hD hS hA [] rfl
  refine va_calli (va_runS (As := [.int 28, .int 0]) (rest := [.ref h0]) ⟨hx, hb, hml, hown, hG⟩ (cX10_nameSign_5 l dC dI adK adV H.size) (va_cwS 2 hG (gS wd_1193 wd_232 wd_11 wd_233) rfl rfl rfl (by decide +kernel) ⟨Nat.le_of_ble_eq_true rfl, Nat.le_of_ble_eq_true rfl⟩) ⟨fun a U g mk q => by obtain ⟨q0, q1, qP, qK, qD, qE⟩ := q; exact ⟨q0, q1, qP, va_K.moved (u := U) (U := U.calling g mk a) (Vm.Alike.refl U.vm) qK, qD, qE.same rfl⟩, fun U hU hW => ⟨rfl, by rw [hU], by rw [hU]; exact hPc, va_K.moved hW.alike hKc, hDc.weaken (fun _ _ _ _ => trivial), by rw [hU]; exact ((hE.kept hS.2.1).narrow hFc).warm hW⟩⟩ rfl rfl hl.1 rfl (lv_room (Nat.le_of_ble_eq_true rfl)) dX8_putName_20 ⟨by decide, by decide⟩) hS (fun q _ h => hFc q h) hFc (fun r3 u4 t H1 locs ht hvm hw hB hz1 hk1 hS => ?_)
  have hw : r3 = 119 ∧ True := hw
  obtain ⟨er3, -⟩ := hw
  obtain ⟨hP1, hK1, hD1⟩ := hB
  rw [ht] at hP1
  have hK1 := va_K.moved hvm.symm hK1
  obtain ⟨hP, hD⟩ := va_join (wr := [(h0, .inr (8, [.ref h1, .ref h2, .int 0, .int x0, .int x1])), (h1, .inl (y0, 64, .inl (fun _ => 0)))]) (w1 := []) hP hD [] [0, 1] rfl rfl (by decide) (by decide) hk1 hFc hP1 hD1
  have hK := (hK.sub (tys' := [(y0, .int)]) [0] rfl).app hK1
  generalize H1 = H at hP hS ⊢
  have hP : va_P (dC, dI) vwCl [(h0, .inr (8, [.ref h1, .ref h2, .int 0, .int x0, .int x1])), (h1, .inl (y0, 64, .inl (fun _ => 0)))] H := hP
  have hD : va_D A [(h0, .inr (8, [.ref h1, .ref h2, .int 0, .int x0, .int x1])), (h1, .inl (y0, 64, .inl (fun _ => 0)))] := hD
  have hK : va_K (dC, dI) vwCl [(y0, .int)] s := hK
  subst er3
  have hPc := hP.sub (ws' := [(h0, .inr (8, [.ref h1, .ref h2, .int 0, .int x0, .int x1])), (h1, .inl (y0, 64, .inl (fun _ => 0)))]) [0, 1] rfl
  have hDc := hD.sub (ws' := [(h0, .inr (8, [.ref h1, .ref h2, .int 0, .int x0, .int x1])), (h1, .inl (y0, 64, .inl (fun _ => 0)))]) [0, 1] (by decide) rfl
  have hKc := hK.sub (tys' := [(y0, .int)]) [0] rfl
  have hFc := va_free (wc := [(h0, .inr (8, [.ref h1, .ref h2, .int 0, .int x0, .int x1])), (h1, .inl (y0, 64, .inl (fun _ => 0)))]) hD hS hA [0, 1] rfl
  refine va_callv (va_runV (As := [.int 119]) (rest := []) ⟨hx, hb, hml, hown, hG⟩ (cX8_put_1 l dC dI h0 h1 h2 y0 H.size x0 x1 ix0 ix1) (cwV 1 hG (gV wd_1194 wd_1196 wp_57 wd_16 wd_1197) rfl rfl rfl (by decide +kernel) ⟨Nat.le_of_ble_eq_true rfl, Nat.le_of_ble_eq_true rfl⟩) ⟨fun a U g mk q => by obtain ⟨q0, q1, qP, qK, qD⟩ := q; exact ⟨q0, q1, qP, va_K.moved (u := U) (U := U.calling g mk a) (Vm.Alike.refl U.vm) qK, qD⟩, va_recv hKc hPc (ci := 8) (q0 := 0) rfl rfl, fun U hU hW => ⟨rfl, by rw [hU], by rw [hU]; exact hPc, va_K.moved hW.alike hKc, hDc.weaken (fun _ _ _ _ => trivial)⟩⟩ rfl rfl hl.1 rfl (lv_room (Nat.le_of_ble_eq_true rfl)) dX8_putName_23 ⟨by decide, by decide⟩) hS (fun q _ h => hFc q h) hFc (fun u6 t H1 locs ht hvm hw hB hz1 hk1 hS => ?_)
  obtain ⟨u6_0, rfl⟩ : ∃ z, z = u6 := ⟨_, rfl⟩
  have hw : (∀ j, iv (u6_0 j) 0 119) ∧ u6_0 0 = 119 ∧ True := hw
  obtain ⟨iu6_0, ku6_0_0, -⟩ := hw
  obtain ⟨hP1, hK1, hD1⟩ := hB
  rw [ht] at hP1
  have hK1 := va_K.moved hvm.symm hK1
  obtain ⟨hP, hD⟩ := va_join (wr := []) (w1 := [(h0, .inr (8, [.ref h1, .ref h2, .int 1, .int x0, .int x1])), (h1, .inl (y0, 64, .inl u6_0))]) hP hD [0, 1] [] rfl rfl (by decide) (by decide) hk1 hFc hP1 hD1
  have hK := (hK.sub (tys' := []) [] rfl).app hK1
  generalize H1 = H at hP hS ⊢
  have hP : va_P (dC, dI) vwCl [(h0, .inr (8, [.ref h1, .ref h2, .int 1, .int x0, .int x1])), (h1, .inl (y0, 64, .inl u6_0))] H := hP
  have hD : va_D A [(h0, .inr (8, [.ref h1, .ref h2, .int 1, .int x0, .int x1])), (h1, .inl (y0, 64, .inl u6_0))] := hD
  have hK : va_K (dC, dI) vwCl [(y0, .int)] s := hK
  refine lv_iinc (v := 1) (lv' := [(3, .int 1), (0, .ref h0), (1, .int 28), (2, .int 0)]) hx hb dX8_putName_26 hl (k := 0) rfl (by decide) (by decide) rfl (fun ls hl => ?_)
  refine lv_goto (tgt := 2) hx hb dX8_putName_29 (by decide) ?_
  refine lv_iload_n hx hb dX8_putName_2 rfl (lv_at hl 0 rfl) ?_
  refine lv_iconst (v := 4) hx hb dX8_putName_3 (by decide) ?_
  refine lv_icmp_ge (tgt := 32) hx hb dX8_putName_4 (by decide) (fun c => absurd c (by decide)) (fun _ => ?_)
  refine lv_iload_n hx hb dX8_putName_7 rfl (lv_at hl 2 rfl) ?_
  refine lv_iload_n hx hb dX8_putName_8 rfl (lv_at hl 0 rfl) ?_
  have hPc := hP.sub (ws' := []) [] rfl
  have hDc := hD.sub (ws' := []) [] (by decide) rfl
  have hKc := hK.sub (tys' := []) [] rfl
  have hFc := va_free (wc := []) hD hS hA [] rfl
  refine va_calli (va_runS (As := [.int 28, .int 1]) (rest := []) ⟨hx, hb, hml, hown, hG⟩ (cX10_nameSign_6 l dC dI adK adV H.size) (va_cwS 2 hG (gS wd_1193 wd_232 wd_11 wd_233) rfl rfl rfl (by decide +kernel) ⟨Nat.le_of_ble_eq_true rfl, Nat.le_of_ble_eq_true rfl⟩) ⟨fun a U g mk q => by obtain ⟨q0, q1, qP, qK, qD, qE⟩ := q; exact ⟨q0, q1, qP, va_K.moved (u := U) (U := U.calling g mk a) (Vm.Alike.refl U.vm) qK, qD, qE.same rfl⟩, fun U hU hW => ⟨rfl, by rw [hU], by rw [hU]; exact hPc, va_K.moved hW.alike hKc, hDc.weaken (fun _ _ _ _ => trivial), by rw [hU]; exact ((hE.kept hS.2.1).narrow hFc).warm hW⟩⟩ rfl rfl hl.1 rfl (lv_room (Nat.le_of_ble_eq_true rfl)) dX8_putName_9 ⟨by decide, by decide⟩) hS (fun q _ h => hFc q h) hFc (fun r7 u8 t H1 locs ht hvm hw hB hz1 hk1 hS => ?_)
  have hw : r7 = 111 ∧ True := hw
  obtain ⟨er7, -⟩ := hw
  obtain ⟨hP1, hK1, hD1⟩ := hB
  rw [ht] at hP1
  have hK1 := va_K.moved hvm.symm hK1
  obtain ⟨hP, hD⟩ := va_join (wr := [(h0, .inr (8, [.ref h1, .ref h2, .int 1, .int x0, .int x1])), (h1, .inl (y0, 64, .inl u6_0))]) (w1 := []) hP hD [] [0, 1] rfl rfl (by decide) (by decide) hk1 hFc hP1 hD1
  have hK := (hK.sub (tys' := [(y0, .int)]) [0] rfl).app hK1
  generalize H1 = H at hP hS ⊢
  have hP : va_P (dC, dI) vwCl [(h0, .inr (8, [.ref h1, .ref h2, .int 1, .int x0, .int x1])), (h1, .inl (y0, 64, .inl u6_0))] H := hP
  have hD : va_D A [(h0, .inr (8, [.ref h1, .ref h2, .int 1, .int x0, .int x1])), (h1, .inl (y0, 64, .inl u6_0))] := hD
  have hK : va_K (dC, dI) vwCl [(y0, .int)] s := hK
  subst er7
  refine lv_bipush (v := 32) hx hb dX8_putName_12 (by decide) ?_
  refine lv_icmp_eq (tgt := 32) hx hb dX8_putName_14 (by decide) (fun c => absurd c (by decide)) (fun _ => ?_)
  refine lv_aload_n hx hb dX8_putName_17 rfl (lv_at hl 1 rfl) ?_
  refine lv_iload_n hx hb dX8_putName_18 rfl (lv_at hl 2 rfl) ?_
  refine lv_iload_n hx hb dX8_putName_19 rfl (lv_at hl 0 rfl) ?_
  have hPc := hP.sub (ws' := []) [] rfl
  have hDc := hD.sub (ws' := []) [] (by decide) rfl
  have hKc := hK.sub (tys' := []) [] rfl
  have hFc := va_free (wc := []) hD hS hA [] rfl
  refine va_calli (va_runS (As := [.int 28, .int 1]) (rest := [.ref h0]) ⟨hx, hb, hml, hown, hG⟩ (cX10_nameSign_6 l dC dI adK adV H.size) (va_cwS 2 hG (gS wd_1193 wd_232 wd_11 wd_233) rfl rfl rfl (by decide +kernel) ⟨Nat.le_of_ble_eq_true rfl, Nat.le_of_ble_eq_true rfl⟩) ⟨fun a U g mk q => by obtain ⟨q0, q1, qP, qK, qD, qE⟩ := q; exact ⟨q0, q1, qP, va_K.moved (u := U) (U := U.calling g mk a) (Vm.Alike.refl U.vm) qK, qD, qE.same rfl⟩, fun U hU hW => ⟨rfl, by rw [hU], by rw [hU]; exact hPc, va_K.moved hW.alike hKc, hDc.weaken (fun _ _ _ _ => trivial), by rw [hU]; exact ((hE.kept hS.2.1).narrow hFc).warm hW⟩⟩ rfl rfl hl.1 rfl (lv_room (Nat.le_of_ble_eq_true rfl)) dX8_putName_20 ⟨by decide, by decide⟩) hS (fun q _ h => hFc q h) hFc (fun r9 u10 t H1 locs ht hvm hw hB hz1 hk1 hS => ?_)
  have hw : r9 = 111 ∧ True := hw
  obtain ⟨er9, -⟩ := hw
  obtain ⟨hP1, hK1, hD1⟩ := hB
  rw [ht] at hP1
  have hK1 := va_K.moved hvm.symm hK1
  obtain ⟨hP, hD⟩ := va_join (wr := [(h0, .inr (8, [.ref h1, .ref h2, .int 1, .int x0, .int x1])), (h1, .inl (y0, 64, .inl u6_0))]) (w1 := []) hP hD [] [0, 1] rfl rfl (by decide) (by decide) hk1 hFc hP1 hD1
  have hK := (hK.sub (tys' := [(y0, .int)]) [0] rfl).app hK1
  generalize H1 = H at hP hS ⊢
  have hP : va_P (dC, dI) vwCl [(h0, .inr (8, [.ref h1, .ref h2, .int 1, .int x0, .int x1])), (h1, .inl (y0, 64, .inl u6_0))] H := hP
  have hD : va_D A [(h0, .inr (8, [.ref h1, .ref h2, .int 1, .int x0, .int x1])), (h1, .inl (y0, 64, .inl u6_0))] := hD
  have hK : va_K (dC, dI) vwCl [(y0, .int)] s := hK
  subst er9
  have hPc := hP.sub (ws' := [(h0, .inr (8, [.ref h1, .ref h2, .int 1, .int x0, .int x1])), (h1, .inl (y0, 64, .inl u6_0))]) [0, 1] rfl
  have hDc := hD.sub (ws' := [(h0, .inr (8, [.ref h1, .ref h2, .int 1, .int x0, .int x1])), (h1, .inl (y0, 64, .inl u6_0))]) [0, 1] (by decide) rfl
  have hKc := hK.sub (tys' := [(y0, .int)]) [0] rfl
  have hFc := va_free (wc := [(h0, .inr (8, [.ref h1, .ref h2, .int 1, .int x0, .int x1])), (h1, .inl (y0, 64, .inl u6_0))]) hD hS hA [0, 1] rfl
  refine va_callv (va_runV (As := [.int 111]) (rest := []) ⟨hx, hb, hml, hown, hG⟩ (cX8_put_2 l dC dI h0 h1 h2 y0 H.size x0 x1 u6_0 ix0 ix1 iu6_0 ku6_0_0) (cwV 1 hG (gV wd_1194 wd_1196 wp_57 wd_16 wd_1197) rfl rfl rfl (by decide +kernel) ⟨Nat.le_of_ble_eq_true rfl, Nat.le_of_ble_eq_true rfl⟩) ⟨fun a U g mk q => by obtain ⟨q0, q1, qP, qK, qD⟩ := q; exact ⟨q0, q1, qP, va_K.moved (u := U) (U := U.calling g mk a) (Vm.Alike.refl U.vm) qK, qD⟩, va_recv hKc hPc (ci := 8) (q0 := 0) rfl rfl, fun U hU hW => ⟨rfl, by rw [hU], by rw [hU]; exact hPc, va_K.moved hW.alike hKc, hDc.weaken (fun _ _ _ _ => trivial)⟩⟩ rfl rfl hl.1 rfl (lv_room (Nat.le_of_ble_eq_true rfl)) dX8_putName_23 ⟨by decide, by decide⟩) hS (fun q _ h => hFc q h) hFc (fun u12 t H1 locs ht hvm hw hB hz1 hk1 hS => ?_)
  obtain ⟨u12_0, rfl⟩ : ∃ z, z = u12 := ⟨_, rfl⟩
  have hw : (∀ j, iv (u12_0 j) 0 119) ∧ u12_0 0 = 119 ∧ u12_0 1 = 111 ∧ True := hw
  obtain ⟨iu12_0, ku12_0_0, ku12_0_1, -⟩ := hw
  obtain ⟨hP1, hK1, hD1⟩ := hB
  rw [ht] at hP1
  have hK1 := va_K.moved hvm.symm hK1
  obtain ⟨hP, hD⟩ := va_join (wr := []) (w1 := [(h0, .inr (8, [.ref h1, .ref h2, .int 2, .int x0, .int x1])), (h1, .inl (y0, 64, .inl u12_0))]) hP hD [0, 1] [] rfl rfl (by decide) (by decide) hk1 hFc hP1 hD1
  have hK := (hK.sub (tys' := []) [] rfl).app hK1
  generalize H1 = H at hP hS ⊢
  have hP : va_P (dC, dI) vwCl [(h0, .inr (8, [.ref h1, .ref h2, .int 2, .int x0, .int x1])), (h1, .inl (y0, 64, .inl u12_0))] H := hP
  have hD : va_D A [(h0, .inr (8, [.ref h1, .ref h2, .int 2, .int x0, .int x1])), (h1, .inl (y0, 64, .inl u12_0))] := hD
  have hK : va_K (dC, dI) vwCl [(y0, .int)] s := hK
  refine lv_iinc (v := 2) (lv' := [(3, .int 2), (0, .ref h0), (1, .int 28), (2, .int 0)]) hx hb dX8_putName_26 hl (k := 0) rfl (by decide) (by decide) rfl (fun ls hl => ?_)
  refine lv_goto (tgt := 2) hx hb dX8_putName_29 (by decide) ?_
  refine lv_iload_n hx hb dX8_putName_2 rfl (lv_at hl 0 rfl) ?_
  refine lv_iconst (v := 4) hx hb dX8_putName_3 (by decide) ?_
  refine lv_icmp_ge (tgt := 32) hx hb dX8_putName_4 (by decide) (fun c => absurd c (by decide)) (fun _ => ?_)
  refine lv_iload_n hx hb dX8_putName_7 rfl (lv_at hl 2 rfl) ?_
  refine lv_iload_n hx hb dX8_putName_8 rfl (lv_at hl 0 rfl) ?_
  have hPc := hP.sub (ws' := []) [] rfl
  have hDc := hD.sub (ws' := []) [] (by decide) rfl
  have hKc := hK.sub (tys' := []) [] rfl
  have hFc := va_free (wc := []) hD hS hA [] rfl
  refine va_calli (va_runS (As := [.int 28, .int 2]) (rest := []) ⟨hx, hb, hml, hown, hG⟩ (cX10_nameSign_7 l dC dI adK adV H.size) (va_cwS 2 hG (gS wd_1193 wd_232 wd_11 wd_233) rfl rfl rfl (by decide +kernel) ⟨Nat.le_of_ble_eq_true rfl, Nat.le_of_ble_eq_true rfl⟩) ⟨fun a U g mk q => by obtain ⟨q0, q1, qP, qK, qD, qE⟩ := q; exact ⟨q0, q1, qP, va_K.moved (u := U) (U := U.calling g mk a) (Vm.Alike.refl U.vm) qK, qD, qE.same rfl⟩, fun U hU hW => ⟨rfl, by rw [hU], by rw [hU]; exact hPc, va_K.moved hW.alike hKc, hDc.weaken (fun _ _ _ _ => trivial), by rw [hU]; exact ((hE.kept hS.2.1).narrow hFc).warm hW⟩⟩ rfl rfl hl.1 rfl (lv_room (Nat.le_of_ble_eq_true rfl)) dX8_putName_9 ⟨by decide, by decide⟩) hS (fun q _ h => hFc q h) hFc (fun r13 u14 t H1 locs ht hvm hw hB hz1 hk1 hS => ?_)
  have hw : r13 = 114 ∧ True := hw
  obtain ⟨er13, -⟩ := hw
  obtain ⟨hP1, hK1, hD1⟩ := hB
  rw [ht] at hP1
  have hK1 := va_K.moved hvm.symm hK1
  obtain ⟨hP, hD⟩ := va_join (wr := [(h0, .inr (8, [.ref h1, .ref h2, .int 2, .int x0, .int x1])), (h1, .inl (y0, 64, .inl u12_0))]) (w1 := []) hP hD [] [0, 1] rfl rfl (by decide) (by decide) hk1 hFc hP1 hD1
  have hK := (hK.sub (tys' := [(y0, .int)]) [0] rfl).app hK1
  generalize H1 = H at hP hS ⊢
  have hP : va_P (dC, dI) vwCl [(h0, .inr (8, [.ref h1, .ref h2, .int 2, .int x0, .int x1])), (h1, .inl (y0, 64, .inl u12_0))] H := hP
  have hD : va_D A [(h0, .inr (8, [.ref h1, .ref h2, .int 2, .int x0, .int x1])), (h1, .inl (y0, 64, .inl u12_0))] := hD
  have hK : va_K (dC, dI) vwCl [(y0, .int)] s := hK
  subst er13
  refine lv_bipush (v := 32) hx hb dX8_putName_12 (by decide) ?_
  refine lv_icmp_eq (tgt := 32) hx hb dX8_putName_14 (by decide) (fun c => absurd c (by decide)) (fun _ => ?_)
  refine lv_aload_n hx hb dX8_putName_17 rfl (lv_at hl 1 rfl) ?_
  refine lv_iload_n hx hb dX8_putName_18 rfl (lv_at hl 2 rfl) ?_
  refine lv_iload_n hx hb dX8_putName_19 rfl (lv_at hl 0 rfl) ?_
  have hPc := hP.sub (ws' := []) [] rfl
  have hDc := hD.sub (ws' := []) [] (by decide) rfl
  have hKc := hK.sub (tys' := []) [] rfl
  have hFc := va_free (wc := []) hD hS hA [] rfl
  refine va_calli (va_runS (As := [.int 28, .int 2]) (rest := [.ref h0]) ⟨hx, hb, hml, hown, hG⟩ (cX10_nameSign_7 l dC dI adK adV H.size) (va_cwS 2 hG (gS wd_1193 wd_232 wd_11 wd_233) rfl rfl rfl (by decide +kernel) ⟨Nat.le_of_ble_eq_true rfl, Nat.le_of_ble_eq_true rfl⟩) ⟨fun a U g mk q => by obtain ⟨q0, q1, qP, qK, qD, qE⟩ := q; exact ⟨q0, q1, qP, va_K.moved (u := U) (U := U.calling g mk a) (Vm.Alike.refl U.vm) qK, qD, qE.same rfl⟩, fun U hU hW => ⟨rfl, by rw [hU], by rw [hU]; exact hPc, va_K.moved hW.alike hKc, hDc.weaken (fun _ _ _ _ => trivial), by rw [hU]; exact ((hE.kept hS.2.1).narrow hFc).warm hW⟩⟩ rfl rfl hl.1 rfl (lv_room (Nat.le_of_ble_eq_true rfl)) dX8_putName_20 ⟨by decide, by decide⟩) hS (fun q _ h => hFc q h) hFc (fun r15 u16 t H1 locs ht hvm hw hB hz1 hk1 hS => ?_)
  have hw : r15 = 114 ∧ True := hw
  obtain ⟨er15, -⟩ := hw
  obtain ⟨hP1, hK1, hD1⟩ := hB
  rw [ht] at hP1
  have hK1 := va_K.moved hvm.symm hK1
  obtain ⟨hP, hD⟩ := va_join (wr := [(h0, .inr (8, [.ref h1, .ref h2, .int 2, .int x0, .int x1])), (h1, .inl (y0, 64, .inl u12_0))]) (w1 := []) hP hD [] [0, 1] rfl rfl (by decide) (by decide) hk1 hFc hP1 hD1
  have hK := (hK.sub (tys' := [(y0, .int)]) [0] rfl).app hK1
  generalize H1 = H at hP hS ⊢
  have hP : va_P (dC, dI) vwCl [(h0, .inr (8, [.ref h1, .ref h2, .int 2, .int x0, .int x1])), (h1, .inl (y0, 64, .inl u12_0))] H := hP
  have hD : va_D A [(h0, .inr (8, [.ref h1, .ref h2, .int 2, .int x0, .int x1])), (h1, .inl (y0, 64, .inl u12_0))] := hD
  have hK : va_K (dC, dI) vwCl [(y0, .int)] s := hK
  subst er15
  have hPc := hP.sub (ws' := [(h0, .inr (8, [.ref h1, .ref h2, .int 2, .int x0, .int x1])), (h1, .inl (y0, 64, .inl u12_0))]) [0, 1] rfl
  have hDc := hD.sub (ws' := [(h0, .inr (8, [.ref h1, .ref h2, .int 2, .int x0, .int x1])), (h1, .inl (y0, 64, .inl u12_0))]) [0, 1] (by decide) rfl
  have hKc := hK.sub (tys' := [(y0, .int)]) [0] rfl
  have hFc := va_free (wc := [(h0, .inr (8, [.ref h1, .ref h2, .int 2, .int x0, .int x1])), (h1, .inl (y0, 64, .inl u12_0))]) hD hS hA [0, 1] rfl
  refine va_callv (va_runV (As := [.int 114]) (rest := []) ⟨hx, hb, hml, hown, hG⟩ (cX8_put_3 l dC dI h0 h1 h2 y0 H.size x0 x1 u12_0 ix0 ix1 iu12_0 ku12_0_0 ku12_0_1) (cwV 1 hG (gV wd_1194 wd_1196 wp_57 wd_16 wd_1197) rfl rfl rfl (by decide +kernel) ⟨Nat.le_of_ble_eq_true rfl, Nat.le_of_ble_eq_true rfl⟩) ⟨fun a U g mk q => by obtain ⟨q0, q1, qP, qK, qD⟩ := q; exact ⟨q0, q1, qP, va_K.moved (u := U) (U := U.calling g mk a) (Vm.Alike.refl U.vm) qK, qD⟩, va_recv hKc hPc (ci := 8) (q0 := 0) rfl rfl, fun U hU hW => ⟨rfl, by rw [hU], by rw [hU]; exact hPc, va_K.moved hW.alike hKc, hDc.weaken (fun _ _ _ _ => trivial)⟩⟩ rfl rfl hl.1 rfl (lv_room (Nat.le_of_ble_eq_true rfl)) dX8_putName_23 ⟨by decide, by decide⟩) hS (fun q _ h => hFc q h) hFc (fun u18 t H1 locs ht hvm hw hB hz1 hk1 hS => ?_)
  obtain ⟨u18_0, rfl⟩ : ∃ z, z = u18 := ⟨_, rfl⟩
  have hw : (∀ j, iv (u18_0 j) 0 119) ∧ u18_0 0 = 119 ∧ u18_0 1 = 111 ∧ u18_0 2 = 114 ∧ True := hw
  obtain ⟨iu18_0, ku18_0_0, ku18_0_1, ku18_0_2, -⟩ := hw
  obtain ⟨hP1, hK1, hD1⟩ := hB
  rw [ht] at hP1
  have hK1 := va_K.moved hvm.symm hK1
  obtain ⟨hP, hD⟩ := va_join (wr := []) (w1 := [(h0, .inr (8, [.ref h1, .ref h2, .int 3, .int x0, .int x1])), (h1, .inl (y0, 64, .inl u18_0))]) hP hD [0, 1] [] rfl rfl (by decide) (by decide) hk1 hFc hP1 hD1
  have hK := (hK.sub (tys' := []) [] rfl).app hK1
  generalize H1 = H at hP hS ⊢
  have hP : va_P (dC, dI) vwCl [(h0, .inr (8, [.ref h1, .ref h2, .int 3, .int x0, .int x1])), (h1, .inl (y0, 64, .inl u18_0))] H := hP
  have hD : va_D A [(h0, .inr (8, [.ref h1, .ref h2, .int 3, .int x0, .int x1])), (h1, .inl (y0, 64, .inl u18_0))] := hD
  have hK : va_K (dC, dI) vwCl [(y0, .int)] s := hK
  refine lv_iinc (v := 3) (lv' := [(3, .int 3), (0, .ref h0), (1, .int 28), (2, .int 0)]) hx hb dX8_putName_26 hl (k := 0) rfl (by decide) (by decide) rfl (fun ls hl => ?_)
  refine lv_goto (tgt := 2) hx hb dX8_putName_29 (by decide) ?_
  refine lv_iload_n hx hb dX8_putName_2 rfl (lv_at hl 0 rfl) ?_
  refine lv_iconst (v := 4) hx hb dX8_putName_3 (by decide) ?_
  refine lv_icmp_ge (tgt := 32) hx hb dX8_putName_4 (by decide) (fun c => absurd c (by decide)) (fun _ => ?_)
  refine lv_iload_n hx hb dX8_putName_7 rfl (lv_at hl 2 rfl) ?_
  refine lv_iload_n hx hb dX8_putName_8 rfl (lv_at hl 0 rfl) ?_
  have hPc := hP.sub (ws' := []) [] rfl
  have hDc := hD.sub (ws' := []) [] (by decide) rfl
  have hKc := hK.sub (tys' := []) [] rfl
  have hFc := va_free (wc := []) hD hS hA [] rfl
  refine va_calli (va_runS (As := [.int 28, .int 3]) (rest := []) ⟨hx, hb, hml, hown, hG⟩ (cX10_nameSign_8 l dC dI adK adV H.size) (va_cwS 2 hG (gS wd_1193 wd_232 wd_11 wd_233) rfl rfl rfl (by decide +kernel) ⟨Nat.le_of_ble_eq_true rfl, Nat.le_of_ble_eq_true rfl⟩) ⟨fun a U g mk q => by obtain ⟨q0, q1, qP, qK, qD, qE⟩ := q; exact ⟨q0, q1, qP, va_K.moved (u := U) (U := U.calling g mk a) (Vm.Alike.refl U.vm) qK, qD, qE.same rfl⟩, fun U hU hW => ⟨rfl, by rw [hU], by rw [hU]; exact hPc, va_K.moved hW.alike hKc, hDc.weaken (fun _ _ _ _ => trivial), by rw [hU]; exact ((hE.kept hS.2.1).narrow hFc).warm hW⟩⟩ rfl rfl hl.1 rfl (lv_room (Nat.le_of_ble_eq_true rfl)) dX8_putName_9 ⟨by decide, by decide⟩) hS (fun q _ h => hFc q h) hFc (fun r19 u20 t H1 locs ht hvm hw hB hz1 hk1 hS => ?_)
  have hw : r19 = 100 ∧ True := hw
  obtain ⟨er19, -⟩ := hw
  obtain ⟨hP1, hK1, hD1⟩ := hB
  rw [ht] at hP1
  have hK1 := va_K.moved hvm.symm hK1
  obtain ⟨hP, hD⟩ := va_join (wr := [(h0, .inr (8, [.ref h1, .ref h2, .int 3, .int x0, .int x1])), (h1, .inl (y0, 64, .inl u18_0))]) (w1 := []) hP hD [] [0, 1] rfl rfl (by decide) (by decide) hk1 hFc hP1 hD1
  have hK := (hK.sub (tys' := [(y0, .int)]) [0] rfl).app hK1
  generalize H1 = H at hP hS ⊢
  have hP : va_P (dC, dI) vwCl [(h0, .inr (8, [.ref h1, .ref h2, .int 3, .int x0, .int x1])), (h1, .inl (y0, 64, .inl u18_0))] H := hP
  have hD : va_D A [(h0, .inr (8, [.ref h1, .ref h2, .int 3, .int x0, .int x1])), (h1, .inl (y0, 64, .inl u18_0))] := hD
  have hK : va_K (dC, dI) vwCl [(y0, .int)] s := hK
  subst er19
  refine lv_bipush (v := 32) hx hb dX8_putName_12 (by decide) ?_
  refine lv_icmp_eq (tgt := 32) hx hb dX8_putName_14 (by decide) (fun c => absurd c (by decide)) (fun _ => ?_)
  refine lv_aload_n hx hb dX8_putName_17 rfl (lv_at hl 1 rfl) ?_
  refine lv_iload_n hx hb dX8_putName_18 rfl (lv_at hl 2 rfl) ?_
  refine lv_iload_n hx hb dX8_putName_19 rfl (lv_at hl 0 rfl) ?_
  have hPc := hP.sub (ws' := []) [] rfl
  have hDc := hD.sub (ws' := []) [] (by decide) rfl
  have hKc := hK.sub (tys' := []) [] rfl
  have hFc := va_free (wc := []) hD hS hA [] rfl
  refine va_calli (va_runS (As := [.int 28, .int 3]) (rest := [.ref h0]) ⟨hx, hb, hml, hown, hG⟩ (cX10_nameSign_8 l dC dI adK adV H.size) (va_cwS 2 hG (gS wd_1193 wd_232 wd_11 wd_233) rfl rfl rfl (by decide +kernel) ⟨Nat.le_of_ble_eq_true rfl, Nat.le_of_ble_eq_true rfl⟩) ⟨fun a U g mk q => by obtain ⟨q0, q1, qP, qK, qD, qE⟩ := q; exact ⟨q0, q1, qP, va_K.moved (u := U) (U := U.calling g mk a) (Vm.Alike.refl U.vm) qK, qD, qE.same rfl⟩, fun U hU hW => ⟨rfl, by rw [hU], by rw [hU]; exact hPc, va_K.moved hW.alike hKc, hDc.weaken (fun _ _ _ _ => trivial), by rw [hU]; exact ((hE.kept hS.2.1).narrow hFc).warm hW⟩⟩ rfl rfl hl.1 rfl (lv_room (Nat.le_of_ble_eq_true rfl)) dX8_putName_20 ⟨by decide, by decide⟩) hS (fun q _ h => hFc q h) hFc (fun r21 u22 t H1 locs ht hvm hw hB hz1 hk1 hS => ?_)
  have hw : r21 = 100 ∧ True := hw
  obtain ⟨er21, -⟩ := hw
  obtain ⟨hP1, hK1, hD1⟩ := hB
  rw [ht] at hP1
  have hK1 := va_K.moved hvm.symm hK1
  obtain ⟨hP, hD⟩ := va_join (wr := [(h0, .inr (8, [.ref h1, .ref h2, .int 3, .int x0, .int x1])), (h1, .inl (y0, 64, .inl u18_0))]) (w1 := []) hP hD [] [0, 1] rfl rfl (by decide) (by decide) hk1 hFc hP1 hD1
  have hK := (hK.sub (tys' := [(y0, .int)]) [0] rfl).app hK1
  generalize H1 = H at hP hS ⊢
  have hP : va_P (dC, dI) vwCl [(h0, .inr (8, [.ref h1, .ref h2, .int 3, .int x0, .int x1])), (h1, .inl (y0, 64, .inl u18_0))] H := hP
  have hD : va_D A [(h0, .inr (8, [.ref h1, .ref h2, .int 3, .int x0, .int x1])), (h1, .inl (y0, 64, .inl u18_0))] := hD
  have hK : va_K (dC, dI) vwCl [(y0, .int)] s := hK
  subst er21
  have hPc := hP.sub (ws' := [(h0, .inr (8, [.ref h1, .ref h2, .int 3, .int x0, .int x1])), (h1, .inl (y0, 64, .inl u18_0))]) [0, 1] rfl
  have hDc := hD.sub (ws' := [(h0, .inr (8, [.ref h1, .ref h2, .int 3, .int x0, .int x1])), (h1, .inl (y0, 64, .inl u18_0))]) [0, 1] (by decide) rfl
  have hKc := hK.sub (tys' := [(y0, .int)]) [0] rfl
  have hFc := va_free (wc := [(h0, .inr (8, [.ref h1, .ref h2, .int 3, .int x0, .int x1])), (h1, .inl (y0, 64, .inl u18_0))]) hD hS hA [0, 1] rfl
  refine va_callv (va_runV (As := [.int 100]) (rest := []) ⟨hx, hb, hml, hown, hG⟩ (cX8_put_4 l dC dI h0 h1 h2 y0 H.size x0 x1 u18_0 ix0 ix1 iu18_0 ku18_0_0 ku18_0_1 ku18_0_2) (cwV 1 hG (gV wd_1194 wd_1196 wp_57 wd_16 wd_1197) rfl rfl rfl (by decide +kernel) ⟨Nat.le_of_ble_eq_true rfl, Nat.le_of_ble_eq_true rfl⟩) ⟨fun a U g mk q => by obtain ⟨q0, q1, qP, qK, qD⟩ := q; exact ⟨q0, q1, qP, va_K.moved (u := U) (U := U.calling g mk a) (Vm.Alike.refl U.vm) qK, qD⟩, va_recv hKc hPc (ci := 8) (q0 := 0) rfl rfl, fun U hU hW => ⟨rfl, by rw [hU], by rw [hU]; exact hPc, va_K.moved hW.alike hKc, hDc.weaken (fun _ _ _ _ => trivial)⟩⟩ rfl rfl hl.1 rfl (lv_room (Nat.le_of_ble_eq_true rfl)) dX8_putName_23 ⟨by decide, by decide⟩) hS (fun q _ h => hFc q h) hFc (fun u24 t H1 locs ht hvm hw hB hz1 hk1 hS => ?_)
  obtain ⟨u24_0, rfl⟩ : ∃ z, z = u24 := ⟨_, rfl⟩
  have hw : (∀ j, iv (u24_0 j) 0 119) ∧ u24_0 0 = 119 ∧ u24_0 1 = 111 ∧ u24_0 2 = 114 ∧ u24_0 3 = 100 ∧ True := hw
  obtain ⟨iu24_0, ku24_0_0, ku24_0_1, ku24_0_2, ku24_0_3, -⟩ := hw
  obtain ⟨hP1, hK1, hD1⟩ := hB
  rw [ht] at hP1
  have hK1 := va_K.moved hvm.symm hK1
  obtain ⟨hP, hD⟩ := va_join (wr := []) (w1 := [(h0, .inr (8, [.ref h1, .ref h2, .int 4, .int x0, .int x1])), (h1, .inl (y0, 64, .inl u24_0))]) hP hD [0, 1] [] rfl rfl (by decide) (by decide) hk1 hFc hP1 hD1
  have hK := (hK.sub (tys' := []) [] rfl).app hK1
  generalize H1 = H at hP hS ⊢
  have hP : va_P (dC, dI) vwCl [(h0, .inr (8, [.ref h1, .ref h2, .int 4, .int x0, .int x1])), (h1, .inl (y0, 64, .inl u24_0))] H := hP
  have hD : va_D A [(h0, .inr (8, [.ref h1, .ref h2, .int 4, .int x0, .int x1])), (h1, .inl (y0, 64, .inl u24_0))] := hD
  have hK : va_K (dC, dI) vwCl [(y0, .int)] s := hK
  refine lv_iinc (v := 4) (lv' := [(3, .int 4), (0, .ref h0), (1, .int 28), (2, .int 0)]) hx hb dX8_putName_26 hl (k := 0) rfl (by decide) (by decide) rfl (fun ls hl => ?_)
  refine lv_goto (tgt := 2) hx hb dX8_putName_29 (by decide) ?_
  refine lv_iload_n hx hb dX8_putName_2 rfl (lv_at hl 0 rfl) ?_
  refine lv_iconst (v := 4) hx hb dX8_putName_3 (by decide) ?_
  refine lv_icmp_ge (tgt := 32) hx hb dX8_putName_4 (by decide) (fun _ => ?_) (fun c => absurd (by decide) c)
  refine lv_iload_n hx hb dX8_putName_32 rfl (lv_at hl 3 rfl) ?_
  refine lv_if_eq (tgt := 48) hx hb dX8_putName_33 (by decide) (fun _ => ?_) (fun c => absurd (by decide) c)
  refine lv_aload_n hx hb dX8_putName_48 rfl (lv_at hl 1 rfl) ?_
  refine lv_bipush (v := 32) hx hb dX8_putName_49 (by decide) ?_
  have hPc := hP.sub (ws' := [(h0, .inr (8, [.ref h1, .ref h2, .int 4, .int x0, .int x1])), (h1, .inl (y0, 64, .inl u24_0))]) [0, 1] rfl
  have hDc := hD.sub (ws' := [(h0, .inr (8, [.ref h1, .ref h2, .int 4, .int x0, .int x1])), (h1, .inl (y0, 64, .inl u24_0))]) [0, 1] (by decide) rfl
  have hKc := hK.sub (tys' := [(y0, .int)]) [0] rfl
  have hFc := va_free (wc := [(h0, .inr (8, [.ref h1, .ref h2, .int 4, .int x0, .int x1])), (h1, .inl (y0, 64, .inl u24_0))]) hD hS hA [0, 1] rfl
  refine va_callv (va_runV (As := [.int 32]) (rest := []) ⟨hx, hb, hml, hown, hG⟩ (cX8_put_5 l dC dI h0 h1 h2 y0 H.size x0 x1 u24_0 ix0 ix1 iu24_0 ku24_0_0 ku24_0_1 ku24_0_2 ku24_0_3) (cwV 1 hG (gV wd_1194 wd_1196 wp_57 wd_16 wd_1197) rfl rfl rfl (by decide +kernel) ⟨Nat.le_of_ble_eq_true rfl, Nat.le_of_ble_eq_true rfl⟩) ⟨fun a U g mk q => by obtain ⟨q0, q1, qP, qK, qD⟩ := q; exact ⟨q0, q1, qP, va_K.moved (u := U) (U := U.calling g mk a) (Vm.Alike.refl U.vm) qK, qD⟩, va_recv hKc hPc (ci := 8) (q0 := 0) rfl rfl, fun U hU hW => ⟨rfl, by rw [hU], by rw [hU]; exact hPc, va_K.moved hW.alike hKc, hDc.weaken (fun _ _ _ _ => trivial)⟩⟩ rfl rfl hl.1 rfl (lv_room (Nat.le_of_ble_eq_true rfl)) dX8_putName_51 ⟨by decide, by decide⟩) hS (fun q _ h => hFc q h) hFc (fun u26 t H1 locs ht hvm hw hB hz1 hk1 hS => ?_)
  obtain ⟨u26_0, rfl⟩ : ∃ z, z = u26 := ⟨_, rfl⟩
  have hw : (∀ j, iv (u26_0 j) 0 119) ∧ u26_0 0 = 119 ∧ u26_0 1 = 111 ∧ u26_0 2 = 114 ∧ u26_0 3 = 100 ∧ u26_0 4 = 32 ∧ True := hw
  obtain ⟨iu26_0, ku26_0_0, ku26_0_1, ku26_0_2, ku26_0_3, ku26_0_4, -⟩ := hw
  obtain ⟨hP1, hK1, hD1⟩ := hB
  rw [ht] at hP1
  have hK1 := va_K.moved hvm.symm hK1
  obtain ⟨hP, hD⟩ := va_join (wr := []) (w1 := [(h0, .inr (8, [.ref h1, .ref h2, .int 5, .int x0, .int x1])), (h1, .inl (y0, 64, .inl u26_0))]) hP hD [0, 1] [] rfl rfl (by decide) (by decide) hk1 hFc hP1 hD1
  have hK := (hK.sub (tys' := []) [] rfl).app hK1
  generalize H1 = H at hP hS ⊢
  have hP : va_P (dC, dI) vwCl [(h0, .inr (8, [.ref h1, .ref h2, .int 5, .int x0, .int x1])), (h1, .inl (y0, 64, .inl u26_0))] H := hP
  have hD : va_D A [(h0, .inr (8, [.ref h1, .ref h2, .int 5, .int x0, .int x1])), (h1, .inl (y0, 64, .inl u26_0))] := hD
  have hK : va_K (dC, dI) vwCl [(y0, .int)] s := hK
  have hP9 := hP.sub (ws' := [(h0, .inr (8, [.ref h1, .ref h2, .int 5, .int x0, .int x1])), (h1, .inl (y0, 64, .inl u26_0))]) [0, 1] rfl
  have hD9 := hD.sub (ws' := [(h0, .inr (8, [.ref h1, .ref h2, .int 5, .int x0, .int x1])), (h1, .inl (y0, 64, .inl u26_0))]) [0, 1] (by decide) rfl
  have hK9 := hK.sub (tys' := [(y0, .int)]) [0] rfl
  exact W.vret hx hb hr (fun t ht hW => ⟨⟨u26_0, rfl, ⟨(fun j => iv_w (iu26_0 j) (by decide) (by decide)), ku26_0_0, ku26_0_1, ku26_0_2, ku26_0_3, ku26_0_4, trivial⟩, by rw [ht]; exact hP9, va_K.moved hW.alike hK9, hD9⟩, hS.F ht⟩) hS.2.2 dX8_putName_54
set_option maxHeartbeats 4000000 in
set_option maxRecDepth 100000 in
theorem cX8_put_6 (l : Launch) (dC : Nat → ClassId) (dI : Nat → Nat → Nat) (h0 h1 h2 : Nat) (y0 : ClassId) (sz : Nat) (x0 x1 : Int32) (f0 : Nat → Int32) (ix0 : iv x0 0 65535) (ix1 : iv x1 2 65536) (if0 : ∀ j, iv (f0 j) 0 119) (kf0_0 : f0 0 = 119) (kf0_1 : f0 1 = 111) (kf0_2 : f0 2 = 114) (kf0_3 : f0 3 = 100) (kf0_4 : f0 4 = 32) : Met l yX8_put (Cond.code yX8_put cX8_put 2 none :: lw_G) ({ frames := 0, cells := 0, slots := 0, locals := 0 }) (va_Pc [.ref h0, .int 48] (fun U => U.heap.size = sz ∧ va_P (dC, dI) vwCl [(h0, .inr (8, [.ref h1, .ref h2, .int 5, .int x0, .int x1])), (h1, .inl (y0, 64, .inl f0))] U.heap ∧ va_K (dC, dI) vwCl [(y0, .int)] U ∧ va_D (fun _ => True) [(h0, .inr (8, [.ref h1, .ref h2, .int 5, .int x0, .int x1])), (h1, .inl (y0, 64, .inl f0))])) (va_Qv (fun (u : (Nat → Int32)) => (∀ j, iv (u j) 0 119) ∧ u 0 = 119 ∧ u 1 = 111 ∧ u 2 = 114 ∧ u 3 = 100 ∧ u 4 = 32 ∧ u 5 = 48 ∧ True) (fun (u : (Nat → Int32)) (t : State) => va_P (dC, dI) vwCl [(h0, .inr (8, [.ref h1, .ref h2, .int 6, .int x0, .int x1])), (h1, .inl (y0, 64, .inl u))] t.heap ∧ va_K (dC, dI) vwCl [(y0, .int)] t ∧ va_D (va_A [(h0, .inr (8, [.ref h1, .ref h2, .int 5, .int x0, .int x1])), (h1, .inl (y0, 64, .inl f0))] sz) [(h0, .inr (8, [.ref h1, .ref h2, .int 6, .int x0, .int x1])), (h1, .inl (y0, 64, .inl u))]) (va_A [(h0, .inr (8, [.ref h1, .ref h2, .int 5, .int x0, .int x1])), (h1, .inl (y0, 64, .inl f0))] sz)) 0 0 (va_A [(h0, .inr (8, [.ref h1, .ref h2, .int 5, .int x0, .int x1])), (h1, .inl (y0, 64, .inl f0))] sz) := by
  refine Met.ofW (cc := cX8_put) (maxL := 2) (ret := none) (by decide) rfl ?_
  intro p e s m args below meth c s₁ B hml hv
  obtain ⟨rfl, hsz, hP, hK, hD0⟩ := hv
  have hx := B.exec
  have hb := B.bytes
  have hr := B.returns
  have hts0 := atoms_spec (ws := Cond.code yX8_put cX8_put 2 none :: lw_G) B.pre
  have hG : ∀ w ∈ lw_G, w.before _ s = true := fun w h => hts0 w (List.mem_cons_of_mem _ h)
  have hown : s.vm.findClass RX8 = some m.cls := findClass_of_methodNamed B.named
  have hlocks := B.notSynchronized
  subst hsz
  have hD := hD0.self (sz := s.heap.size)
  generalize hAe : va_A [(h0, .inr (8, [.ref h1, .ref h2, .int 5, .int x0, .int x1])), (h1, .inl (y0, 64, .inl f0))] s.heap.size = A at hD ⊢
  have hA : ∀ q : Nat, s.heap.size ≤ q → A q := fun q h => by rw [← hAe]; exact Or.inr h
  have hS : va_S A s.heap s.heap [] := va_S.rf
  have hP : va_P (dC, dI) vwCl [(h0, .inr (8, [.ref h1, .ref h2, .int 5, .int x0, .int x1])), (h1, .inl (y0, 64, .inl f0))] s.heap := hP
  have hl := lv_entry ([.ref h0, .int 48]) (n := 2) (Nat.le_of_ble_eq_true rfl)
  rw [lg_entry_eq]
  generalize (lg_sl ([.ref h0, .int 48]) ++ List.replicate (2 - (lg_sl ([.ref h0, .int 48])).length) Slot.unset).toArray = ls at hl ⊢
  have hl : lv_has ls 2 [(0, .ref h0), (1, .int 48)] := hl
  refine lv_aload_n hx hb dX8_put_0 rfl (lv_at hl 0 rfl) ?_
  refine va_get (D := (dC, dI)) (ci := 8) (v := .int 5) (C := RX8) (T := TX8) (N := 5) hx hb hG inGX8 hown hK hP 0 rfl rfl 2 (by decide) (hG _ wd_381) (fun _ h9 => h9) rfl dX8_put_1 ?_
  refine lv_bipush (v := 64) hx hb dX8_put_4 (by decide) ?_
  refine lv_icmp_ge (tgt := 29) hx hb dX8_put_6 (by decide) (fun c => absurd c (by decide)) (fun _ => ?_)
  refine lv_aload_n hx hb dX8_put_9 rfl (lv_at hl 0 rfl) ?_
  refine va_get (D := (dC, dI)) (ci := 8) (v := .ref h1) (C := RX8) (T := TX8) (N := 5) hx hb hG inGX8 hown hK hP 0 rfl rfl 0 (by decide) (hG _ wd_379) (fun _ h9 => h9) rfl dX8_put_10 ?_
  refine lv_aload_n hx hb dX8_put_13 rfl (lv_at hl 0 rfl) ?_
  refine va_get (D := (dC, dI)) (ci := 8) (v := .int 5) (C := RX8) (T := TX8) (N := 5) hx hb hG inGX8 hown hK hP 0 rfl rfl 2 (by decide) (hG _ wd_381) (fun _ h9 => h9) rfl dX8_put_14 ?_
  refine lv_iload_n hx hb dX8_put_17 rfl (lv_at hl 1 rfl) ?_
  refine va_iast hx hb hK hP hD hS 1 0 rfl rfl (iv_in (by decide : iv 5 5 5) (by decide) (by decide) : vp_in 5 64) dX8_put_18 (fun H locs hP hD hS => ?_)
  have hP : va_P (dC, dI) vwCl [(h0, .inr (8, [.ref h1, .ref h2, .int 5, .int x0, .int x1])), (h1, .inl (y0, 64, .inl (upd f0 (5 : Int32).toNatClampNeg 48)))] H := hP
  have hD : va_D A [(h0, .inr (8, [.ref h1, .ref h2, .int 5, .int x0, .int x1])), (h1, .inl (y0, 64, .inl (upd f0 (5 : Int32).toNatClampNeg 48)))] := hD
  obtain ⟨f1, ef1⟩ : ∃ z, z = upd f0 (5 : Int32).toNatClampNeg 48 := ⟨_, rfl⟩
  rw [← ef1] at hP hD
  have if1 : ∀ j, iv (f1 j) 0 119 := by rw [ef1]; exact iv_upd if0 (by decide : iv 48 48 48) (by decide) (by decide) (by decide) (by decide)
  refine lv_aload_n hx hb dX8_put_19 rfl (lv_at hl 0 rfl) ?_
  refine lv_dup hx hb dX8_put_20 rfl ?_
  refine va_get (D := (dC, dI)) (ci := 8) (v := .int 5) (C := RX8) (T := TX8) (N := 5) hx hb hG inGX8 hown hK hP 0 rfl rfl 2 (by decide) (hG _ wd_381) (fun _ h9 => h9) rfl dX8_put_21 ?_
  refine lv_iconst (v := 1) hx hb dX8_put_24 (by decide) ?_
  refine lv_iadd hx hb dX8_put_25 ?_
  refine lv_val (y := 6) (by decide +kernel) ?_
  refine va_put (D := (dC, dI)) (ci := 8) (v := .int 6) (ty := .int) (C := RX8) (T := TX8) (N := 5) hx hb hG inGX8 tyX8 tyX8_ok nmX8 hown hK hP hD hS 0 rfl rfl 2 (by decide) (hG _ wd_381) (fun _ h9 => h9) rfl (by decide +kernel) rfl rfl (Nat.le_of_ble_eq_true rfl) dX8_put_26 (fun H locs hP hD hS => ?_)
  have hP : va_P (dC, dI) vwCl [(h0, .inr (8, [.ref h1, .ref h2, .int 6, .int x0, .int x1])), (h1, .inl (y0, 64, .inl f1))] H := hP
  have hD : va_D A [(h0, .inr (8, [.ref h1, .ref h2, .int 6, .int x0, .int x1])), (h1, .inl (y0, 64, .inl f1))] := hD
  have hP9 := hP.sub (ws' := [(h0, .inr (8, [.ref h1, .ref h2, .int 6, .int x0, .int x1])), (h1, .inl (y0, 64, .inl f1))]) [0, 1] rfl
  have hD9 := hD.sub (ws' := [(h0, .inr (8, [.ref h1, .ref h2, .int 6, .int x0, .int x1])), (h1, .inl (y0, 64, .inl f1))]) [0, 1] (by decide) rfl
  have hK9 := hK.sub (tys' := [(y0, .int)]) [0] rfl
  exact W.vret hx hb hr (fun t ht hW => ⟨⟨f1, rfl, ⟨(fun j => iv_w (if1 j) (by decide) (by decide)), (kn ef1 (by decide) kf0_0), (kn ef1 (by decide) kf0_1), (kn ef1 (by decide) kf0_2), (kn ef1 (by decide) kf0_3), (kn ef1 (by decide) kf0_4), (ku ef1 (by decide)), trivial⟩, by rw [ht]; exact hP9, va_K.moved hW.alike hK9, hD9⟩, hS.F ht⟩) hS.2.2 dX8_put_29
set_option maxHeartbeats 4000000 in
set_option maxRecDepth 100000 in
theorem cX8_putNumber_1 (l : Launch) (dC : Nat → ClassId) (dI : Nat → Nat → Nat) (h0 h1 h2 : Nat) (y0 : ClassId) (sz : Nat) (x0 x1 : Int32) (f0 : Nat → Int32) (ix0 : iv x0 0 65535) (ix1 : iv x1 2 65536) (if0 : ∀ j, iv (f0 j) 0 119) (kf0_0 : f0 0 = 119) (kf0_1 : f0 1 = 111) (kf0_2 : f0 2 = 114) (kf0_3 : f0 3 = 100) (kf0_4 : f0 4 = 32) : Met l yX8_putNumber (Cond.code yX8_putNumber cX8_putNumber 4 none :: lw_G) ({ frames := 1, cells := 0, slots := 0, locals := 21 }) (va_Pc [.ref h0, .int 0] (fun U => U.heap.size = sz ∧ va_P (dC, dI) vwCl [(h0, .inr (8, [.ref h1, .ref h2, .int 5, .int x0, .int x1])), (h1, .inl (y0, 64, .inl f0))] U.heap ∧ va_K (dC, dI) vwCl [(y0, .int)] U ∧ va_D (fun _ => True) [(h0, .inr (8, [.ref h1, .ref h2, .int 5, .int x0, .int x1])), (h1, .inl (y0, 64, .inl f0))])) (va_Qv (fun (u : (Nat → Int32)) => (∀ j, iv (u j) 0 119) ∧ u 0 = 119 ∧ u 1 = 111 ∧ u 2 = 114 ∧ u 3 = 100 ∧ u 4 = 32 ∧ u 5 = 48 ∧ True) (fun (u : (Nat → Int32)) (t : State) => va_P (dC, dI) vwCl [(h0, .inr (8, [.ref h1, .ref h2, .int 6, .int x0, .int x1])), (h1, .inl (y0, 64, .inl u))] t.heap ∧ va_K (dC, dI) vwCl [(y0, .int)] t ∧ va_D (va_A [(h0, .inr (8, [.ref h1, .ref h2, .int 5, .int x0, .int x1])), (h1, .inl (y0, 64, .inl f0))] sz) [(h0, .inr (8, [.ref h1, .ref h2, .int 6, .int x0, .int x1])), (h1, .inl (y0, 64, .inl u))]) (va_A [(h0, .inr (8, [.ref h1, .ref h2, .int 5, .int x0, .int x1])), (h1, .inl (y0, 64, .inl f0))] sz)) 0 0 (va_A [(h0, .inr (8, [.ref h1, .ref h2, .int 5, .int x0, .int x1])), (h1, .inl (y0, 64, .inl f0))] sz) := by
  refine Met.ofW (cc := cX8_putNumber) (maxL := 4) (ret := none) (by decide) rfl ?_
  intro p e s m args below meth c s₁ B hml hv
  obtain ⟨rfl, hsz, hP, hK, hD0⟩ := hv
  have hx := B.exec
  have hb := B.bytes
  have hr := B.returns
  have hts0 := atoms_spec (ws := Cond.code yX8_putNumber cX8_putNumber 4 none :: lw_G) B.pre
  have hG : ∀ w ∈ lw_G, w.before _ s = true := fun w h => hts0 w (List.mem_cons_of_mem _ h)
  have hown : s.vm.findClass RX8 = some m.cls := findClass_of_methodNamed B.named
  have hlocks := B.notSynchronized
  subst hsz
  have hD := hD0.self (sz := s.heap.size)
  generalize hAe : va_A [(h0, .inr (8, [.ref h1, .ref h2, .int 5, .int x0, .int x1])), (h1, .inl (y0, 64, .inl f0))] s.heap.size = A at hD ⊢
  have hA : ∀ q : Nat, s.heap.size ≤ q → A q := fun q h => by rw [← hAe]; exact Or.inr h
  have hS : va_S A s.heap s.heap [] := va_S.rf
  have hP : va_P (dC, dI) vwCl [(h0, .inr (8, [.ref h1, .ref h2, .int 5, .int x0, .int x1])), (h1, .inl (y0, 64, .inl f0))] s.heap := hP
  have hl := lv_entry ([.ref h0, .int 0]) (n := 4) (Nat.le_of_ble_eq_true rfl)
  rw [lg_entry_eq]
  generalize (lg_sl ([.ref h0, .int 0]) ++ List.replicate (4 - (lg_sl ([.ref h0, .int 0])).length) Slot.unset).toArray = ls at hl ⊢
  have hl : lv_has ls 4 [(0, .ref h0), (1, .int 0)] := hl
  refine lv_iconst (v := 1) hx hb dX8_putNumber_0 (by decide) ?_
  refine lv_istore_n (lv' := [(2, .int 1), (0, .ref h0), (1, .int 0)]) hx hb dX8_putNumber_1 rfl hl (by decide) rfl (fun ls hl => ?_)
  refine lv_iconst (v := 0) hx hb dX8_putNumber_2 (by decide) ?_
  refine lv_istore_n (lv' := [(3, .int 0), (2, .int 1), (0, .ref h0), (1, .int 0)]) hx hb dX8_putNumber_3 rfl hl (by decide) rfl (fun ls hl => ?_)
  refine lv_iload_n hx hb dX8_putNumber_4 rfl (lv_at hl 0 rfl) ?_
  refine lv_iconst (v := 4) hx hb dX8_putNumber_5 (by decide) ?_
  refine lv_icmp_ge (tgt := 28) hx hb dX8_putNumber_6 (by decide) (fun c => absurd c (by decide)) (fun _ => ?_)
  refine lv_iload_n hx hb dX8_putNumber_9 rfl (lv_at hl 3 rfl) ?_
  refine lv_iload_n hx hb dX8_putNumber_10 rfl (lv_at hl 1 rfl) ?_
  refine lv_bipush (v := 10) hx hb dX8_putNumber_11 (by decide) ?_
  refine lv_imul hx hb dX8_putNumber_13 ?_
  refine lv_val (y := 10) (by decide +kernel) ?_
  refine lv_icmp_lt (tgt := 28) hx hb dX8_putNumber_14 (by decide) (fun _ => ?_) (fun c => absurd (by decide) c)
  refine lv_iload_n hx hb dX8_putNumber_28 rfl (lv_at hl 1 rfl) ?_
  refine lv_if_le (tgt := 53) hx hb dX8_putNumber_29 (by decide) (fun c => absurd c (by decide)) (fun _ => ?_)
  refine lv_aload_n hx hb dX8_putNumber_32 rfl (lv_at hl 2 rfl) ?_
  refine lv_bipush (v := 48) hx hb dX8_putNumber_33 (by decide) ?_
  refine lv_iload_n hx hb dX8_putNumber_35 rfl (lv_at hl 3 rfl) ?_
  refine lv_iload_n hx hb dX8_putNumber_36 rfl (lv_at hl 1 rfl) ?_
  refine lv_idiv hx hb dX8_putNumber_37 (by decide) ?_
  refine lv_val (y := 0) (by decide +kernel) ?_
  refine lv_bipush (v := 10) hx hb dX8_putNumber_38 (by decide) ?_
  refine lv_irem hx hb dX8_putNumber_40 (by decide) ?_
  refine lv_val (y := 0) (by decide +kernel) ?_
  refine lv_iadd hx hb dX8_putNumber_41 ?_
  refine lv_val (y := 48) (by decide +kernel) ?_
  have hPc := hP.sub (ws' := [(h0, .inr (8, [.ref h1, .ref h2, .int 5, .int x0, .int x1])), (h1, .inl (y0, 64, .inl f0))]) [0, 1] rfl
  have hDc := hD.sub (ws' := [(h0, .inr (8, [.ref h1, .ref h2, .int 5, .int x0, .int x1])), (h1, .inl (y0, 64, .inl f0))]) [0, 1] (by decide) rfl
  have hKc := hK.sub (tys' := [(y0, .int)]) [0] rfl
  have hFc := va_free (wc := [(h0, .inr (8, [.ref h1, .ref h2, .int 5, .int x0, .int x1])), (h1, .inl (y0, 64, .inl f0))]) hD hS hA [0, 1] rfl
  refine va_callv (va_runV (As := [.int 48]) (rest := []) ⟨hx, hb, hml, hown, hG⟩ (cX8_put_6 l dC dI h0 h1 h2 y0 s.heap.size x0 x1 f0 ix0 ix1 if0 kf0_0 kf0_1 kf0_2 kf0_3 kf0_4) (cwV 1 hG (gV wd_1194 wd_1196 wp_57 wd_16 wd_1197) rfl rfl rfl (by decide +kernel) ⟨Nat.le_of_ble_eq_true rfl, Nat.le_of_ble_eq_true rfl⟩) ⟨fun a U g mk q => by obtain ⟨q0, q1, qP, qK, qD⟩ := q; exact ⟨q0, q1, qP, va_K.moved (u := U) (U := U.calling g mk a) (Vm.Alike.refl U.vm) qK, qD⟩, va_recv hKc hPc (ci := 8) (q0 := 0) rfl rfl, fun U hU hW => ⟨rfl, by rw [hU], by rw [hU]; exact hPc, va_K.moved hW.alike hKc, hDc.weaken (fun _ _ _ _ => trivial)⟩⟩ rfl rfl hl.1 rfl (lv_room (Nat.le_of_ble_eq_true rfl)) dX8_putNumber_42 ⟨by decide, by decide⟩) hS (fun q _ h => hFc q h) hFc (fun u2 t H1 locs ht hvm hw hB hz1 hk1 hS => ?_)
  obtain ⟨u2_0, rfl⟩ : ∃ z, z = u2 := ⟨_, rfl⟩
  have hw : (∀ j, iv (u2_0 j) 0 119) ∧ u2_0 0 = 119 ∧ u2_0 1 = 111 ∧ u2_0 2 = 114 ∧ u2_0 3 = 100 ∧ u2_0 4 = 32 ∧ u2_0 5 = 48 ∧ True := hw
  obtain ⟨iu2_0, ku2_0_0, ku2_0_1, ku2_0_2, ku2_0_3, ku2_0_4, ku2_0_5, -⟩ := hw
  obtain ⟨hP1, hK1, hD1⟩ := hB
  rw [ht] at hP1
  have hK1 := va_K.moved hvm.symm hK1
  obtain ⟨hP, hD⟩ := va_join (wr := []) (w1 := [(h0, .inr (8, [.ref h1, .ref h2, .int 6, .int x0, .int x1])), (h1, .inl (y0, 64, .inl u2_0))]) hP hD [0, 1] [] rfl rfl (by decide) (by decide) hk1 hFc hP1 hD1
  have hK := (hK.sub (tys' := []) [] rfl).app hK1
  generalize H1 = H at hP hS ⊢
  have hP : va_P (dC, dI) vwCl [(h0, .inr (8, [.ref h1, .ref h2, .int 6, .int x0, .int x1])), (h1, .inl (y0, 64, .inl u2_0))] H := hP
  have hD : va_D A [(h0, .inr (8, [.ref h1, .ref h2, .int 6, .int x0, .int x1])), (h1, .inl (y0, 64, .inl u2_0))] := hD
  have hK : va_K (dC, dI) vwCl [(y0, .int)] s := hK
  refine lv_iload_n hx hb dX8_putNumber_45 rfl (lv_at hl 1 rfl) ?_
  refine lv_bipush (v := 10) hx hb dX8_putNumber_46 (by decide) ?_
  refine lv_idiv hx hb dX8_putNumber_48 (by decide) ?_
  refine lv_val (y := 0) (by decide +kernel) ?_
  refine lv_istore_n (lv' := [(2, .int 0), (3, .int 0), (0, .ref h0), (1, .int 0)]) hx hb dX8_putNumber_49 rfl hl (by decide) rfl (fun ls hl => ?_)
  refine lv_goto (tgt := 28) hx hb dX8_putNumber_50 (by decide) ?_
  refine lv_iload_n hx hb dX8_putNumber_28 rfl (lv_at hl 0 rfl) ?_
  refine lv_if_le (tgt := 53) hx hb dX8_putNumber_29 (by decide) (fun _ => ?_) (fun c => absurd (by decide) c)
  have hP9 := hP.sub (ws' := [(h0, .inr (8, [.ref h1, .ref h2, .int 6, .int x0, .int x1])), (h1, .inl (y0, 64, .inl u2_0))]) [0, 1] rfl
  have hD9 := hD.sub (ws' := [(h0, .inr (8, [.ref h1, .ref h2, .int 6, .int x0, .int x1])), (h1, .inl (y0, 64, .inl u2_0))]) [0, 1] (by decide) rfl
  have hK9 := hK.sub (tys' := [(y0, .int)]) [0] rfl
  exact W.vret hx hb hr (fun t ht hW => ⟨⟨u2_0, rfl, ⟨(fun j => iv_w (iu2_0 j) (by decide) (by decide)), ku2_0_0, ku2_0_1, ku2_0_2, ku2_0_3, ku2_0_4, ku2_0_5, trivial⟩, by rw [ht]; exact hP9, va_K.moved hW.alike hK9, hD9⟩, hS.F ht⟩) hS.2.2 dX8_putNumber_53
set_option maxHeartbeats 4000000 in
set_option maxRecDepth 100000 in
theorem cX8_tellWord_1 (l : Launch) (dC : Nat → ClassId) (dI : Nat → Nat → Nat) (adK adV : Nat → Nat) (h0 h1 h2 h3 h4 h5 h6 h7 h8 : Nat) (y0 y1 y2 y3 : ClassId) (sz : Nat) (x0 x1 x2 : Int32) (ix0 : iv x0 0 65534) (ix1 : iv x1 0 65535) (ix2 : iv x2 2 65536) : Met l yX8_tellWord (Cond.code yX8_tellWord cX8_tellWord 2 none :: lw_G) ({ frames := 6, cells := 0, slots := 0, locals := 130 }) (va_Pc [.ref h0, .int x0] (fun U => U.heap.size = sz ∧ va_P (dC, dI) vwCl [(h0, .inr (8, [.ref h1, .ref h2, .int 0, .int x1, .int x2])), (h1, .inl (y0, 64, .inl (fun _ => 0))), (h2, .inr (1, [.ref h3, .ref h4, .ref h5, .ref h6])), (h3, .inl (y1, 32768, .inl (fun _ => 0))), (h6, .inr (9, [.ref h7, .ref h8, .int 0, .int 0, .int 0, .int 0])), (h8, .inl (y2, 3, .inl (fun _ => 0))), (h7, .inl (y3, 3, .inl (fun _ => 0))), (h5, .inr (5, [.int 304, .int 0, .int 0, .int 0, .int 0, .int 0])), (h4, .inr (7, [.int 0, .int 0, .int 0, .int 0, .int 0]))] U.heap ∧ va_K (dC, dI) vwCl [(y0, .int), (y1, .int), (y2, .int), (y3, .int)] U ∧ va_D (fun _ => True) [(h0, .inr (8, [.ref h1, .ref h2, .int 0, .int x1, .int x2])), (h1, .inl (y0, 64, .inl (fun _ => 0))), (h2, .inr (1, [.ref h3, .ref h4, .ref h5, .ref h6])), (h3, .inl (y1, 32768, .inl (fun _ => 0))), (h6, .inr (9, [.ref h7, .ref h8, .int 0, .int 0, .int 0, .int 0])), (h8, .inl (y2, 3, .inl (fun _ => 0))), (h7, .inl (y3, 3, .inl (fun _ => 0))), (h5, .inr (5, [.int 304, .int 0, .int 0, .int 0, .int 0, .int 0])), (h4, .inr (7, [.int 0, .int 0, .int 0, .int 0, .int 0]))] ∧ ev adK adV (va_A [(h0, .inr (8, [.ref h1, .ref h2, .int 0, .int x1, .int x2])), (h1, .inl (y0, 64, .inl (fun _ => 0))), (h2, .inr (1, [.ref h3, .ref h4, .ref h5, .ref h6])), (h3, .inl (y1, 32768, .inl (fun _ => 0))), (h6, .inr (9, [.ref h7, .ref h8, .int 0, .int 0, .int 0, .int 0])), (h8, .inl (y2, 3, .inl (fun _ => 0))), (h7, .inl (y3, 3, .inl (fun _ => 0))), (h5, .inr (5, [.int 304, .int 0, .int 0, .int 0, .int 0, .int 0])), (h4, .inr (7, [.int 0, .int 0, .int 0, .int 0, .int 0]))] sz) U U.heap)) (va_Qv (fun (u : Int32 × (Nat → Int32)) => iv u.1 0 65535 ∧ (∀ j, iv (u.2 j) 0 119) ∧ u.2 0 = 119 ∧ u.2 1 = 111 ∧ u.2 2 = 114 ∧ u.2 3 = 100 ∧ u.2 4 = 32 ∧ u.2 5 = 48 ∧ True) (fun (u : Int32 × (Nat → Int32)) (t : State) => va_P (dC, dI) vwCl [(h0, .inr (8, [.ref h1, .ref h2, .int 6, .int u.1, .int x2])), (h1, .inl (y0, 64, .inl u.2)), (h2, .inr (1, [.ref h3, .ref h4, .ref h5, .ref h6])), (h3, .inl (y1, 32768, .inl (fun _ => 0))), (h6, .inr (9, [.ref h7, .ref h8, .int 0, .int 0, .int 0, .int 0])), (h8, .inl (y2, 3, .inl (fun _ => 0))), (h7, .inl (y3, 3, .inl (fun _ => 0))), (h5, .inr (5, [.int 304, .int 0, .int 0, .int 0, .int 0, .int 0])), (h4, .inr (7, [.int 0, .int 0, .int 0, .int 0, .int 0]))] t.heap ∧ va_K (dC, dI) vwCl [(y0, .int), (y1, .int), (y2, .int), (y3, .int)] t ∧ va_D (va_A [(h0, .inr (8, [.ref h1, .ref h2, .int 0, .int x1, .int x2])), (h1, .inl (y0, 64, .inl (fun _ => 0))), (h2, .inr (1, [.ref h3, .ref h4, .ref h5, .ref h6])), (h3, .inl (y1, 32768, .inl (fun _ => 0))), (h6, .inr (9, [.ref h7, .ref h8, .int 0, .int 0, .int 0, .int 0])), (h8, .inl (y2, 3, .inl (fun _ => 0))), (h7, .inl (y3, 3, .inl (fun _ => 0))), (h5, .inr (5, [.int 304, .int 0, .int 0, .int 0, .int 0, .int 0])), (h4, .inr (7, [.int 0, .int 0, .int 0, .int 0, .int 0]))] sz) [(h0, .inr (8, [.ref h1, .ref h2, .int 6, .int u.1, .int x2])), (h1, .inl (y0, 64, .inl u.2)), (h2, .inr (1, [.ref h3, .ref h4, .ref h5, .ref h6])), (h3, .inl (y1, 32768, .inl (fun _ => 0))), (h6, .inr (9, [.ref h7, .ref h8, .int 0, .int 0, .int 0, .int 0])), (h8, .inl (y2, 3, .inl (fun _ => 0))), (h7, .inl (y3, 3, .inl (fun _ => 0))), (h5, .inr (5, [.int 304, .int 0, .int 0, .int 0, .int 0, .int 0])), (h4, .inr (7, [.int 0, .int 0, .int 0, .int 0, .int 0]))]) (va_A [(h0, .inr (8, [.ref h1, .ref h2, .int 0, .int x1, .int x2])), (h1, .inl (y0, 64, .inl (fun _ => 0))), (h2, .inr (1, [.ref h3, .ref h4, .ref h5, .ref h6])), (h3, .inl (y1, 32768, .inl (fun _ => 0))), (h6, .inr (9, [.ref h7, .ref h8, .int 0, .int 0, .int 0, .int 0])), (h8, .inl (y2, 3, .inl (fun _ => 0))), (h7, .inl (y3, 3, .inl (fun _ => 0))), (h5, .inr (5, [.int 304, .int 0, .int 0, .int 0, .int 0, .int 0])), (h4, .inr (7, [.int 0, .int 0, .int 0, .int 0, .int 0]))] sz)) 0 0 (va_A [(h0, .inr (8, [.ref h1, .ref h2, .int 0, .int x1, .int x2])), (h1, .inl (y0, 64, .inl (fun _ => 0))), (h2, .inr (1, [.ref h3, .ref h4, .ref h5, .ref h6])), (h3, .inl (y1, 32768, .inl (fun _ => 0))), (h6, .inr (9, [.ref h7, .ref h8, .int 0, .int 0, .int 0, .int 0])), (h8, .inl (y2, 3, .inl (fun _ => 0))), (h7, .inl (y3, 3, .inl (fun _ => 0))), (h5, .inr (5, [.int 304, .int 0, .int 0, .int 0, .int 0, .int 0])), (h4, .inr (7, [.int 0, .int 0, .int 0, .int 0, .int 0]))] sz) := by
  refine Met.ofW (cc := cX8_tellWord) (maxL := 2) (ret := none) (by decide) rfl ?_
  intro p e s m args below meth c s₁ B hml hv
  obtain ⟨rfl, hsz, hP, hK, hD0, hE⟩ := hv
  have hx := B.exec
  have hb := B.bytes
  have hr := B.returns
  have hts0 := atoms_spec (ws := Cond.code yX8_tellWord cX8_tellWord 2 none :: lw_G) B.pre
  have hG : ∀ w ∈ lw_G, w.before _ s = true := fun w h => hts0 w (List.mem_cons_of_mem _ h)
  have hown : s.vm.findClass RX8 = some m.cls := findClass_of_methodNamed B.named
  have hlocks := B.notSynchronized
  subst hsz
  have hD := hD0.self (sz := s.heap.size)
  generalize hAe : va_A [(h0, .inr (8, [.ref h1, .ref h2, .int 0, .int x1, .int x2])), (h1, .inl (y0, 64, .inl (fun _ => 0))), (h2, .inr (1, [.ref h3, .ref h4, .ref h5, .ref h6])), (h3, .inl (y1, 32768, .inl (fun _ => 0))), (h6, .inr (9, [.ref h7, .ref h8, .int 0, .int 0, .int 0, .int 0])), (h8, .inl (y2, 3, .inl (fun _ => 0))), (h7, .inl (y3, 3, .inl (fun _ => 0))), (h5, .inr (5, [.int 304, .int 0, .int 0, .int 0, .int 0, .int 0])), (h4, .inr (7, [.int 0, .int 0, .int 0, .int 0, .int 0]))] s.heap.size = A at hD hE ⊢
  have hA : ∀ q : Nat, s.heap.size ≤ q → A q := fun q h => by rw [← hAe]; exact Or.inr h
  have hS : va_S A s.heap s.heap [] := va_S.rf
  have hP : va_P (dC, dI) vwCl [(h0, .inr (8, [.ref h1, .ref h2, .int 0, .int x1, .int x2])), (h1, .inl (y0, 64, .inl (fun _ => 0))), (h2, .inr (1, [.ref h3, .ref h4, .ref h5, .ref h6])), (h3, .inl (y1, 32768, .inl (fun _ => 0))), (h6, .inr (9, [.ref h7, .ref h8, .int 0, .int 0, .int 0, .int 0])), (h8, .inl (y2, 3, .inl (fun _ => 0))), (h7, .inl (y3, 3, .inl (fun _ => 0))), (h5, .inr (5, [.int 304, .int 0, .int 0, .int 0, .int 0, .int 0])), (h4, .inr (7, [.int 0, .int 0, .int 0, .int 0, .int 0]))] s.heap := hP
  have hl := lv_entry ([.ref h0, .int x0]) (n := 2) (Nat.le_of_ble_eq_true rfl)
  rw [lg_entry_eq]
  generalize (lg_sl ([.ref h0, .int x0]) ++ List.replicate (2 - (lg_sl ([.ref h0, .int x0])).length) Slot.unset).toArray = ls at hl ⊢
  have hl : lv_has ls 2 [(0, .ref h0), (1, .int x0)] := hl
  refine lv_aload_n hx hb dX8_tellWord_0 rfl (lv_at hl 0 rfl) ?_
  refine lv_iconst (v := 0) hx hb dX8_tellWord_1 (by decide) ?_
  refine va_put (D := (dC, dI)) (ci := 8) (v := .int 0) (ty := .int) (C := RX8) (T := TX8) (N := 5) hx hb hG inGX8 tyX8 tyX8_ok nmX8 hown hK hP hD hS 0 rfl rfl 2 (by decide) (hG _ wd_381) (fun _ h9 => h9) rfl (by decide +kernel) rfl rfl (Nat.le_of_ble_eq_true rfl) dX8_tellWord_2 (fun H locs hP hD hS => ?_)
  have hP : va_P (dC, dI) vwCl [(h0, .inr (8, [.ref h1, .ref h2, .int 0, .int x1, .int x2])), (h1, .inl (y0, 64, .inl (fun _ => 0))), (h2, .inr (1, [.ref h3, .ref h4, .ref h5, .ref h6])), (h3, .inl (y1, 32768, .inl (fun _ => 0))), (h6, .inr (9, [.ref h7, .ref h8, .int 0, .int 0, .int 0, .int 0])), (h8, .inl (y2, 3, .inl (fun _ => 0))), (h7, .inl (y3, 3, .inl (fun _ => 0))), (h5, .inr (5, [.int 304, .int 0, .int 0, .int 0, .int 0, .int 0])), (h4, .inr (7, [.int 0, .int 0, .int 0, .int 0, .int 0]))] H := hP
  have hD : va_D A [(h0, .inr (8, [.ref h1, .ref h2, .int 0, .int x1, .int x2])), (h1, .inl (y0, 64, .inl (fun _ => 0))), (h2, .inr (1, [.ref h3, .ref h4, .ref h5, .ref h6])), (h3, .inl (y1, 32768, .inl (fun _ => 0))), (h6, .inr (9, [.ref h7, .ref h8, .int 0, .int 0, .int 0, .int 0])), (h8, .inl (y2, 3, .inl (fun _ => 0))), (h7, .inl (y3, 3, .inl (fun _ => 0))), (h5, .inr (5, [.int 304, .int 0, .int 0, .int 0, .int 0, .int 0])), (h4, .inr (7, [.int 0, .int 0, .int 0, .int 0, .int 0]))] := hD
  refine lv_aload_n hx hb dX8_tellWord_5 rfl (lv_at hl 0 rfl) ?_
  refine lv_bipush (v := 28) hx hb dX8_tellWord_6 (by decide) ?_
  refine lv_iconst (v := 0) hx hb dX8_tellWord_8 (by decide) ?_
  have hPc := hP.sub (ws' := [(h0, .inr (8, [.ref h1, .ref h2, .int 0, .int x1, .int x2])), (h1, .inl (y0, 64, .inl (fun _ => 0)))]) [0, 1] rfl
  have hDc := hD.sub (ws' := [(h0, .inr (8, [.ref h1, .ref h2, .int 0, .int x1, .int x2])), (h1, .inl (y0, 64, .inl (fun _ => 0)))]) [0, 1] (by decide) rfl
  have hKc := hK.sub (tys' := [(y0, .int)]) [0] rfl
  have hFc := va_free (wc := [(h0, .inr (8, [.ref h1, .ref h2, .int 0, .int x1, .int x2])), (h1, .inl (y0, 64, .inl (fun _ => 0)))]) hD hS hA [0, 1] rfl
  refine va_callv (va_runV (As := [.int 28, .int 0]) (rest := []) ⟨hx, hb, hml, hown, hG⟩ (cX8_putName_1 l dC dI adK adV h0 h1 h2 y0 H.size x1 x2 ix1 ix2) (cwV 2 hG (gV wd_1189 wd_1191 wp_56 wd_16 wd_1192) rfl rfl rfl (by decide +kernel) ⟨Nat.le_of_ble_eq_true rfl, Nat.le_of_ble_eq_true rfl⟩) ⟨fun a U g mk q => by obtain ⟨q0, q1, qP, qK, qD, qE⟩ := q; exact ⟨q0, q1, qP, va_K.moved (u := U) (U := U.calling g mk a) (Vm.Alike.refl U.vm) qK, qD, qE.same rfl⟩, va_recv hKc hPc (ci := 8) (q0 := 0) rfl rfl, fun U hU hW => ⟨rfl, by rw [hU], by rw [hU]; exact hPc, va_K.moved hW.alike hKc, hDc.weaken (fun _ _ _ _ => trivial), by rw [hU]; exact ((hE.kept hS.2.1).narrow hFc).warm hW⟩⟩ rfl rfl hl.1 rfl (lv_room (Nat.le_of_ble_eq_true rfl)) dX8_tellWord_9 ⟨by decide, by decide⟩) hS (fun q _ h => hFc q h) hFc (fun u2 t H1 locs ht hvm hw hB hz1 hk1 hS => ?_)
  obtain ⟨u2_0, rfl⟩ : ∃ z, z = u2 := ⟨_, rfl⟩
  have hw : (∀ j, iv (u2_0 j) 0 119) ∧ u2_0 0 = 119 ∧ u2_0 1 = 111 ∧ u2_0 2 = 114 ∧ u2_0 3 = 100 ∧ u2_0 4 = 32 ∧ True := hw
  obtain ⟨iu2_0, ku2_0_0, ku2_0_1, ku2_0_2, ku2_0_3, ku2_0_4, -⟩ := hw
  obtain ⟨hP1, hK1, hD1⟩ := hB
  rw [ht] at hP1
  have hK1 := va_K.moved hvm.symm hK1
  obtain ⟨hP, hD⟩ := va_join (wr := [(h2, .inr (1, [.ref h3, .ref h4, .ref h5, .ref h6])), (h3, .inl (y1, 32768, .inl (fun _ => 0))), (h6, .inr (9, [.ref h7, .ref h8, .int 0, .int 0, .int 0, .int 0])), (h8, .inl (y2, 3, .inl (fun _ => 0))), (h7, .inl (y3, 3, .inl (fun _ => 0))), (h5, .inr (5, [.int 304, .int 0, .int 0, .int 0, .int 0, .int 0])), (h4, .inr (7, [.int 0, .int 0, .int 0, .int 0, .int 0]))]) (w1 := [(h0, .inr (8, [.ref h1, .ref h2, .int 5, .int x1, .int x2])), (h1, .inl (y0, 64, .inl u2_0))]) hP hD [0, 1] [2, 3, 4, 5, 6, 7, 8] rfl rfl (by decide) (by decide) hk1 hFc hP1 hD1
  have hK := (hK.sub (tys' := [(y1, .int), (y2, .int), (y3, .int)]) [1, 2, 3] rfl).app hK1
  generalize H1 = H at hP hS ⊢
  have hP : va_P (dC, dI) vwCl [(h2, .inr (1, [.ref h3, .ref h4, .ref h5, .ref h6])), (h3, .inl (y1, 32768, .inl (fun _ => 0))), (h6, .inr (9, [.ref h7, .ref h8, .int 0, .int 0, .int 0, .int 0])), (h8, .inl (y2, 3, .inl (fun _ => 0))), (h7, .inl (y3, 3, .inl (fun _ => 0))), (h5, .inr (5, [.int 304, .int 0, .int 0, .int 0, .int 0, .int 0])), (h4, .inr (7, [.int 0, .int 0, .int 0, .int 0, .int 0])), (h0, .inr (8, [.ref h1, .ref h2, .int 5, .int x1, .int x2])), (h1, .inl (y0, 64, .inl u2_0))] H := hP
  have hD : va_D A [(h2, .inr (1, [.ref h3, .ref h4, .ref h5, .ref h6])), (h3, .inl (y1, 32768, .inl (fun _ => 0))), (h6, .inr (9, [.ref h7, .ref h8, .int 0, .int 0, .int 0, .int 0])), (h8, .inl (y2, 3, .inl (fun _ => 0))), (h7, .inl (y3, 3, .inl (fun _ => 0))), (h5, .inr (5, [.int 304, .int 0, .int 0, .int 0, .int 0, .int 0])), (h4, .inr (7, [.int 0, .int 0, .int 0, .int 0, .int 0])), (h0, .inr (8, [.ref h1, .ref h2, .int 5, .int x1, .int x2])), (h1, .inl (y0, 64, .inl u2_0))] := hD
  have hK : va_K (dC, dI) vwCl [(y1, .int), (y2, .int), (y3, .int), (y0, .int)] s := hK
  refine lv_aload_n hx hb dX8_tellWord_12 rfl (lv_at hl 0 rfl) ?_
  refine lv_aload_n hx hb dX8_tellWord_13 rfl (lv_at hl 0 rfl) ?_
  refine va_get (D := (dC, dI)) (ci := 8) (v := .ref h2) (C := RX8) (T := TX8) (N := 5) hx hb hG inGX8 hown hK hP 7 rfl rfl 1 (by decide) (hG _ wd_380) (fun _ h9 => h9) rfl dX8_tellWord_14 ?_
  refine lv_iload_n hx hb dX8_tellWord_17 rfl (lv_at hl 1 rfl) ?_
  have hPc := hP.sub (ws' := [(h2, .inr (1, [.ref h3, .ref h4, .ref h5, .ref h6])), (h3, .inl (y1, 32768, .inl (fun _ => 0))), (h6, .inr (9, [.ref h7, .ref h8, .int 0, .int 0, .int 0, .int 0])), (h8, .inl (y2, 3, .inl (fun _ => 0))), (h7, .inl (y3, 3, .inl (fun _ => 0))), (h5, .inr (5, [.int 304, .int 0, .int 0, .int 0, .int 0, .int 0])), (h4, .inr (7, [.int 0, .int 0, .int 0, .int 0, .int 0]))]) [0, 1, 2, 3, 4, 5, 6] rfl
  have hDc := hD.sub (ws' := [(h2, .inr (1, [.ref h3, .ref h4, .ref h5, .ref h6])), (h3, .inl (y1, 32768, .inl (fun _ => 0))), (h6, .inr (9, [.ref h7, .ref h8, .int 0, .int 0, .int 0, .int 0])), (h8, .inl (y2, 3, .inl (fun _ => 0))), (h7, .inl (y3, 3, .inl (fun _ => 0))), (h5, .inr (5, [.int 304, .int 0, .int 0, .int 0, .int 0, .int 0])), (h4, .inr (7, [.int 0, .int 0, .int 0, .int 0, .int 0]))]) [0, 1, 2, 3, 4, 5, 6] (by decide) rfl
  have hKc := hK.sub (tys' := [(y1, .int), (y2, .int), (y3, .int)]) [0, 1, 2] rfl
  have hFc := va_free (wc := [(h2, .inr (1, [.ref h3, .ref h4, .ref h5, .ref h6])), (h3, .inl (y1, 32768, .inl (fun _ => 0))), (h6, .inr (9, [.ref h7, .ref h8, .int 0, .int 0, .int 0, .int 0])), (h8, .inl (y2, 3, .inl (fun _ => 0))), (h7, .inl (y3, 3, .inl (fun _ => 0))), (h5, .inr (5, [.int 304, .int 0, .int 0, .int 0, .int 0, .int 0])), (h4, .inr (7, [.int 0, .int 0, .int 0, .int 0, .int 0]))]) hD hS hA [0, 1, 2, 3, 4, 5, 6] rfl
  refine va_calli (va_runV (As := [.int x0]) (rest := [.ref h0]) ⟨hx, hb, hml, hown, hG⟩ (cX1_lookWord_3 l dC dI h2 h3 h4 h5 h6 h7 h8 y1 y2 y3 H.size x0 ix0) (cwV 1 hG (gV wd_1183 wd_822 wd_823 wd_2 wd_824) rfl rfl rfl (by decide +kernel) ⟨Nat.le_of_ble_eq_true rfl, Nat.le_of_ble_eq_true rfl⟩) ⟨fun a U g mk q => by obtain ⟨q0, q1, qP, qK, qD⟩ := q; exact ⟨q0, q1, qP, va_K.moved (u := U) (U := U.calling g mk a) (Vm.Alike.refl U.vm) qK, qD⟩, va_recv hKc hPc (ci := 1) (q0 := 0) rfl rfl, fun U hU hW => ⟨rfl, by rw [hU], by rw [hU]; exact hPc, va_K.moved hW.alike hKc, hDc.weaken (fun _ _ _ _ => trivial)⟩⟩ rfl rfl hl.1 rfl (lv_room (Nat.le_of_ble_eq_true rfl)) dX8_tellWord_18 ⟨by decide, by decide⟩) hS (fun q _ h => hFc q h) hFc (fun r3 u4 t H1 locs ht hvm hw hB hz1 hk1 hS => ?_)
  have hw : r3 = 0 ∧ True := hw
  obtain ⟨er3, -⟩ := hw
  obtain ⟨hP1, hK1, hD1⟩ := hB
  rw [ht] at hP1
  have hK1 := va_K.moved hvm.symm hK1
  obtain ⟨hP, hD⟩ := va_join (wr := [(h0, .inr (8, [.ref h1, .ref h2, .int 5, .int x1, .int x2])), (h1, .inl (y0, 64, .inl u2_0))]) (w1 := [(h2, .inr (1, [.ref h3, .ref h4, .ref h5, .ref h6])), (h3, .inl (y1, 32768, .inl (fun _ => 0))), (h6, .inr (9, [.ref h7, .ref h8, .int 0, .int 0, .int 0, .int 0])), (h8, .inl (y2, 3, .inl (fun _ => 0))), (h7, .inl (y3, 3, .inl (fun _ => 0))), (h5, .inr (5, [.int 304, .int 0, .int 0, .int 0, .int 0, .int 0])), (h4, .inr (7, [.int 0, .int 0, .int 0, .int 0, .int 0]))]) hP hD [0, 1, 2, 3, 4, 5, 6] [7, 8] rfl rfl (by decide) (by decide) hk1 hFc hP1 hD1
  have hK := (hK.sub (tys' := [(y0, .int)]) [3] rfl).app hK1
  generalize H1 = H at hP hS ⊢
  have hP : va_P (dC, dI) vwCl [(h0, .inr (8, [.ref h1, .ref h2, .int 5, .int x1, .int x2])), (h1, .inl (y0, 64, .inl u2_0)), (h2, .inr (1, [.ref h3, .ref h4, .ref h5, .ref h6])), (h3, .inl (y1, 32768, .inl (fun _ => 0))), (h6, .inr (9, [.ref h7, .ref h8, .int 0, .int 0, .int 0, .int 0])), (h8, .inl (y2, 3, .inl (fun _ => 0))), (h7, .inl (y3, 3, .inl (fun _ => 0))), (h5, .inr (5, [.int 304, .int 0, .int 0, .int 0, .int 0, .int 0])), (h4, .inr (7, [.int 0, .int 0, .int 0, .int 0, .int 0]))] H := hP
  have hD : va_D A [(h0, .inr (8, [.ref h1, .ref h2, .int 5, .int x1, .int x2])), (h1, .inl (y0, 64, .inl u2_0)), (h2, .inr (1, [.ref h3, .ref h4, .ref h5, .ref h6])), (h3, .inl (y1, 32768, .inl (fun _ => 0))), (h6, .inr (9, [.ref h7, .ref h8, .int 0, .int 0, .int 0, .int 0])), (h8, .inl (y2, 3, .inl (fun _ => 0))), (h7, .inl (y3, 3, .inl (fun _ => 0))), (h5, .inr (5, [.int 304, .int 0, .int 0, .int 0, .int 0, .int 0])), (h4, .inr (7, [.int 0, .int 0, .int 0, .int 0, .int 0]))] := hD
  have hK : va_K (dC, dI) vwCl [(y0, .int), (y1, .int), (y2, .int), (y3, .int)] s := hK
  subst er3
  have hPc := hP.sub (ws' := [(h0, .inr (8, [.ref h1, .ref h2, .int 5, .int x1, .int x2])), (h1, .inl (y0, 64, .inl u2_0))]) [0, 1] rfl
  have hDc := hD.sub (ws' := [(h0, .inr (8, [.ref h1, .ref h2, .int 5, .int x1, .int x2])), (h1, .inl (y0, 64, .inl u2_0))]) [0, 1] (by decide) rfl
  have hKc := hK.sub (tys' := [(y0, .int)]) [0] rfl
  have hFc := va_free (wc := [(h0, .inr (8, [.ref h1, .ref h2, .int 5, .int x1, .int x2])), (h1, .inl (y0, 64, .inl u2_0))]) hD hS hA [0, 1] rfl
  refine va_callv (va_runV (As := [.int 0]) (rest := []) ⟨hx, hb, hml, hown, hG⟩ (cX8_putNumber_1 l dC dI h0 h1 h2 y0 H.size x1 x2 u2_0 ix1 ix2 iu2_0 ku2_0_0 ku2_0_1 ku2_0_2 ku2_0_3 ku2_0_4) (cwV 1 hG (gV wd_1207 wd_1209 wp_60 wd_16 wd_1210) rfl rfl rfl (by decide +kernel) ⟨Nat.le_of_ble_eq_true rfl, Nat.le_of_ble_eq_true rfl⟩) ⟨fun a U g mk q => by obtain ⟨q0, q1, qP, qK, qD⟩ := q; exact ⟨q0, q1, qP, va_K.moved (u := U) (U := U.calling g mk a) (Vm.Alike.refl U.vm) qK, qD⟩, va_recv hKc hPc (ci := 8) (q0 := 0) rfl rfl, fun U hU hW => ⟨rfl, by rw [hU], by rw [hU]; exact hPc, va_K.moved hW.alike hKc, hDc.weaken (fun _ _ _ _ => trivial)⟩⟩ rfl rfl hl.1 rfl (lv_room (Nat.le_of_ble_eq_true rfl)) dX8_tellWord_21 ⟨by decide, by decide⟩) hS (fun q _ h => hFc q h) hFc (fun u6 t H1 locs ht hvm hw hB hz1 hk1 hS => ?_)
  obtain ⟨u6_0, rfl⟩ : ∃ z, z = u6 := ⟨_, rfl⟩
  have hw : (∀ j, iv (u6_0 j) 0 119) ∧ u6_0 0 = 119 ∧ u6_0 1 = 111 ∧ u6_0 2 = 114 ∧ u6_0 3 = 100 ∧ u6_0 4 = 32 ∧ u6_0 5 = 48 ∧ True := hw
  obtain ⟨iu6_0, ku6_0_0, ku6_0_1, ku6_0_2, ku6_0_3, ku6_0_4, ku6_0_5, -⟩ := hw
  obtain ⟨hP1, hK1, hD1⟩ := hB
  rw [ht] at hP1
  have hK1 := va_K.moved hvm.symm hK1
  obtain ⟨hP, hD⟩ := va_join (wr := [(h2, .inr (1, [.ref h3, .ref h4, .ref h5, .ref h6])), (h3, .inl (y1, 32768, .inl (fun _ => 0))), (h6, .inr (9, [.ref h7, .ref h8, .int 0, .int 0, .int 0, .int 0])), (h8, .inl (y2, 3, .inl (fun _ => 0))), (h7, .inl (y3, 3, .inl (fun _ => 0))), (h5, .inr (5, [.int 304, .int 0, .int 0, .int 0, .int 0, .int 0])), (h4, .inr (7, [.int 0, .int 0, .int 0, .int 0, .int 0]))]) (w1 := [(h0, .inr (8, [.ref h1, .ref h2, .int 6, .int x1, .int x2])), (h1, .inl (y0, 64, .inl u6_0))]) hP hD [0, 1] [2, 3, 4, 5, 6, 7, 8] rfl rfl (by decide) (by decide) hk1 hFc hP1 hD1
  have hK := (hK.sub (tys' := [(y1, .int), (y2, .int), (y3, .int)]) [1, 2, 3] rfl).app hK1
  generalize H1 = H at hP hS ⊢
  have hP : va_P (dC, dI) vwCl [(h2, .inr (1, [.ref h3, .ref h4, .ref h5, .ref h6])), (h3, .inl (y1, 32768, .inl (fun _ => 0))), (h6, .inr (9, [.ref h7, .ref h8, .int 0, .int 0, .int 0, .int 0])), (h8, .inl (y2, 3, .inl (fun _ => 0))), (h7, .inl (y3, 3, .inl (fun _ => 0))), (h5, .inr (5, [.int 304, .int 0, .int 0, .int 0, .int 0, .int 0])), (h4, .inr (7, [.int 0, .int 0, .int 0, .int 0, .int 0])), (h0, .inr (8, [.ref h1, .ref h2, .int 6, .int x1, .int x2])), (h1, .inl (y0, 64, .inl u6_0))] H := hP
  have hD : va_D A [(h2, .inr (1, [.ref h3, .ref h4, .ref h5, .ref h6])), (h3, .inl (y1, 32768, .inl (fun _ => 0))), (h6, .inr (9, [.ref h7, .ref h8, .int 0, .int 0, .int 0, .int 0])), (h8, .inl (y2, 3, .inl (fun _ => 0))), (h7, .inl (y3, 3, .inl (fun _ => 0))), (h5, .inr (5, [.int 304, .int 0, .int 0, .int 0, .int 0, .int 0])), (h4, .inr (7, [.int 0, .int 0, .int 0, .int 0, .int 0])), (h0, .inr (8, [.ref h1, .ref h2, .int 6, .int x1, .int x2])), (h1, .inl (y0, 64, .inl u6_0))] := hD
  have hK : va_K (dC, dI) vwCl [(y1, .int), (y2, .int), (y3, .int), (y0, .int)] s := hK
  refine lv_aload_n hx hb dX8_tellWord_24 rfl (lv_at hl 0 rfl) ?_
  refine lv_iload_n hx hb dX8_tellWord_25 rfl (lv_at hl 1 rfl) ?_
  refine lv_iconst (v := 2) hx hb dX8_tellWord_26 (by decide) ?_
  refine lv_iadd hx hb dX8_tellWord_27 ?_
  refine lv_topi (fun v7 ev7 => ?_)
  have iv7 : iv v7 2 65536 := iv_eq ev7 (iv_add ix0 (by decide : iv 2 2 2) (by decide) (by decide))
  refine lv_ldc hx hb hown (hG _ wd_1206) dX8_tellWord_28 ?_
  refine lv_iand hx hb dX8_tellWord_30 ?_
  refine lv_topi (fun v8 ev8 => ?_)
  have iv8 : iv v8 0 65535 := iv_eq ev8 (iv_and (x := v7) (iv_w (by decide : iv 65535 65535 65535) (by decide) (by decide) : iv 65535 0 65535))
  refine va_put (D := (dC, dI)) (ci := 8) (v := .int v8) (ty := .int) (C := RX8) (T := TX8) (N := 5) hx hb hG inGX8 tyX8 tyX8_ok nmX8 hown hK hP hD hS 7 rfl rfl 3 (by decide) (hG _ wd_382) (fun _ h9 => h9) rfl (by decide +kernel) rfl rfl (Nat.le_of_ble_eq_true rfl) dX8_tellWord_31 (fun H locs hP hD hS => ?_)
  have hP : va_P (dC, dI) vwCl [(h2, .inr (1, [.ref h3, .ref h4, .ref h5, .ref h6])), (h3, .inl (y1, 32768, .inl (fun _ => 0))), (h6, .inr (9, [.ref h7, .ref h8, .int 0, .int 0, .int 0, .int 0])), (h8, .inl (y2, 3, .inl (fun _ => 0))), (h7, .inl (y3, 3, .inl (fun _ => 0))), (h5, .inr (5, [.int 304, .int 0, .int 0, .int 0, .int 0, .int 0])), (h4, .inr (7, [.int 0, .int 0, .int 0, .int 0, .int 0])), (h0, .inr (8, [.ref h1, .ref h2, .int 6, .int v8, .int x2])), (h1, .inl (y0, 64, .inl u6_0))] H := hP
  have hD : va_D A [(h2, .inr (1, [.ref h3, .ref h4, .ref h5, .ref h6])), (h3, .inl (y1, 32768, .inl (fun _ => 0))), (h6, .inr (9, [.ref h7, .ref h8, .int 0, .int 0, .int 0, .int 0])), (h8, .inl (y2, 3, .inl (fun _ => 0))), (h7, .inl (y3, 3, .inl (fun _ => 0))), (h5, .inr (5, [.int 304, .int 0, .int 0, .int 0, .int 0, .int 0])), (h4, .inr (7, [.int 0, .int 0, .int 0, .int 0, .int 0])), (h0, .inr (8, [.ref h1, .ref h2, .int 6, .int v8, .int x2])), (h1, .inl (y0, 64, .inl u6_0))] := hD
  have hP9 := hP.sub (ws' := [(h0, .inr (8, [.ref h1, .ref h2, .int 6, .int v8, .int x2])), (h1, .inl (y0, 64, .inl u6_0)), (h2, .inr (1, [.ref h3, .ref h4, .ref h5, .ref h6])), (h3, .inl (y1, 32768, .inl (fun _ => 0))), (h6, .inr (9, [.ref h7, .ref h8, .int 0, .int 0, .int 0, .int 0])), (h8, .inl (y2, 3, .inl (fun _ => 0))), (h7, .inl (y3, 3, .inl (fun _ => 0))), (h5, .inr (5, [.int 304, .int 0, .int 0, .int 0, .int 0, .int 0])), (h4, .inr (7, [.int 0, .int 0, .int 0, .int 0, .int 0]))]) [7, 8, 0, 1, 2, 3, 4, 5, 6] rfl
  have hD9 := hD.sub (ws' := [(h0, .inr (8, [.ref h1, .ref h2, .int 6, .int v8, .int x2])), (h1, .inl (y0, 64, .inl u6_0)), (h2, .inr (1, [.ref h3, .ref h4, .ref h5, .ref h6])), (h3, .inl (y1, 32768, .inl (fun _ => 0))), (h6, .inr (9, [.ref h7, .ref h8, .int 0, .int 0, .int 0, .int 0])), (h8, .inl (y2, 3, .inl (fun _ => 0))), (h7, .inl (y3, 3, .inl (fun _ => 0))), (h5, .inr (5, [.int 304, .int 0, .int 0, .int 0, .int 0, .int 0])), (h4, .inr (7, [.int 0, .int 0, .int 0, .int 0, .int 0]))]) [7, 8, 0, 1, 2, 3, 4, 5, 6] (by decide) rfl
  have hK9 := hK.sub (tys' := [(y0, .int), (y1, .int), (y2, .int), (y3, .int)]) [3, 0, 1, 2] rfl
  exact W.vret hx hb hr (fun t ht hW => ⟨⟨(v8, u6_0), rfl, ⟨iv_w iv8 (by decide) (by decide), (fun j => iv_w (iu6_0 j) (by decide) (by decide)), ku6_0_0, ku6_0_1, ku6_0_2, ku6_0_3, ku6_0_4, ku6_0_5, trivial⟩, by rw [ht]; exact hP9, va_K.moved hW.alike hK9, hD9⟩, hS.F ht⟩) hS.2.2 dX8_tellWord_34
set_option maxHeartbeats 4000000 in
set_option maxRecDepth 100000 in
theorem cX8_length_2 (l : Launch) (dC : Nat → ClassId) (dI : Nat → Nat → Nat) (h0 h1 h2 : Nat) (sz : Nat) (x0 x1 : Int32) (ix0 : iv x0 0 65535) (ix1 : iv x1 2 65536) : Met l yX8_length (Cond.code yX8_length cX8_length 1 (some .int) :: lw_G) ({ frames := 0, cells := 0, slots := 0, locals := 0 }) (va_Pc [.ref h0] (fun U => U.heap.size = sz ∧ va_P (dC, dI) vwCl [(h0, .inr (8, [.ref h1, .ref h2, .int 6, .int x0, .int x1]))] U.heap ∧ va_K (dC, dI) vwCl [] U ∧ va_D (fun _ => True) [(h0, .inr (8, [.ref h1, .ref h2, .int 6, .int x0, .int x1]))])) (va_Qi (fun (r : Int32) (u : Unit) => r = 6 ∧ True) (fun (u : Unit) (t : State) => va_P (dC, dI) vwCl [(h0, .inr (8, [.ref h1, .ref h2, .int 6, .int x0, .int x1]))] t.heap ∧ va_K (dC, dI) vwCl [] t ∧ va_D (va_A [(h0, .inr (8, [.ref h1, .ref h2, .int 6, .int x0, .int x1]))] sz) [(h0, .inr (8, [.ref h1, .ref h2, .int 6, .int x0, .int x1]))]) (va_A [(h0, .inr (8, [.ref h1, .ref h2, .int 6, .int x0, .int x1]))] sz)) 0 0 (va_A [(h0, .inr (8, [.ref h1, .ref h2, .int 6, .int x0, .int x1]))] sz) := by
  refine Met.ofW (cc := cX8_length) (maxL := 1) (ret := (some .int)) (by decide) rfl ?_
  intro p e s m args below meth c s₁ B hml hv
  obtain ⟨rfl, hsz, hP, hK, hD0⟩ := hv
  have hx := B.exec
  have hb := B.bytes
  have hr := B.returns
  have hts0 := atoms_spec (ws := Cond.code yX8_length cX8_length 1 (some .int) :: lw_G) B.pre
  have hG : ∀ w ∈ lw_G, w.before _ s = true := fun w h => hts0 w (List.mem_cons_of_mem _ h)
  have hown : s.vm.findClass RX8 = some m.cls := findClass_of_methodNamed B.named
  have hlocks := B.notSynchronized
  subst hsz
  have hD := hD0.self (sz := s.heap.size)
  generalize hAe : va_A [(h0, .inr (8, [.ref h1, .ref h2, .int 6, .int x0, .int x1]))] s.heap.size = A at hD ⊢
  have hA : ∀ q : Nat, s.heap.size ≤ q → A q := fun q h => by rw [← hAe]; exact Or.inr h
  have hS : va_S A s.heap s.heap [] := va_S.rf
  have hP : va_P (dC, dI) vwCl [(h0, .inr (8, [.ref h1, .ref h2, .int 6, .int x0, .int x1]))] s.heap := hP
  have hl := lv_entry ([.ref h0]) (n := 1) (Nat.le_of_ble_eq_true rfl)
  rw [lg_entry_eq]
  generalize (lg_sl ([.ref h0]) ++ List.replicate (1 - (lg_sl ([.ref h0])).length) Slot.unset).toArray = ls at hl ⊢
  have hl : lv_has ls 1 [(0, .ref h0)] := hl
  refine lv_aload_n hx hb dX8_length_0 rfl (lv_at hl 0 rfl) ?_
  refine va_get (D := (dC, dI)) (ci := 8) (v := .int 6) (C := RX8) (T := TX8) (N := 5) hx hb hG inGX8 hown hK hP 0 rfl rfl 2 (by decide) (hG _ wd_381) (fun _ h9 => h9) rfl dX8_length_1 ?_
  have hP9 := hP.sub (ws' := [(h0, .inr (8, [.ref h1, .ref h2, .int 6, .int x0, .int x1]))]) [0] rfl
  have hD9 := hD.sub (ws' := [(h0, .inr (8, [.ref h1, .ref h2, .int 6, .int x0, .int x1]))]) [0] (by decide) rfl
  have hK9 := hK.sub (tys' := []) [] rfl
  exact W.iret (v := 6) hx hb hr (fun t ht hW => ⟨⟨6, (), rfl, ⟨rfl, trivial⟩, by rw [ht]; exact hP9, va_K.moved hW.alike hK9, hD9⟩, hS.F ht⟩) hS.2.2 dX8_length_4
