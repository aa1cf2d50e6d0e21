set_option maxHeartbeats 4000000 in
set_option maxRecDepth 100000 in
theorem cX10_key_1 (l : Launch) (dC : Nat → ClassId) (dI : Nat → Nat → Nat) (h0 h1 h2 h3 h4 h5 h6 : Nat) (y0 : ClassId) (sz : Nat) (g0 : Nat → Int64) (kg0_0 : g0 0 = 0) : Met l yX10_key (Cond.code yX10_key cX10_key 1 (some .long) :: lw_G) ({ frames := 0, cells := 0, slots := 0, locals := 0 }) (va_Pc [.ref h0] (fun U => U.heap.size = sz ∧ va_P (dC, dI) vwCl [(h0, .inr (10, [.ref h1, .ref h2, .ref h3, .ref h4, .ref h5, .ref h6, .int 0, .int 1, .int 0, .int 0, .int 0, .long 0])), (h4, .inl (y0, 2501, .inr (.inl g0)))] U.heap ∧ va_K (dC, dI) vwCl [(y0, .long)] U ∧ va_D (fun _ => True) [(h0, .inr (10, [.ref h1, .ref h2, .ref h3, .ref h4, .ref h5, .ref h6, .int 0, .int 1, .int 0, .int 0, .int 0, .long 0])), (h4, .inl (y0, 2501, .inr (.inl g0)))])) (va_Ql (fun (r : Int64) (u : Unit) => r = 0 ∧ True) (fun (u : Unit) (t : State) => va_P (dC, dI) vwCl [(h0, .inr (10, [.ref h1, .ref h2, .ref h3, .ref h4, .ref h5, .ref h6, .int 0, .int 1, .int 0, .int 0, .int 0, .long 0])), (h4, .inl (y0, 2501, .inr (.inl g0)))] t.heap ∧ va_K (dC, dI) vwCl [(y0, .long)] t ∧ va_D (va_A [(h0, .inr (10, [.ref h1, .ref h2, .ref h3, .ref h4, .ref h5, .ref h6, .int 0, .int 1, .int 0, .int 0, .int 0, .long 0])), (h4, .inl (y0, 2501, .inr (.inl g0)))] sz) [(h0, .inr (10, [.ref h1, .ref h2, .ref h3, .ref h4, .ref h5, .ref h6, .int 0, .int 1, .int 0, .int 0, .int 0, .long 0])), (h4, .inl (y0, 2501, .inr (.inl g0)))]) (va_A [(h0, .inr (10, [.ref h1, .ref h2, .ref h3, .ref h4, .ref h5, .ref h6, .int 0, .int 1, .int 0, .int 0, .int 0, .long 0])), (h4, .inl (y0, 2501, .inr (.inl g0)))] sz)) 0 0 (va_A [(h0, .inr (10, [.ref h1, .ref h2, .ref h3, .ref h4, .ref h5, .ref h6, .int 0, .int 1, .int 0, .int 0, .int 0, .long 0])), (h4, .inl (y0, 2501, .inr (.inl g0)))] sz) := by
  refine Met.ofW (cc := cX10_key) (maxL := 1) (ret := (some .long)) (by decide) rfl ?_
  intro p e s m args below meth c s₁ B hml hv
  obtain ⟨rfl, hsz, hP, hK, hD0⟩ := hv
  have hx := B.exec
  have hb := B.bytes
  have hr := B.returns
  have hts0 := atoms_spec (ws := Cond.code yX10_key cX10_key 1 (some .long) :: lw_G) B.pre
  have hG : ∀ w ∈ lw_G, w.before _ s = true := fun w h => hts0 w (List.mem_cons_of_mem _ h)
  have hown : s.vm.findClass RX10 = some m.cls := findClass_of_methodNamed B.named
  have hlocks := B.notSynchronized
  subst hsz
  have hD := hD0.self (sz := s.heap.size)
  generalize hAe : va_A [(h0, .inr (10, [.ref h1, .ref h2, .ref h3, .ref h4, .ref h5, .ref h6, .int 0, .int 1, .int 0, .int 0, .int 0, .long 0])), (h4, .inl (y0, 2501, .inr (.inl g0)))] s.heap.size = A at hD ⊢
  have hA : ∀ q : Nat, s.heap.size ≤ q → A q := fun q h => by rw [← hAe]; exact Or.inr h
  have hS : va_S A s.heap s.heap [] := va_S.rf
  have hP : va_P (dC, dI) vwCl [(h0, .inr (10, [.ref h1, .ref h2, .ref h3, .ref h4, .ref h5, .ref h6, .int 0, .int 1, .int 0, .int 0, .int 0, .long 0])), (h4, .inl (y0, 2501, .inr (.inl g0)))] s.heap := hP
  have hl := lv_entry ([.ref h0]) (n := 1) (Nat.le_of_ble_eq_true rfl)
  rw [lg_entry_eq]
  generalize (lg_sl ([.ref h0]) ++ List.replicate (1 - (lg_sl ([.ref h0])).length) Slot.unset).toArray = ls at hl ⊢
  have hl : lv_has ls 1 [(0, .ref h0)] := hl
  refine lv_aload_n hx hb dX10_key_0 rfl (lv_at hl 0 rfl) ?_
  refine va_get (D := (dC, dI)) (ci := 10) (v := .int 0) (C := RX10) (T := TX10) (N := 12) hx hb hG inGX10 hown hK hP 0 rfl rfl 8 (by decide) (hG _ wd_291) (fun _ h9 => h9) rfl dX10_key_1 ?_
  refine lv_sipush (v := 2501) hx hb dX10_key_4 (by decide) ?_
  refine lv_icmp_ge (tgt := 22) hx hb dX10_key_7 (by decide) (fun c => absurd c (by decide)) (fun _ => ?_)
  refine lv_aload_n hx hb dX10_key_10 rfl (lv_at hl 0 rfl) ?_
  refine va_get (D := (dC, dI)) (ci := 10) (v := .ref h4) (C := RX10) (T := TX10) (N := 12) hx hb hG inGX10 hown hK hP 0 rfl rfl 3 (by decide) (hG _ wd_286) (fun _ h9 => h9) rfl dX10_key_11 ?_
  refine lv_aload_n hx hb dX10_key_14 rfl (lv_at hl 0 rfl) ?_
  refine va_get (D := (dC, dI)) (ci := 10) (v := .int 0) (C := RX10) (T := TX10) (N := 12) hx hb hG inGX10 hown hK hP 0 rfl rfl 8 (by decide) (hG _ wd_291) (fun _ h9 => h9) rfl dX10_key_15 ?_
  refine va_lald hx hb hK hP 1 0 rfl rfl (iv_in (by decide : iv 0 0 0) (by decide) (by decide) : vp_in 0 2501) dX10_key_18 ?_
  refine lv_valL (y := 0) (show g0 (0 : Int32).toNatClampNeg = 0 from kg0_0) ?_
  refine lv_goto (tgt := 23) hx hb dX10_key_19 (by decide) ?_
  have hP9 := hP.sub (ws' := [(h0, .inr (10, [.ref h1, .ref h2, .ref h3, .ref h4, .ref h5, .ref h6, .int 0, .int 1, .int 0, .int 0, .int 0, .long 0])), (h4, .inl (y0, 2501, .inr (.inl g0)))]) [0, 1] rfl
  have hD9 := hD.sub (ws' := [(h0, .inr (10, [.ref h1, .ref h2, .ref h3, .ref h4, .ref h5, .ref h6, .int 0, .int 1, .int 0, .int 0, .int 0, .long 0])), (h4, .inl (y0, 2501, .inr (.inl g0)))]) [0, 1] (by decide) rfl
  have hK9 := hK.sub (tys' := [(y0, .long)]) [0] rfl
  exact W.lret (v := 0) hx hb hr (fun t ht hW => ⟨⟨0, (), rfl, ⟨rfl, trivial⟩, by rw [ht]; exact hP9, va_K.moved hW.alike hK9, hD9⟩, hS.F ht⟩) hS.2.2 dX10_key_23
set_option maxHeartbeats 4000000 in
set_option maxRecDepth 100000 in
theorem cX0_readLine_1 (l : Launch) (dC : Nat → ClassId) (dI : Nat → Nat → Nat) (h0 h1 h2 h3 h4 h5 h6 h7 h8 h9 h10 h11 h12 h13 : Nat) (y0 y1 : ClassId) (sz : Nat) (f0 : Nat → Int32) (g0 : Nat → Int64) (if0 : ∀ j, iv (f0 j) 0 0) (kf0_0 : f0 0 = 0) (kg0_0 : g0 0 = 0) : Met l yX0_readLine (Cond.code yX0_readLine cX0_readLine 4 (some .boolean) :: lw_G) ({ frames := 1, cells := 0, slots := 0, locals := 20 }) (va_Pc [.ref h0] (fun U => U.heap.size = sz ∧ va_P (dC, dI) vwCl [(h0, .inr (0, [.ref h1, .ref h2, .ref h3, .ref h4, .ref h5, .ref h6, .ref h7, .int 0, .int 0, .int 0, .int 49152, .int 0, .int 0, .int 0, .int 0, .int 0, .int 0])), (h1, .inr (10, [.ref h8, .ref h9, .ref h10, .ref h11, .ref h12, .ref h13, .int 0, .int 1, .int 0, .int 0, .int 0, .long 0])), (h8, .inl (y0, 2501, .inl f0)), (h11, .inl (y1, 2501, .inr (.inl g0)))] U.heap ∧ va_K (dC, dI) vwCl [(y0, .int), (y1, .long)] U ∧ va_D (fun _ => True) [(h0, .inr (0, [.ref h1, .ref h2, .ref h3, .ref h4, .ref h5, .ref h6, .ref h7, .int 0, .int 0, .int 0, .int 49152, .int 0, .int 0, .int 0, .int 0, .int 0, .int 0])), (h1, .inr (10, [.ref h8, .ref h9, .ref h10, .ref h11, .ref h12, .ref h13, .int 0, .int 1, .int 0, .int 0, .int 0, .long 0])), (h8, .inl (y0, 2501, .inl f0)), (h11, .inl (y1, 2501, .inr (.inl g0)))])) (va_Qi (fun (r : Int32) (u : Unit) => r = 1 ∧ True) (fun (u : Unit) (t : State) => va_P (dC, dI) vwCl [(h0, .inr (0, [.ref h1, .ref h2, .ref h3, .ref h4, .ref h5, .ref h6, .ref h7, .int 0, .int 0, .int 0, .int 49152, .int 49152, .int 0, .int 0, .int 0, .int 0, .int 0])), (h1, .inr (10, [.ref h8, .ref h9, .ref h10, .ref h11, .ref h12, .ref h13, .int 0, .int 1, .int 0, .int 0, .int 0, .long 0])), (h8, .inl (y0, 2501, .inl f0)), (h11, .inl (y1, 2501, .inr (.inl g0)))] t.heap ∧ va_K (dC, dI) vwCl [(y0, .int), (y1, .long)] t ∧ va_D (va_A [(h0, .inr (0, [.ref h1, .ref h2, .ref h3, .ref h4, .ref h5, .ref h6, .ref h7, .int 0, .int 0, .int 0, .int 49152, .int 0, .int 0, .int 0, .int 0, .int 0, .int 0])), (h1, .inr (10, [.ref h8, .ref h9, .ref h10, .ref h11, .ref h12, .ref h13, .int 0, .int 1, .int 0, .int 0, .int 0, .long 0])), (h8, .inl (y0, 2501, .inl f0)), (h11, .inl (y1, 2501, .inr (.inl g0)))] sz) [(h0, .inr (0, [.ref h1, .ref h2, .ref h3, .ref h4, .ref h5, .ref h6, .ref h7, .int 0, .int 0, .int 0, .int 49152, .int 49152, .int 0, .int 0, .int 0, .int 0, .int 0])), (h1, .inr (10, [.ref h8, .ref h9, .ref h10, .ref h11, .ref h12, .ref h13, .int 0, .int 1, .int 0, .int 0, .int 0, .long 0])), (h8, .inl (y0, 2501, .inl f0)), (h11, .inl (y1, 2501, .inr (.inl g0)))]) (va_A [(h0, .inr (0, [.ref h1, .ref h2, .ref h3, .ref h4, .ref h5, .ref h6, .ref h7, .int 0, .int 0, .int 0, .int 49152, .int 0, .int 0, .int 0, .int 0, .int 0, .int 0])), (h1, .inr (10, [.ref h8, .ref h9, .ref h10, .ref h11, .ref h12, .ref h13, .int 0, .int 1, .int 0, .int 0, .int 0, .long 0])), (h8, .inl (y0, 2501, .inl f0)), (h11, .inl (y1, 2501, .inr (.inl g0)))] sz)) 0 0 (va_A [(h0, .inr (0, [.ref h1, .ref h2, .ref h3, .ref h4, .ref h5, .ref h6, .ref h7, .int 0, .int 0, .int 0, .int 49152, .int 0, .int 0, .int 0, .int 0, .int 0, .int 0])), (h1, .inr (10, [.ref h8, .ref h9, .ref h10, .ref h11, .ref h12, .ref h13, .int 0, .int 1, .int 0, .int 0, .int 0, .long 0])), (h8, .inl (y0, 2501, .inl f0)), (h11, .inl (y1, 2501, .inr (.inl g0)))] sz) := by
  refine Met.ofW (cc := cX0_readLine) (maxL := 4) (ret := (some .boolean)) (by decide) rfl ?_
  intro p e s m args below meth c s₁ B hml hv
  obtain ⟨rfl, hsz, hP, hK, hD0⟩ := hv
  have hx := B.exec
  have hb := B.bytes
  have hr := B.returns
  have hts0 := atoms_spec (ws := Cond.code yX0_readLine cX0_readLine 4 (some .boolean) :: lw_G) B.pre
  have hG : ∀ w ∈ lw_G, w.before _ s = true := fun w h => hts0 w (List.mem_cons_of_mem _ h)
  have hown : s.vm.findClass RX0 = some m.cls := findClass_of_methodNamed B.named
  have hlocks := B.notSynchronized
  subst hsz
  have hD := hD0.self (sz := s.heap.size)
  generalize hAe : va_A [(h0, .inr (0, [.ref h1, .ref h2, .ref h3, .ref h4, .ref h5, .ref h6, .ref h7, .int 0, .int 0, .int 0, .int 49152, .int 0, .int 0, .int 0, .int 0, .int 0, .int 0])), (h1, .inr (10, [.ref h8, .ref h9, .ref h10, .ref h11, .ref h12, .ref h13, .int 0, .int 1, .int 0, .int 0, .int 0, .long 0])), (h8, .inl (y0, 2501, .inl f0)), (h11, .inl (y1, 2501, .inr (.inl g0)))] s.heap.size = A at hD ⊢
  have hA : ∀ q : Nat, s.heap.size ≤ q → A q := fun q h => by rw [← hAe]; exact Or.inr h
  have hS : va_S A s.heap s.heap [] := va_S.rf
  have hP : va_P (dC, dI) vwCl [(h0, .inr (0, [.ref h1, .ref h2, .ref h3, .ref h4, .ref h5, .ref h6, .ref h7, .int 0, .int 0, .int 0, .int 49152, .int 0, .int 0, .int 0, .int 0, .int 0, .int 0])), (h1, .inr (10, [.ref h8, .ref h9, .ref h10, .ref h11, .ref h12, .ref h13, .int 0, .int 1, .int 0, .int 0, .int 0, .long 0])), (h8, .inl (y0, 2501, .inl f0)), (h11, .inl (y1, 2501, .inr (.inl g0)))] s.heap := hP
  have hl := lv_entry ([.ref h0]) (n := 4) (Nat.le_of_ble_eq_true rfl)
  rw [lg_entry_eq]
  generalize (lg_sl ([.ref h0]) ++ List.replicate (4 - (lg_sl ([.ref h0])).length) Slot.unset).toArray = ls at hl ⊢
  have hl : lv_has ls 4 [(0, .ref h0)] := hl
  refine lv_aload_n hx hb dX0_readLine_0 rfl (lv_at hl 0 rfl) ?_
  refine va_get (D := (dC, dI)) (ci := 0) (v := .ref h1) (C := RX0) (T := TX0) (N := 17) hx hb hG inGX0 hown hK hP 0 rfl rfl 0 (by decide) (hG _ wd_321) (fun _ h9 => h9) rfl dX0_readLine_1 ?_
  have hPc := hP.sub (ws' := [(h1, .inr (10, [.ref h8, .ref h9, .ref h10, .ref h11, .ref h12, .ref h13, .int 0, .int 1, .int 0, .int 0, .int 0, .long 0])), (h8, .inl (y0, 2501, .inl f0))]) [1, 2] rfl
  have hDc := hD.sub (ws' := [(h1, .inr (10, [.ref h8, .ref h9, .ref h10, .ref h11, .ref h12, .ref h13, .int 0, .int 1, .int 0, .int 0, .int 0, .long 0])), (h8, .inl (y0, 2501, .inl f0))]) [1, 2] (by decide) rfl
  have hKc := hK.sub (tys' := [(y0, .int)]) [0] rfl
  have hFc := va_free (wc := [(h1, .inr (10, [.ref h8, .ref h9, .ref h10, .ref h11, .ref h12, .ref h13, .int 0, .int 1, .int 0, .int 0, .int 0, .long 0])), (h8, .inl (y0, 2501, .inl f0))]) hD hS hA [1, 2] rfl
  refine va_calli (va_runV (As := []) (rest := []) ⟨hx, hb, hml, hown, hG⟩ (cX10_kind_1 l dC dI h1 h8 h9 h10 h11 h12 h13 y0 s.heap.size f0 if0 kf0_0) (cwV 0 hG (gV wd_556 wd_557 wd_558 wd_11 wd_559) rfl rfl rfl (by decide +kernel) ⟨Nat.le_of_ble_eq_true rfl, Nat.le_of_ble_eq_true rfl⟩) ⟨fun a U g mk q => by obtain ⟨q0, q1, qP, qK, qD⟩ := q; exact ⟨q0, q1, qP, va_K.moved (u := U) (U := U.calling g mk a) (Vm.Alike.refl U.vm) qK, qD⟩, va_recv hKc hPc (ci := 10) (q0 := 0) rfl rfl, fun U hU hW => ⟨rfl, by rw [hU], by rw [hU]; exact hPc, va_K.moved hW.alike hKc, hDc.weaken (fun _ _ _ _ => trivial)⟩⟩ rfl rfl hl.1 rfl (lv_room (Nat.le_of_ble_eq_true rfl)) dX0_readLine_4 ⟨by decide, by decide⟩) hS (fun q _ h => hFc q h) hFc (fun r1 u2 t H1 locs ht hvm hw hB hz1 hk1 hS => ?_)
  have hw : r1 = 0 ∧ True := hw
  obtain ⟨er1, -⟩ := hw
  obtain ⟨hP1, hK1, hD1⟩ := hB
  rw [ht] at hP1
  have hK1 := va_K.moved hvm.symm hK1
  obtain ⟨hP, hD⟩ := va_join (wr := [(h0, .inr (0, [.ref h1, .ref h2, .ref h3, .ref h4, .ref h5, .ref h6, .ref h7, .int 0, .int 0, .int 0, .int 49152, .int 0, .int 0, .int 0, .int 0, .int 0, .int 0])), (h11, .inl (y1, 2501, .inr (.inl g0)))]) (w1 := [(h1, .inr (10, [.ref h8, .ref h9, .ref h10, .ref h11, .ref h12, .ref h13, .int 0, .int 1, .int 0, .int 0, .int 0, .long 0])), (h8, .inl (y0, 2501, .inl f0))]) hP hD [1, 2] [0, 3] rfl rfl (by decide) (by decide) hk1 hFc hP1 hD1
  have hK := (hK.sub (tys' := [(y1, .long)]) [1] rfl).app hK1
  generalize H1 = H at hP hS ⊢
  have hP : va_P (dC, dI) vwCl [(h0, .inr (0, [.ref h1, .ref h2, .ref h3, .ref h4, .ref h5, .ref h6, .ref h7, .int 0, .int 0, .int 0, .int 49152, .int 0, .int 0, .int 0, .int 0, .int 0, .int 0])), (h11, .inl (y1, 2501, .inr (.inl g0))), (h1, .inr (10, [.ref h8, .ref h9, .ref h10, .ref h11, .ref h12, .ref h13, .int 0, .int 1, .int 0, .int 0, .int 0, .long 0])), (h8, .inl (y0, 2501, .inl f0))] H := hP
  have hD : va_D A [(h0, .inr (0, [.ref h1, .ref h2, .ref h3, .ref h4, .ref h5, .ref h6, .ref h7, .int 0, .int 0, .int 0, .int 49152, .int 0, .int 0, .int 0, .int 0, .int 0, .int 0])), (h11, .inl (y1, 2501, .inr (.inl g0))), (h1, .inr (10, [.ref h8, .ref h9, .ref h10, .ref h11, .ref h12, .ref h13, .int 0, .int 1, .int 0, .int 0, .int 0, .long 0])), (h8, .inl (y0, 2501, .inl f0))] := hD
  have hK : va_K (dC, dI) vwCl [(y1, .long), (y0, .int)] s := hK
  subst er1
  refine lv_iconst (v := 2) hx hb dX0_readLine_7 (by decide) ?_
  refine lv_icmp_ne (tgt := 15) hx hb dX0_readLine_8 (by decide) (fun _ => ?_) (fun c => absurd c (by decide))
  refine lv_iconst (v := 0) hx hb dX0_readLine_15 (by decide) ?_
  refine lv_istore_n (lv' := [(1, .int 0), (0, .ref h0)]) hx hb dX0_readLine_16 rfl hl (by decide) rfl (fun ls hl => ?_)
  refine lv_aload_n hx hb dX0_readLine_17 rfl (lv_at hl 1 rfl) ?_
  refine va_get (D := (dC, dI)) (ci := 0) (v := .ref h1) (C := RX0) (T := TX0) (N := 17) hx hb hG inGX0 hown hK hP 0 rfl rfl 0 (by decide) (hG _ wd_321) (fun _ h9 => h9) rfl dX0_readLine_18 ?_
  have hPc := hP.sub (ws' := [(h1, .inr (10, [.ref h8, .ref h9, .ref h10, .ref h11, .ref h12, .ref h13, .int 0, .int 1, .int 0, .int 0, .int 0, .long 0])), (h11, .inl (y1, 2501, .inr (.inl g0)))]) [2, 1] rfl
  have hDc := hD.sub (ws' := [(h1, .inr (10, [.ref h8, .ref h9, .ref h10, .ref h11, .ref h12, .ref h13, .int 0, .int 1, .int 0, .int 0, .int 0, .long 0])), (h11, .inl (y1, 2501, .inr (.inl g0)))]) [2, 1] (by decide) rfl
  have hKc := hK.sub (tys' := [(y1, .long)]) [0] rfl
  have hFc := va_free (wc := [(h1, .inr (10, [.ref h8, .ref h9, .ref h10, .ref h11, .ref h12, .ref h13, .int 0, .int 1, .int 0, .int 0, .int 0, .long 0])), (h11, .inl (y1, 2501, .inr (.inl g0)))]) hD hS hA [2, 1] rfl
  refine va_calll (va_runV (As := []) (rest := []) ⟨hx, hb, hml, hown, hG⟩ (cX10_key_1 l dC dI h1 h8 h9 h10 h11 h12 h13 y1 H.size g0 kg0_0) (cwV 0 hG (gV wd_560 wd_561 wd_562 wd_11 wd_563) rfl rfl rfl (by decide +kernel) ⟨Nat.le_of_ble_eq_true rfl, Nat.le_of_ble_eq_true rfl⟩) ⟨fun a U g mk q => by obtain ⟨q0, q1, qP, qK, qD⟩ := q; exact ⟨q0, q1, qP, va_K.moved (u := U) (U := U.calling g mk a) (Vm.Alike.refl U.vm) qK, qD⟩, va_recv hKc hPc (ci := 10) (q0 := 0) rfl rfl, fun U hU hW => ⟨rfl, by rw [hU], by rw [hU]; exact hPc, va_K.moved hW.alike hKc, hDc.weaken (fun _ _ _ _ => trivial)⟩⟩ rfl rfl hl.1 rfl (lv_room (Nat.le_of_ble_eq_true rfl)) dX0_readLine_21 ⟨by decide, by decide⟩) hS (fun q _ h => hFc q h) hFc (fun r3 u4 t H1 locs ht hvm hw hB hz1 hk1 hS => ?_)
  have hw : r3 = 0 ∧ True := hw
  obtain ⟨er3, -⟩ := hw
  obtain ⟨hP1, hK1, hD1⟩ := hB
  rw [ht] at hP1
  have hK1 := va_K.moved hvm.symm hK1
  obtain ⟨hP, hD⟩ := va_join (wr := [(h0, .inr (0, [.ref h1, .ref h2, .ref h3, .ref h4, .ref h5, .ref h6, .ref h7, .int 0, .int 0, .int 0, .int 49152, .int 0, .int 0, .int 0, .int 0, .int 0, .int 0])), (h8, .inl (y0, 2501, .inl f0))]) (w1 := [(h1, .inr (10, [.ref h8, .ref h9, .ref h10, .ref h11, .ref h12, .ref h13, .int 0, .int 1, .int 0, .int 0, .int 0, .long 0])), (h11, .inl (y1, 2501, .inr (.inl g0)))]) hP hD [2, 1] [0, 3] rfl rfl (by decide) (by decide) hk1 hFc hP1 hD1
  have hK := (hK.sub (tys' := [(y0, .int)]) [1] rfl).app hK1
  generalize H1 = H at hP hS ⊢
  have hP : va_P (dC, dI) vwCl [(h0, .inr (0, [.ref h1, .ref h2, .ref h3, .ref h4, .ref h5, .ref h6, .ref h7, .int 0, .int 0, .int 0, .int 49152, .int 0, .int 0, .int 0, .int 0, .int 0, .int 0])), (h8, .inl (y0, 2501, .inl f0)), (h1, .inr (10, [.ref h8, .ref h9, .ref h10, .ref h11, .ref h12, .ref h13, .int 0, .int 1, .int 0, .int 0, .int 0, .long 0])), (h11, .inl (y1, 2501, .inr (.inl g0)))] H := hP
  have hD : va_D A [(h0, .inr (0, [.ref h1, .ref h2, .ref h3, .ref h4, .ref h5, .ref h6, .ref h7, .int 0, .int 0, .int 0, .int 49152, .int 0, .int 0, .int 0, .int 0, .int 0, .int 0])), (h8, .inl (y0, 2501, .inl f0)), (h1, .inr (10, [.ref h8, .ref h9, .ref h10, .ref h11, .ref h12, .ref h13, .int 0, .int 1, .int 0, .int 0, .int 0, .long 0])), (h11, .inl (y1, 2501, .inr (.inl g0)))] := hD
  have hK : va_K (dC, dI) vwCl [(y0, .int), (y1, .long)] s := hK
  subst er3
  refine lv_lstore_n (lv' := [(2, .long 0), (1, .int 0), (0, .ref h0)]) hx hb dX0_readLine_24 rfl hl (by decide) rfl (fun ls hl => ?_)
  refine lv_iload_n hx hb dX0_readLine_25 rfl (lv_at hl 1 rfl) ?_
  refine lv_if_eq (tgt := 99) hx hb dX0_readLine_26 (by decide) (fun _ => ?_) (fun c => absurd (by decide) c)
  refine lv_aload_n hx hb dX0_readLine_99 rfl (lv_at hl 2 rfl) ?_
  refine lv_aload_n hx hb dX0_readLine_100 rfl (lv_at hl 2 rfl) ?_
  refine va_get (D := (dC, dI)) (ci := 0) (v := .int 49152) (C := RX0) (T := TX0) (N := 17) hx hb hG inGX0 hown hK hP 0 rfl rfl 10 (by decide) (hG _ wd_331) (fun _ h9 => h9) rfl dX0_readLine_101 ?_
  refine va_put (D := (dC, dI)) (ci := 0) (v := .int 49152) (ty := .int) (C := RX0) (T := TX0) (N := 17) hx hb hG inGX0 tyX0 tyX0_ok nmX0 hown hK hP hD hS 0 rfl rfl 11 (by decide) (hG _ wd_332) (fun _ h9 => h9) rfl (by decide +kernel) rfl rfl (Nat.le_of_ble_eq_true rfl) dX0_readLine_104 (fun H locs hP hD hS => ?_)
  have hP : va_P (dC, dI) vwCl [(h0, .inr (0, [.ref h1, .ref h2, .ref h3, .ref h4, .ref h5, .ref h6, .ref h7, .int 0, .int 0, .int 0, .int 49152, .int 49152, .int 0, .int 0, .int 0, .int 0, .int 0])), (h8, .inl (y0, 2501, .inl f0)), (h1, .inr (10, [.ref h8, .ref h9, .ref h10, .ref h11, .ref h12, .ref h13, .int 0, .int 1, .int 0, .int 0, .int 0, .long 0])), (h11, .inl (y1, 2501, .inr (.inl g0)))] H := hP
  have hD : va_D A [(h0, .inr (0, [.ref h1, .ref h2, .ref h3, .ref h4, .ref h5, .ref h6, .ref h7, .int 0, .int 0, .int 0, .int 49152, .int 49152, .int 0, .int 0, .int 0, .int 0, .int 0])), (h8, .inl (y0, 2501, .inl f0)), (h1, .inr (10, [.ref h8, .ref h9, .ref h10, .ref h11, .ref h12, .ref h13, .int 0, .int 1, .int 0, .int 0, .int 0, .long 0])), (h11, .inl (y1, 2501, .inr (.inl g0)))] := hD
  refine lv_aload_n hx hb dX0_readLine_107 rfl (lv_at hl 2 rfl) ?_
  refine va_get (D := (dC, dI)) (ci := 0) (v := .ref h1) (C := RX0) (T := TX0) (N := 17) hx hb hG inGX0 hown hK hP 0 rfl rfl 0 (by decide) (hG _ wd_321) (fun _ h9 => h9) rfl dX0_readLine_108 ?_
  have hPc := hP.sub (ws' := [(h1, .inr (10, [.ref h8, .ref h9, .ref h10, .ref h11, .ref h12, .ref h13, .int 0, .int 1, .int 0, .int 0, .int 0, .long 0])), (h8, .inl (y0, 2501, .inl f0))]) [2, 1] rfl
  have hDc := hD.sub (ws' := [(h1, .inr (10, [.ref h8, .ref h9, .ref h10, .ref h11, .ref h12, .ref h13, .int 0, .int 1, .int 0, .int 0, .int 0, .long 0])), (h8, .inl (y0, 2501, .inl f0))]) [2, 1] (by decide) rfl
  have hKc := hK.sub (tys' := [(y0, .int)]) [0] rfl
  have hFc := va_free (wc := [(h1, .inr (10, [.ref h8, .ref h9, .ref h10, .ref h11, .ref h12, .ref h13, .int 0, .int 1, .int 0, .int 0, .int 0, .long 0])), (h8, .inl (y0, 2501, .inl f0))]) hD hS hA [2, 1] rfl
  refine va_calli (va_runV (As := []) (rest := []) ⟨hx, hb, hml, hown, hG⟩ (cX10_kind_1 l dC dI h1 h8 h9 h10 h11 h12 h13 y0 H.size f0 if0 kf0_0) (cwV 0 hG (gV wd_556 wd_557 wd_558 wd_11 wd_559) rfl rfl rfl (by decide +kernel) ⟨Nat.le_of_ble_eq_true rfl, Nat.le_of_ble_eq_true rfl⟩) ⟨fun a U g mk q => by obtain ⟨q0, q1, qP, qK, qD⟩ := q; exact ⟨q0, q1, qP, va_K.moved (u := U) (U := U.calling g mk a) (Vm.Alike.refl U.vm) qK, qD⟩, va_recv hKc hPc (ci := 10) (q0 := 0) rfl rfl, fun U hU hW => ⟨rfl, by rw [hU], by rw [hU]; exact hPc, va_K.moved hW.alike hKc, hDc.weaken (fun _ _ _ _ => trivial)⟩⟩ rfl rfl hl.1 rfl (lv_room (Nat.le_of_ble_eq_true rfl)) dX0_readLine_111 ⟨by decide, by decide⟩) hS (fun q _ h => hFc q h) hFc (fun r5 u6 t H1 locs ht hvm hw hB hz1 hk1 hS => ?_)
  have hw : r5 = 0 ∧ True := hw
  obtain ⟨er5, -⟩ := hw
  obtain ⟨hP1, hK1, hD1⟩ := hB
  rw [ht] at hP1
  have hK1 := va_K.moved hvm.symm hK1
  obtain ⟨hP, hD⟩ := va_join (wr := [(h0, .inr (0, [.ref h1, .ref h2, .ref h3, .ref h4, .ref h5, .ref h6, .ref h7, .int 0, .int 0, .int 0, .int 49152, .int 49152, .int 0, .int 0, .int 0, .int 0, .int 0])), (h11, .inl (y1, 2501, .inr (.inl g0)))]) (w1 := [(h1, .inr (10, [.ref h8, .ref h9, .ref h10, .ref h11, .ref h12, .ref h13, .int 0, .int 1, .int 0, .int 0, .int 0, .long 0])), (h8, .inl (y0, 2501, .inl f0))]) hP hD [2, 1] [0, 3] rfl rfl (by decide) (by decide) hk1 hFc hP1 hD1
  have hK := (hK.sub (tys' := [(y1, .long)]) [1] rfl).app hK1
  generalize H1 = H at hP hS ⊢
  have hP : va_P (dC, dI) vwCl [(h0, .inr (0, [.ref h1, .ref h2, .ref h3, .ref h4, .ref h5, .ref h6, .ref h7, .int 0, .int 0, .int 0, .int 49152, .int 49152, .int 0, .int 0, .int 0, .int 0, .int 0])), (h11, .inl (y1, 2501, .inr (.inl g0))), (h1, .inr (10, [.ref h8, .ref h9, .ref h10, .ref h11, .ref h12, .ref h13, .int 0, .int 1, .int 0, .int 0, .int 0, .long 0])), (h8, .inl (y0, 2501, .inl f0))] H := hP
  have hD : va_D A [(h0, .inr (0, [.ref h1, .ref h2, .ref h3, .ref h4, .ref h5, .ref h6, .ref h7, .int 0, .int 0, .int 0, .int 49152, .int 49152, .int 0, .int 0, .int 0, .int 0, .int 0])), (h11, .inl (y1, 2501, .inr (.inl g0))), (h1, .inr (10, [.ref h8, .ref h9, .ref h10, .ref h11, .ref h12, .ref h13, .int 0, .int 1, .int 0, .int 0, .int 0, .long 0])), (h8, .inl (y0, 2501, .inl f0))] := hD
  have hK : va_K (dC, dI) vwCl [(y1, .long), (y0, .int)] s := hK
  subst er5
  refine lv_if_eq (tgt := 126) hx hb dX0_readLine_114 (by decide) (fun _ => ?_) (fun c => absurd (by decide) c)
  refine lv_aload_n hx hb dX0_readLine_126 rfl (lv_at hl 2 rfl) ?_
  refine va_get (D := (dC, dI)) (ci := 0) (v := .ref h1) (C := RX0) (T := TX0) (N := 17) hx hb hG inGX0 hown hK hP 0 rfl rfl 0 (by decide) (hG _ wd_321) (fun _ h9 => h9) rfl dX0_readLine_127 ?_
  have hPc := hP.sub (ws' := [(h1, .inr (10, [.ref h8, .ref h9, .ref h10, .ref h11, .ref h12, .ref h13, .int 0, .int 1, .int 0, .int 0, .int 0, .long 0])), (h8, .inl (y0, 2501, .inl f0))]) [2, 3] rfl
  have hDc := hD.sub (ws' := [(h1, .inr (10, [.ref h8, .ref h9, .ref h10, .ref h11, .ref h12, .ref h13, .int 0, .int 1, .int 0, .int 0, .int 0, .long 0])), (h8, .inl (y0, 2501, .inl f0))]) [2, 3] (by decide) rfl
  have hKc := hK.sub (tys' := [(y0, .int)]) [1] rfl
  have hFc := va_free (wc := [(h1, .inr (10, [.ref h8, .ref h9, .ref h10, .ref h11, .ref h12, .ref h13, .int 0, .int 1, .int 0, .int 0, .int 0, .long 0])), (h8, .inl (y0, 2501, .inl f0))]) hD hS hA [2, 3] rfl
  refine va_calli (va_runV (As := []) (rest := []) ⟨hx, hb, hml, hown, hG⟩ (cX10_kind_1 l dC dI h1 h8 h9 h10 h11 h12 h13 y0 H.size f0 if0 kf0_0) (cwV 0 hG (gV wd_556 wd_557 wd_558 wd_11 wd_559) rfl rfl rfl (by decide +kernel) ⟨Nat.le_of_ble_eq_true rfl, Nat.le_of_ble_eq_true rfl⟩) ⟨fun a U g mk q => by obtain ⟨q0, q1, qP, qK, qD⟩ := q; exact ⟨q0, q1, qP, va_K.moved (u := U) (U := U.calling g mk a) (Vm.Alike.refl U.vm) qK, qD⟩, va_recv hKc hPc (ci := 10) (q0 := 0) rfl rfl, fun U hU hW => ⟨rfl, by rw [hU], by rw [hU]; exact hPc, va_K.moved hW.alike hKc, hDc.weaken (fun _ _ _ _ => trivial)⟩⟩ rfl rfl hl.1 rfl (lv_room (Nat.le_of_ble_eq_true rfl)) dX0_readLine_130 ⟨by decide, by decide⟩) hS (fun q _ h => hFc q h) hFc (fun r7 u8 t H1 locs ht hvm hw hB hz1 hk1 hS => ?_)
  have hw : r7 = 0 ∧ True := hw
  obtain ⟨er7, -⟩ := hw
  obtain ⟨hP1, hK1, hD1⟩ := hB
  rw [ht] at hP1
  have hK1 := va_K.moved hvm.symm hK1
  obtain ⟨hP, hD⟩ := va_join (wr := [(h0, .inr (0, [.ref h1, .ref h2, .ref h3, .ref h4, .ref h5, .ref h6, .ref h7, .int 0, .int 0, .int 0, .int 49152, .int 49152, .int 0, .int 0, .int 0, .int 0, .int 0])), (h11, .inl (y1, 2501, .inr (.inl g0)))]) (w1 := [(h1, .inr (10, [.ref h8, .ref h9, .ref h10, .ref h11, .ref h12, .ref h13, .int 0, .int 1, .int 0, .int 0, .int 0, .long 0])), (h8, .inl (y0, 2501, .inl f0))]) hP hD [2, 3] [0, 1] rfl rfl (by decide) (by decide) hk1 hFc hP1 hD1
  have hK := (hK.sub (tys' := [(y1, .long)]) [0] rfl).app hK1
  generalize H1 = H at hP hS ⊢
  have hP : va_P (dC, dI) vwCl [(h0, .inr (0, [.ref h1, .ref h2, .ref h3, .ref h4, .ref h5, .ref h6, .ref h7, .int 0, .int 0, .int 0, .int 49152, .int 49152, .int 0, .int 0, .int 0, .int 0, .int 0])), (h11, .inl (y1, 2501, .inr (.inl g0))), (h1, .inr (10, [.ref h8, .ref h9, .ref h10, .ref h11, .ref h12, .ref h13, .int 0, .int 1, .int 0, .int 0, .int 0, .long 0])), (h8, .inl (y0, 2501, .inl f0))] H := hP
  have hD : va_D A [(h0, .inr (0, [.ref h1, .ref h2, .ref h3, .ref h4, .ref h5, .ref h6, .ref h7, .int 0, .int 0, .int 0, .int 49152, .int 49152, .int 0, .int 0, .int 0, .int 0, .int 0])), (h11, .inl (y1, 2501, .inr (.inl g0))), (h1, .inr (10, [.ref h8, .ref h9, .ref h10, .ref h11, .ref h12, .ref h13, .int 0, .int 1, .int 0, .int 0, .int 0, .long 0])), (h8, .inl (y0, 2501, .inl f0))] := hD
  have hK : va_K (dC, dI) vwCl [(y1, .long), (y0, .int)] s := hK
  subst er7
  refine lv_if_eq (tgt := 149) hx hb dX0_readLine_133 (by decide) (fun _ => ?_) (fun c => absurd (by decide) c)
  refine lv_aload_n hx hb dX0_readLine_149 rfl (lv_at hl 2 rfl) ?_
  refine va_get (D := (dC, dI)) (ci := 0) (v := .int 49152) (C := RX0) (T := TX0) (N := 17) hx hb hG inGX0 hown hK hP 0 rfl rfl 10 (by decide) (hG _ wd_331) (fun _ h9 => h9) rfl dX0_readLine_150 ?_
  refine lv_ldc hx hb hown (hG _ wd_693) dX0_readLine_153 ?_
  refine lv_icmp_le (tgt := 171) hx hb dX0_readLine_155 (by decide) (fun _ => ?_) (fun c => absurd (by decide) c)
  refine lv_iload_n hx hb dX0_readLine_171 rfl (lv_at hl 1 rfl) ?_
  refine lv_if_eq (tgt := 201) hx hb dX0_readLine_172 (by decide) (fun _ => ?_) (fun c => absurd (by decide) c)
  refine lv_iconst (v := 1) hx hb dX0_readLine_201 (by decide) ?_
  have hP9 := hP.sub (ws' := [(h0, .inr (0, [.ref h1, .ref h2, .ref h3, .ref h4, .ref h5, .ref h6, .ref h7, .int 0, .int 0, .int 0, .int 49152, .int 49152, .int 0, .int 0, .int 0, .int 0, .int 0])), (h1, .inr (10, [.ref h8, .ref h9, .ref h10, .ref h11, .ref h12, .ref h13, .int 0, .int 1, .int 0, .int 0, .int 0, .long 0])), (h8, .inl (y0, 2501, .inl f0)), (h11, .inl (y1, 2501, .inr (.inl g0)))]) [0, 2, 3, 1] rfl
  have hD9 := hD.sub (ws' := [(h0, .inr (0, [.ref h1, .ref h2, .ref h3, .ref h4, .ref h5, .ref h6, .ref h7, .int 0, .int 0, .int 0, .int 49152, .int 49152, .int 0, .int 0, .int 0, .int 0, .int 0])), (h1, .inr (10, [.ref h8, .ref h9, .ref h10, .ref h11, .ref h12, .ref h13, .int 0, .int 1, .int 0, .int 0, .int 0, .long 0])), (h8, .inl (y0, 2501, .inl f0)), (h11, .inl (y1, 2501, .inr (.inl g0)))]) [0, 2, 3, 1] (by decide) rfl
  have hK9 := hK.sub (tys' := [(y0, .int), (y1, .long)]) [1, 0] rfl
  exact W.zret (v := 1) hx hb hr rfl (fun t ht hW => ⟨⟨1, (), rfl, ⟨rfl, trivial⟩, by rw [ht]; exact hP9, va_K.moved hW.alike hK9, hD9⟩, hS.F ht⟩) hS.2.2 dX0_readLine_202
set_option maxHeartbeats 4000000 in
set_option maxRecDepth 100000 in
theorem cX10_isLast_1 (l : Launch) (dC : Nat → ClassId) (dI : Nat → Nat → Nat) (h0 h1 h2 h3 h4 h5 h6 : Nat) (sz : Nat) : Met l yX10_isLast (Cond.code yX10_isLast cX10_isLast 1 (some .boolean) :: lw_G) ({ frames := 0, cells := 0, slots := 0, locals := 0 }) (va_Pc [.ref h0] (fun U => U.heap.size = sz ∧ va_P (dC, dI) vwCl [(h0, .inr (10, [.ref h1, .ref h2, .ref h3, .ref h4, .ref h5, .ref h6, .int 0, .int 1, .int 0, .int 0, .int 0, .long 0]))] U.heap ∧ va_K (dC, dI) vwCl [] U ∧ va_D (fun _ => True) [(h0, .inr (10, [.ref h1, .ref h2, .ref h3, .ref h4, .ref h5, .ref h6, .int 0, .int 1, .int 0, .int 0, .int 0, .long 0]))])) (va_Qi (fun (r : Int32) (u : Unit) => r = 1 ∧ True) (fun (u : Unit) (t : State) => va_P (dC, dI) vwCl [(h0, .inr (10, [.ref h1, .ref h2, .ref h3, .ref h4, .ref h5, .ref h6, .int 0, .int 1, .int 0, .int 0, .int 0, .long 0]))] t.heap ∧ va_K (dC, dI) vwCl [] t ∧ va_D (va_A [(h0, .inr (10, [.ref h1, .ref h2, .ref h3, .ref h4, .ref h5, .ref h6, .int 0, .int 1, .int 0, .int 0, .int 0, .long 0]))] sz) [(h0, .inr (10, [.ref h1, .ref h2, .ref h3, .ref h4, .ref h5, .ref h6, .int 0, .int 1, .int 0, .int 0, .int 0, .long 0]))]) (va_A [(h0, .inr (10, [.ref h1, .ref h2, .ref h3, .ref h4, .ref h5, .ref h6, .int 0, .int 1, .int 0, .int 0, .int 0, .long 0]))] sz)) 0 0 (va_A [(h0, .inr (10, [.ref h1, .ref h2, .ref h3, .ref h4, .ref h5, .ref h6, .int 0, .int 1, .int 0, .int 0, .int 0, .long 0]))] sz) := by
  refine Met.ofW (cc := cX10_isLast) (maxL := 1) (ret := (some .boolean)) (by decide) rfl ?_
  intro p e s m args below meth c s₁ B hml hv
  obtain ⟨rfl, hsz, hP, hK, hD0⟩ := hv
  have hx := B.exec
  have hb := B.bytes
  have hr := B.returns
  have hts0 := atoms_spec (ws := Cond.code yX10_isLast cX10_isLast 1 (some .boolean) :: lw_G) B.pre
  have hG : ∀ w ∈ lw_G, w.before _ s = true := fun w h => hts0 w (List.mem_cons_of_mem _ h)
  have hown : s.vm.findClass RX10 = some m.cls := findClass_of_methodNamed B.named
  have hlocks := B.notSynchronized
  subst hsz
  have hD := hD0.self (sz := s.heap.size)
  generalize hAe : va_A [(h0, .inr (10, [.ref h1, .ref h2, .ref h3, .ref h4, .ref h5, .ref h6, .int 0, .int 1, .int 0, .int 0, .int 0, .long 0]))] s.heap.size = A at hD ⊢
  have hA : ∀ q : Nat, s.heap.size ≤ q → A q := fun q h => by rw [← hAe]; exact Or.inr h
  have hS : va_S A s.heap s.heap [] := va_S.rf
  have hP : va_P (dC, dI) vwCl [(h0, .inr (10, [.ref h1, .ref h2, .ref h3, .ref h4, .ref h5, .ref h6, .int 0, .int 1, .int 0, .int 0, .int 0, .long 0]))] s.heap := hP
  have hl := lv_entry ([.ref h0]) (n := 1) (Nat.le_of_ble_eq_true rfl)
  rw [lg_entry_eq]
  generalize (lg_sl ([.ref h0]) ++ List.replicate (1 - (lg_sl ([.ref h0])).length) Slot.unset).toArray = ls at hl ⊢
  have hl : lv_has ls 1 [(0, .ref h0)] := hl
  refine lv_aload_n hx hb dX10_isLast_0 rfl (lv_at hl 0 rfl) ?_
  refine va_get (D := (dC, dI)) (ci := 10) (v := .int 0) (C := RX10) (T := TX10) (N := 12) hx hb hG inGX10 hown hK hP 0 rfl rfl 8 (by decide) (hG _ wd_291) (fun _ h9 => h9) rfl dX10_isLast_1 ?_
  refine lv_aload_n hx hb dX10_isLast_4 rfl (lv_at hl 0 rfl) ?_
  refine va_get (D := (dC, dI)) (ci := 10) (v := .int 1) (C := RX10) (T := TX10) (N := 12) hx hb hG inGX10 hown hK hP 0 rfl rfl 7 (by decide) (hG _ wd_290) (fun _ h9 => h9) rfl dX10_isLast_5 ?_
  refine lv_iconst (v := 1) hx hb dX10_isLast_8 (by decide) ?_
  refine lv_isub hx hb dX10_isLast_9 ?_
  refine lv_val (y := 0) (by decide +kernel) ?_
  refine lv_icmp_lt (tgt := 17) hx hb dX10_isLast_10 (by decide) (fun c => absurd c (by decide)) (fun _ => ?_)
  refine lv_iconst (v := 1) hx hb dX10_isLast_13 (by decide) ?_
  refine lv_goto (tgt := 18) hx hb dX10_isLast_14 (by decide) ?_
  have hP9 := hP.sub (ws' := [(h0, .inr (10, [.ref h1, .ref h2, .ref h3, .ref h4, .ref h5, .ref h6, .int 0, .int 1, .int 0, .int 0, .int 0, .long 0]))]) [0] rfl
  have hD9 := hD.sub (ws' := [(h0, .inr (10, [.ref h1, .ref h2, .ref h3, .ref h4, .ref h5, .ref h6, .int 0, .int 1, .int 0, .int 0, .int 0, .long 0]))]) [0] (by decide) rfl
  have hK9 := hK.sub (tys' := []) [] rfl
  exact W.zret (v := 1) hx hb hr rfl (fun t ht hW => ⟨⟨1, (), rfl, ⟨rfl, trivial⟩, by rw [ht]; exact hP9, va_K.moved hW.alike hK9, hD9⟩, hS.F ht⟩) hS.2.2 dX10_isLast_18
set_option maxHeartbeats 4000000 in
set_option maxRecDepth 100000 in
theorem cX0_pass_1 (l : Launch) (dC : Nat → ClassId) (dI : Nat → Nat → Nat) (h0 h1 h2 h3 h4 h5 h6 h7 h8 h9 h10 h11 h12 h13 : Nat) (y0 y1 : ClassId) (sz : Nat) (f0 : Nat → Int32) (g0 : Nat → Int64) (if0 : ∀ j, iv (f0 j) 0 0) (kf0_0 : f0 0 = 0) (kg0_0 : g0 0 = 0) : Met l yX0_pass (Cond.code yX0_pass cX0_pass 3 (some .boolean) :: lw_G) ({ frames := 2, cells := 0, slots := 0, locals := 43 }) (va_Pc [.ref h0, .int 0] (fun U => U.heap.size = sz ∧ va_P (dC, dI) vwCl [(h0, .inr (0, [.ref h1, .ref h2, .ref h3, .ref h4, .ref h5, .ref h6, .ref h7, .int 0, .int 0, .int 0, .int 0, .int 0, .int 0, .int 0, .int 0, .int 0, .int 0])), (h1, .inr (10, [.ref h8, .ref h9, .ref h10, .ref h11, .ref h12, .ref h13, .int 0, .int 1, .int 0, .int 0, .int 0, .long 0])), (h8, .inl (y0, 2501, .inl f0)), (h11, .inl (y1, 2501, .inr (.inl g0)))] U.heap ∧ va_K (dC, dI) vwCl [(y0, .int), (y1, .long)] U ∧ va_D (fun _ => True) [(h0, .inr (0, [.ref h1, .ref h2, .ref h3, .ref h4, .ref h5, .ref h6, .ref h7, .int 0, .int 0, .int 0, .int 0, .int 0, .int 0, .int 0, .int 0, .int 0, .int 0])), (h1, .inr (10, [.ref h8, .ref h9, .ref h10, .ref h11, .ref h12, .ref h13, .int 0, .int 1, .int 0, .int 0, .int 0, .long 0])), (h8, .inl (y0, 2501, .inl f0)), (h11, .inl (y1, 2501, .inr (.inl g0)))])) (va_Qi (fun (r : Int32) (u : Unit) => r = 1 ∧ True) (fun (u : Unit) (t : State) => va_P (dC, dI) vwCl [(h0, .inr (0, [.ref h1, .ref h2, .ref h3, .ref h4, .ref h5, .ref h6, .ref h7, .int 0, .int 0, .int 0, .int 49152, .int 49152, .int 0, .int 0, .int 0, .int 0, .int 0])), (h1, .inr (10, [.ref h8, .ref h9, .ref h10, .ref h11, .ref h12, .ref h13, .int 0, .int 1, .int 0, .int 0, .int 0, .long 0])), (h8, .inl (y0, 2501, .inl f0)), (h11, .inl (y1, 2501, .inr (.inl g0)))] t.heap ∧ va_K (dC, dI) vwCl [(y0, .int), (y1, .long)] t ∧ va_D (va_A [(h0, .inr (0, [.ref h1, .ref h2, .ref h3, .ref h4, .ref h5, .ref h6, .ref h7, .int 0, .int 0, .int 0, .int 0, .int 0, .int 0, .int 0, .int 0, .int 0, .int 0])), (h1, .inr (10, [.ref h8, .ref h9, .ref h10, .ref h11, .ref h12, .ref h13, .int 0, .int 1, .int 0, .int 0, .int 0, .long 0])), (h8, .inl (y0, 2501, .inl f0)), (h11, .inl (y1, 2501, .inr (.inl g0)))] sz) [(h0, .inr (0, [.ref h1, .ref h2, .ref h3, .ref h4, .ref h5, .ref h6, .ref h7, .int 0, .int 0, .int 0, .int 49152, .int 49152, .int 0, .int 0, .int 0, .int 0, .int 0])), (h1, .inr (10, [.ref h8, .ref h9, .ref h10, .ref h11, .ref h12, .ref h13, .int 0, .int 1, .int 0, .int 0, .int 0, .long 0])), (h8, .inl (y0, 2501, .inl f0)), (h11, .inl (y1, 2501, .inr (.inl g0)))]) (va_A [(h0, .inr (0, [.ref h1, .ref h2, .ref h3, .ref h4, .ref h5, .ref h6, .ref h7, .int 0, .int 0, .int 0, .int 0, .int 0, .int 0, .int 0, .int 0, .int 0, .int 0])), (h1, .inr (10, [.ref h8, .ref h9, .ref h10, .ref h11, .ref h12, .ref h13, .int 0, .int 1, .int 0, .int 0, .int 0, .long 0])), (h8, .inl (y0, 2501, .inl f0)), (h11, .inl (y1, 2501, .inr (.inl g0)))] sz)) 0 0 (va_A [(h0, .inr (0, [.ref h1, .ref h2, .ref h3, .ref h4, .ref h5, .ref h6, .ref h7, .int 0, .int 0, .int 0, .int 0, .int 0, .int 0, .int 0, .int 0, .int 0, .int 0])), (h1, .inr (10, [.ref h8, .ref h9, .ref h10, .ref h11, .ref h12, .ref h13, .int 0, .int 1, .int 0, .int 0, .int 0, .long 0])), (h8, .inl (y0, 2501, .inl f0)), (h11, .inl (y1, 2501, .inr (.inl g0)))] sz) := by
  refine Met.ofW (cc := cX0_pass) (maxL := 3) (ret := (some .boolean)) (by decide) rfl ?_
  intro p e s m args below meth c s₁ B hml hv
  obtain ⟨rfl, hsz, hP, hK, hD0⟩ := hv
  have hx := B.exec
  have hb := B.bytes
  have hr := B.returns
  have hts0 := atoms_spec (ws := Cond.code yX0_pass cX0_pass 3 (some .boolean) :: lw_G) B.pre
  have hG : ∀ w ∈ lw_G, w.before _ s = true := fun w h => hts0 w (List.mem_cons_of_mem _ h)
  have hown : s.vm.findClass RX0 = some m.cls := findClass_of_methodNamed B.named
  have hlocks := B.notSynchronized
  subst hsz
  have hD := hD0.self (sz := s.heap.size)
  generalize hAe : va_A [(h0, .inr (0, [.ref h1, .ref h2, .ref h3, .ref h4, .ref h5, .ref h6, .ref h7, .int 0, .int 0, .int 0, .int 0, .int 0, .int 0, .int 0, .int 0, .int 0, .int 0])), (h1, .inr (10, [.ref h8, .ref h9, .ref h10, .ref h11, .ref h12, .ref h13, .int 0, .int 1, .int 0, .int 0, .int 0, .long 0])), (h8, .inl (y0, 2501, .inl f0)), (h11, .inl (y1, 2501, .inr (.inl g0)))] s.heap.size = A at hD ⊢
  have hA : ∀ q : Nat, s.heap.size ≤ q → A q := fun q h => by rw [← hAe]; exact Or.inr h
  have hS : va_S A s.heap s.heap [] := va_S.rf
  have hP : va_P (dC, dI) vwCl [(h0, .inr (0, [.ref h1, .ref h2, .ref h3, .ref h4, .ref h5, .ref h6, .ref h7, .int 0, .int 0, .int 0, .int 0, .int 0, .int 0, .int 0, .int 0, .int 0, .int 0])), (h1, .inr (10, [.ref h8, .ref h9, .ref h10, .ref h11, .ref h12, .ref h13, .int 0, .int 1, .int 0, .int 0, .int 0, .long 0])), (h8, .inl (y0, 2501, .inl f0)), (h11, .inl (y1, 2501, .inr (.inl g0)))] s.heap := hP
  have hl := lv_entry ([.ref h0, .int 0]) (n := 3) (Nat.le_of_ble_eq_true rfl)
  rw [lg_entry_eq]
  generalize (lg_sl ([.ref h0, .int 0]) ++ List.replicate (3 - (lg_sl ([.ref h0, .int 0])).length) Slot.unset).toArray = ls at hl ⊢
  have hl : lv_has ls 3 [(0, .ref h0), (1, .int 0)] := hl
  refine lv_aload_n hx hb dX0_pass_0 rfl (lv_at hl 0 rfl) ?_
  refine lv_iload_n hx hb dX0_pass_1 rfl (lv_at hl 1 rfl) ?_
  refine va_put (D := (dC, dI)) (ci := 0) (v := .int 0) (ty := .boolean) (C := RX0) (T := TX0) (N := 17) hx hb hG inGX0 tyX0 tyX0_ok nmX0 hown hK hP hD hS 0 rfl rfl 8 (by decide) (hG _ wd_329) (fun _ h9 => h9) rfl (by decide +kernel) rfl rfl (Nat.le_of_ble_eq_true rfl) dX0_pass_2 (fun H locs hP hD hS => ?_)
  have hP : va_P (dC, dI) vwCl [(h0, .inr (0, [.ref h1, .ref h2, .ref h3, .ref h4, .ref h5, .ref h6, .ref h7, .int 0, .int 0, .int 0, .int 0, .int 0, .int 0, .int 0, .int 0, .int 0, .int 0])), (h1, .inr (10, [.ref h8, .ref h9, .ref h10, .ref h11, .ref h12, .ref h13, .int 0, .int 1, .int 0, .int 0, .int 0, .long 0])), (h8, .inl (y0, 2501, .inl f0)), (h11, .inl (y1, 2501, .inr (.inl g0)))] H := hP
  have hD : va_D A [(h0, .inr (0, [.ref h1, .ref h2, .ref h3, .ref h4, .ref h5, .ref h6, .ref h7, .int 0, .int 0, .int 0, .int 0, .int 0, .int 0, .int 0, .int 0, .int 0, .int 0])), (h1, .inr (10, [.ref h8, .ref h9, .ref h10, .ref h11, .ref h12, .ref h13, .int 0, .int 1, .int 0, .int 0, .int 0, .long 0])), (h8, .inl (y0, 2501, .inl f0)), (h11, .inl (y1, 2501, .inr (.inl g0)))] := hD
  refine lv_aload_n hx hb dX0_pass_5 rfl (lv_at hl 0 rfl) ?_
  refine lv_ldc hx hb hown (hG _ wd_547) dX0_pass_6 ?_
  refine va_put (D := (dC, dI)) (ci := 0) (v := .int 49152) (ty := .int) (C := RX0) (T := TX0) (N := 17) hx hb hG inGX0 tyX0 tyX0_ok nmX0 hown hK hP hD hS 0 rfl rfl 10 (by decide) (hG _ wd_331) (fun _ h9 => h9) rfl (by decide +kernel) rfl rfl (Nat.le_of_ble_eq_true rfl) dX0_pass_8 (fun H locs hP hD hS => ?_)
  have hP : va_P (dC, dI) vwCl [(h0, .inr (0, [.ref h1, .ref h2, .ref h3, .ref h4, .ref h5, .ref h6, .ref h7, .int 0, .int 0, .int 0, .int 49152, .int 0, .int 0, .int 0, .int 0, .int 0, .int 0])), (h1, .inr (10, [.ref h8, .ref h9, .ref h10, .ref h11, .ref h12, .ref h13, .int 0, .int 1, .int 0, .int 0, .int 0, .long 0])), (h8, .inl (y0, 2501, .inl f0)), (h11, .inl (y1, 2501, .inr (.inl g0)))] H := hP
  have hD : va_D A [(h0, .inr (0, [.ref h1, .ref h2, .ref h3, .ref h4, .ref h5, .ref h6, .ref h7, .int 0, .int 0, .int 0, .int 49152, .int 0, .int 0, .int 0, .int 0, .int 0, .int 0])), (h1, .inr (10, [.ref h8, .ref h9, .ref h10, .ref h11, .ref h12, .ref h13, .int 0, .int 1, .int 0, .int 0, .int 0, .long 0])), (h8, .inl (y0, 2501, .inl f0)), (h11, .inl (y1, 2501, .inr (.inl g0)))] := hD
  refine lv_aload_n hx hb dX0_pass_11 rfl (lv_at hl 0 rfl) ?_
  refine lv_iconst (v := 0) hx hb dX0_pass_12 (by decide) ?_
  refine va_put (D := (dC, dI)) (ci := 0) (v := .int 0) (ty := .int) (C := RX0) (T := TX0) (N := 17) hx hb hG inGX0 tyX0 tyX0_ok nmX0 hown hK hP hD hS 0 rfl rfl 7 (by decide) (hG _ wd_328) (fun _ h9 => h9) rfl (by decide +kernel) rfl rfl (Nat.le_of_ble_eq_true rfl) dX0_pass_13 (fun H locs hP hD hS => ?_)
  have hP : va_P (dC, dI) vwCl [(h0, .inr (0, [.ref h1, .ref h2, .ref h3, .ref h4, .ref h5, .ref h6, .ref h7, .int 0, .int 0, .int 0, .int 49152, .int 0, .int 0, .int 0, .int 0, .int 0, .int 0])), (h1, .inr (10, [.ref h8, .ref h9, .ref h10, .ref h11, .ref h12, .ref h13, .int 0, .int 1, .int 0, .int 0, .int 0, .long 0])), (h8, .inl (y0, 2501, .inl f0)), (h11, .inl (y1, 2501, .inr (.inl g0)))] H := hP
  have hD : va_D A [(h0, .inr (0, [.ref h1, .ref h2, .ref h3, .ref h4, .ref h5, .ref h6, .ref h7, .int 0, .int 0, .int 0, .int 49152, .int 0, .int 0, .int 0, .int 0, .int 0, .int 0])), (h1, .inr (10, [.ref h8, .ref h9, .ref h10, .ref h11, .ref h12, .ref h13, .int 0, .int 1, .int 0, .int 0, .int 0, .long 0])), (h8, .inl (y0, 2501, .inl f0)), (h11, .inl (y1, 2501, .inr (.inl g0)))] := hD
  refine lv_aload_n hx hb dX0_pass_16 rfl (lv_at hl 0 rfl) ?_
  refine va_get (D := (dC, dI)) (ci := 0) (v := .ref h1) (C := RX0) (T := TX0) (N := 17) hx hb hG inGX0 hown hK hP 0 rfl rfl 0 (by decide) (hG _ wd_321) (fun _ h9 => h9) rfl dX0_pass_17 ?_
  have hPc := hP.sub (ws' := [(h1, .inr (10, [.ref h8, .ref h9, .ref h10, .ref h11, .ref h12, .ref h13, .int 0, .int 1, .int 0, .int 0, .int 0, .long 0]))]) [1] rfl
  have hDc := hD.sub (ws' := [(h1, .inr (10, [.ref h8, .ref h9, .ref h10, .ref h11, .ref h12, .ref h13, .int 0, .int 1, .int 0, .int 0, .int 0, .long 0]))]) [1] (by decide) rfl
  have hKc := hK.sub (tys' := []) [] rfl
  have hFc := va_free (wc := [(h1, .inr (10, [.ref h8, .ref h9, .ref h10, .ref h11, .ref h12, .ref h13, .int 0, .int 1, .int 0, .int 0, .int 0, .long 0]))]) hD hS hA [1] rfl
  refine va_callv (va_runV (As := []) (rest := []) ⟨hx, hb, hml, hown, hG⟩ (cX10_rewind_1 l dC dI h1 h8 h9 h10 h11 h12 h13 H.size) (cwV 0 hG (gV wd_548 wd_549 wd_550 wd_11 wd_551) rfl rfl rfl (by decide +kernel) ⟨Nat.le_of_ble_eq_true rfl, Nat.le_of_ble_eq_true rfl⟩) ⟨fun a U g mk q => by obtain ⟨q0, q1, qP, qK, qD⟩ := q; exact ⟨q0, q1, qP, va_K.moved (u := U) (U := U.calling g mk a) (Vm.Alike.refl U.vm) qK, qD⟩, va_recv hKc hPc (ci := 10) (q0 := 0) rfl rfl, fun U hU hW => ⟨rfl, by rw [hU], by rw [hU]; exact hPc, va_K.moved hW.alike hKc, hDc.weaken (fun _ _ _ _ => trivial)⟩⟩ rfl rfl hl.1 rfl (lv_room (Nat.le_of_ble_eq_true rfl)) dX0_pass_20 ⟨by decide, by decide⟩) hS (fun q _ h => hFc q h) hFc (fun u2 t H1 locs ht hvm hw hB hz1 hk1 hS => ?_)
  obtain ⟨hP1, hK1, hD1⟩ := hB
  rw [ht] at hP1
  have hK1 := va_K.moved hvm.symm hK1
  obtain ⟨hP, hD⟩ := va_join (wr := [(h0, .inr (0, [.ref h1, .ref h2, .ref h3, .ref h4, .ref h5, .ref h6, .ref h7, .int 0, .int 0, .int 0, .int 49152, .int 0, .int 0, .int 0, .int 0, .int 0, .int 0])), (h8, .inl (y0, 2501, .inl f0)), (h11, .inl (y1, 2501, .inr (.inl g0)))]) (w1 := [(h1, .inr (10, [.ref h8, .ref h9, .ref h10, .ref h11, .ref h12, .ref h13, .int 0, .int 1, .int 0, .int 0, .int 0, .long 0]))]) hP hD [1] [0, 2, 3] rfl rfl (by decide) (by decide) hk1 hFc hP1 hD1
  have hK := (hK.sub (tys' := [(y0, .int), (y1, .long)]) [0, 1] rfl).app hK1
  generalize H1 = H at hP hS ⊢
  have hP : va_P (dC, dI) vwCl [(h0, .inr (0, [.ref h1, .ref h2, .ref h3, .ref h4, .ref h5, .ref h6, .ref h7, .int 0, .int 0, .int 0, .int 49152, .int 0, .int 0, .int 0, .int 0, .int 0, .int 0])), (h8, .inl (y0, 2501, .inl f0)), (h11, .inl (y1, 2501, .inr (.inl g0))), (h1, .inr (10, [.ref h8, .ref h9, .ref h10, .ref h11, .ref h12, .ref h13, .int 0, .int 1, .int 0, .int 0, .int 0, .long 0]))] H := hP
  have hD : va_D A [(h0, .inr (0, [.ref h1, .ref h2, .ref h3, .ref h4, .ref h5, .ref h6, .ref h7, .int 0, .int 0, .int 0, .int 49152, .int 0, .int 0, .int 0, .int 0, .int 0, .int 0])), (h8, .inl (y0, 2501, .inl f0)), (h11, .inl (y1, 2501, .inr (.inl g0))), (h1, .inr (10, [.ref h8, .ref h9, .ref h10, .ref h11, .ref h12, .ref h13, .int 0, .int 1, .int 0, .int 0, .int 0, .long 0]))] := hD
  have hK : va_K (dC, dI) vwCl [(y0, .int), (y1, .long)] s := hK
  refine lv_iconst (v := 0) hx hb dX0_pass_23 (by decide) ?_
  refine lv_istore_n (lv' := [(2, .int 0), (0, .ref h0), (1, .int 0)]) hx hb dX0_pass_24 rfl hl (by decide) rfl (fun ls hl => ?_)
  refine lv_iload_n hx hb dX0_pass_25 rfl (lv_at hl 0 rfl) ?_
  refine lv_sipush (v := 2500) hx hb dX0_pass_26 (by decide) ?_
  refine lv_icmp_gt (tgt := 71) hx hb dX0_pass_29 (by decide) (fun c => absurd c (by decide)) (fun _ => ?_)
  refine lv_aload_n hx hb dX0_pass_32 rfl (lv_at hl 1 rfl) ?_
  refine lv_iload_n hx hb dX0_pass_33 rfl (lv_at hl 0 rfl) ?_
  refine va_put (D := (dC, dI)) (ci := 0) (v := .int 0) (ty := .int) (C := RX0) (T := TX0) (N := 17) hx hb hG inGX0 tyX0 tyX0_ok nmX0 hown hK hP hD hS 0 rfl rfl 9 (by decide) (hG _ wd_330) (fun _ h9 => h9) rfl (by decide +kernel) rfl rfl (Nat.le_of_ble_eq_true rfl) dX0_pass_34 (fun H locs hP hD hS => ?_)
  have hP : va_P (dC, dI) vwCl [(h0, .inr (0, [.ref h1, .ref h2, .ref h3, .ref h4, .ref h5, .ref h6, .ref h7, .int 0, .int 0, .int 0, .int 49152, .int 0, .int 0, .int 0, .int 0, .int 0, .int 0])), (h8, .inl (y0, 2501, .inl f0)), (h11, .inl (y1, 2501, .inr (.inl g0))), (h1, .inr (10, [.ref h8, .ref h9, .ref h10, .ref h11, .ref h12, .ref h13, .int 0, .int 1, .int 0, .int 0, .int 0, .long 0]))] H := hP
  have hD : va_D A [(h0, .inr (0, [.ref h1, .ref h2, .ref h3, .ref h4, .ref h5, .ref h6, .ref h7, .int 0, .int 0, .int 0, .int 49152, .int 0, .int 0, .int 0, .int 0, .int 0, .int 0])), (h8, .inl (y0, 2501, .inl f0)), (h11, .inl (y1, 2501, .inr (.inl g0))), (h1, .inr (10, [.ref h8, .ref h9, .ref h10, .ref h11, .ref h12, .ref h13, .int 0, .int 1, .int 0, .int 0, .int 0, .long 0]))] := hD
  refine lv_aload_n hx hb dX0_pass_37 rfl (lv_at hl 1 rfl) ?_
  have hPc := hP.sub (ws' := [(h0, .inr (0, [.ref h1, .ref h2, .ref h3, .ref h4, .ref h5, .ref h6, .ref h7, .int 0, .int 0, .int 0, .int 49152, .int 0, .int 0, .int 0, .int 0, .int 0, .int 0])), (h1, .inr (10, [.ref h8, .ref h9, .ref h10, .ref h11, .ref h12, .ref h13, .int 0, .int 1, .int 0, .int 0, .int 0, .long 0])), (h8, .inl (y0, 2501, .inl f0)), (h11, .inl (y1, 2501, .inr (.inl g0)))]) [0, 3, 1, 2] rfl
  have hDc := hD.sub (ws' := [(h0, .inr (0, [.ref h1, .ref h2, .ref h3, .ref h4, .ref h5, .ref h6, .ref h7, .int 0, .int 0, .int 0, .int 49152, .int 0, .int 0, .int 0, .int 0, .int 0, .int 0])), (h1, .inr (10, [.ref h8, .ref h9, .ref h10, .ref h11, .ref h12, .ref h13, .int 0, .int 1, .int 0, .int 0, .int 0, .long 0])), (h8, .inl (y0, 2501, .inl f0)), (h11, .inl (y1, 2501, .inr (.inl g0)))]) [0, 3, 1, 2] (by decide) rfl
  have hKc := hK.sub (tys' := [(y0, .int), (y1, .long)]) [0, 1] rfl
  have hFc := va_free (wc := [(h0, .inr (0, [.ref h1, .ref h2, .ref h3, .ref h4, .ref h5, .ref h6, .ref h7, .int 0, .int 0, .int 0, .int 49152, .int 0, .int 0, .int 0, .int 0, .int 0, .int 0])), (h1, .inr (10, [.ref h8, .ref h9, .ref h10, .ref h11, .ref h12, .ref h13, .int 0, .int 1, .int 0, .int 0, .int 0, .long 0])), (h8, .inl (y0, 2501, .inl f0)), (h11, .inl (y1, 2501, .inr (.inl g0)))]) hD hS hA [0, 3, 1, 2] rfl
  refine va_calli (va_runV (As := []) (rest := []) ⟨hx, hb, hml, hown, hG⟩ (cX0_readLine_1 l dC dI h0 h1 h2 h3 h4 h5 h6 h7 h8 h9 h10 h11 h12 h13 y0 y1 H.size f0 g0 if0 kf0_0 kg0_0) (cwV 0 hG (gV wd_552 wd_554 wp_9 wd_8 wd_555) rfl rfl rfl (by decide +kernel) ⟨Nat.le_of_ble_eq_true rfl, Nat.le_of_ble_eq_true rfl⟩) ⟨fun a U g mk q => by obtain ⟨q0, q1, qP, qK, qD⟩ := q; exact ⟨q0, q1, qP, va_K.moved (u := U) (U := U.calling g mk a) (Vm.Alike.refl U.vm) qK, qD⟩, va_recv hKc hPc (ci := 0) (q0 := 0) rfl rfl, fun U hU hW => ⟨rfl, by rw [hU], by rw [hU]; exact hPc, va_K.moved hW.alike hKc, hDc.weaken (fun _ _ _ _ => trivial)⟩⟩ rfl rfl hl.1 rfl (lv_room (Nat.le_of_ble_eq_true rfl)) dX0_pass_38 ⟨by decide, by decide⟩) hS (fun q _ h => hFc q h) hFc (fun r3 u4 t H1 locs ht hvm hw hB hz1 hk1 hS => ?_)
  have hw : r3 = 1 ∧ True := hw
  obtain ⟨er3, -⟩ := hw
  obtain ⟨hP1, hK1, hD1⟩ := hB
  rw [ht] at hP1
  have hK1 := va_K.moved hvm.symm hK1
  obtain ⟨hP, hD⟩ := va_join (wr := []) (w1 := [(h0, .inr (0, [.ref h1, .ref h2, .ref h3, .ref h4, .ref h5, .ref h6, .ref h7, .int 0, .int 0, .int 0, .int 49152, .int 49152, .int 0, .int 0, .int 0, .int 0, .int 0])), (h1, .inr (10, [.ref h8, .ref h9, .ref h10, .ref h11, .ref h12, .ref h13, .int 0, .int 1, .int 0, .int 0, .int 0, .long 0])), (h8, .inl (y0, 2501, .inl f0)), (h11, .inl (y1, 2501, .inr (.inl g0)))]) hP hD [0, 3, 1, 2] [] rfl rfl (by decide) (by decide) hk1 hFc hP1 hD1
  have hK := (hK.sub (tys' := []) [] rfl).app hK1
  generalize H1 = H at hP hS ⊢
  have hP : va_P (dC, dI) vwCl [(h0, .inr (0, [.ref h1, .ref h2, .ref h3, .ref h4, .ref h5, .ref h6, .ref h7, .int 0, .int 0, .int 0, .int 49152, .int 49152, .int 0, .int 0, .int 0, .int 0, .int 0])), (h1, .inr (10, [.ref h8, .ref h9, .ref h10, .ref h11, .ref h12, .ref h13, .int 0, .int 1, .int 0, .int 0, .int 0, .long 0])), (h8, .inl (y0, 2501, .inl f0)), (h11, .inl (y1, 2501, .inr (.inl g0)))] H := hP
  have hD : va_D A [(h0, .inr (0, [.ref h1, .ref h2, .ref h3, .ref h4, .ref h5, .ref h6, .ref h7, .int 0, .int 0, .int 0, .int 49152, .int 49152, .int 0, .int 0, .int 0, .int 0, .int 0])), (h1, .inr (10, [.ref h8, .ref h9, .ref h10, .ref h11, .ref h12, .ref h13, .int 0, .int 1, .int 0, .int 0, .int 0, .long 0])), (h8, .inl (y0, 2501, .inl f0)), (h11, .inl (y1, 2501, .inr (.inl g0)))] := hD
  have hK : va_K (dC, dI) vwCl [(y0, .int), (y1, .long)] s := hK
  subst er3
  refine lv_if_ne (tgt := 46) hx hb dX0_pass_41 (by decide) (fun _ => ?_) (fun c => absurd c (by decide))
  refine lv_aload_n hx hb dX0_pass_46 rfl (lv_at hl 1 rfl) ?_
  refine va_get (D := (dC, dI)) (ci := 0) (v := .ref h1) (C := RX0) (T := TX0) (N := 17) hx hb hG inGX0 hown hK hP 0 rfl rfl 0 (by decide) (hG _ wd_321) (fun _ h9 => h9) rfl dX0_pass_47 ?_
  have hPc := hP.sub (ws' := [(h1, .inr (10, [.ref h8, .ref h9, .ref h10, .ref h11, .ref h12, .ref h13, .int 0, .int 1, .int 0, .int 0, .int 0, .long 0]))]) [1] rfl
  have hDc := hD.sub (ws' := [(h1, .inr (10, [.ref h8, .ref h9, .ref h10, .ref h11, .ref h12, .ref h13, .int 0, .int 1, .int 0, .int 0, .int 0, .long 0]))]) [1] (by decide) rfl
  have hKc := hK.sub (tys' := []) [] rfl
  have hFc := va_free (wc := [(h1, .inr (10, [.ref h8, .ref h9, .ref h10, .ref h11, .ref h12, .ref h13, .int 0, .int 1, .int 0, .int 0, .int 0, .long 0]))]) hD hS hA [1] rfl
  refine va_calli (va_runV (As := []) (rest := []) ⟨hx, hb, hml, hown, hG⟩ (cX10_isLast_1 l dC dI h1 h8 h9 h10 h11 h12 h13 H.size) (cwV 0 hG (gV wd_698 wd_699 wd_700 wd_11 wd_701) rfl rfl rfl (by decide +kernel) ⟨Nat.le_of_ble_eq_true rfl, Nat.le_of_ble_eq_true rfl⟩) ⟨fun a U g mk q => by obtain ⟨q0, q1, qP, qK, qD⟩ := q; exact ⟨q0, q1, qP, va_K.moved (u := U) (U := U.calling g mk a) (Vm.Alike.refl U.vm) qK, qD⟩, va_recv hKc hPc (ci := 10) (q0 := 0) rfl rfl, fun U hU hW => ⟨rfl, by rw [hU], by rw [hU]; exact hPc, va_K.moved hW.alike hKc, hDc.weaken (fun _ _ _ _ => trivial)⟩⟩ rfl rfl hl.1 rfl (lv_room (Nat.le_of_ble_eq_true rfl)) dX0_pass_50 ⟨by decide, by decide⟩) hS (fun q _ h => hFc q h) hFc (fun r5 u6 t H1 locs ht hvm hw hB hz1 hk1 hS => ?_)
  have hw : r5 = 1 ∧ True := hw
  obtain ⟨er5, -⟩ := hw
  obtain ⟨hP1, hK1, hD1⟩ := hB
  rw [ht] at hP1
  have hK1 := va_K.moved hvm.symm hK1
  obtain ⟨hP, hD⟩ := va_join (wr := [(h0, .inr (0, [.ref h1, .ref h2, .ref h3, .ref h4, .ref h5, .ref h6, .ref h7, .int 0, .int 0, .int 0, .int 49152, .int 49152, .int 0, .int 0, .int 0, .int 0, .int 0])), (h8, .inl (y0, 2501, .inl f0)), (h11, .inl (y1, 2501, .inr (.inl g0)))]) (w1 := [(h1, .inr (10, [.ref h8, .ref h9, .ref h10, .ref h11, .ref h12, .ref h13, .int 0, .int 1, .int 0, .int 0, .int 0, .long 0]))]) hP hD [1] [0, 2, 3] rfl rfl (by decide) (by decide) hk1 hFc hP1 hD1
  have hK := (hK.sub (tys' := [(y0, .int), (y1, .long)]) [0, 1] rfl).app hK1
  generalize H1 = H at hP hS ⊢
  have hP : va_P (dC, dI) vwCl [(h0, .inr (0, [.ref h1, .ref h2, .ref h3, .ref h4, .ref h5, .ref h6, .ref h7, .int 0, .int 0, .int 0, .int 49152, .int 49152, .int 0, .int 0, .int 0, .int 0, .int 0])), (h8, .inl (y0, 2501, .inl f0)), (h11, .inl (y1, 2501, .inr (.inl g0))), (h1, .inr (10, [.ref h8, .ref h9, .ref h10, .ref h11, .ref h12, .ref h13, .int 0, .int 1, .int 0, .int 0, .int 0, .long 0]))] H := hP
  have hD : va_D A [(h0, .inr (0, [.ref h1, .ref h2, .ref h3, .ref h4, .ref h5, .ref h6, .ref h7, .int 0, .int 0, .int 0, .int 49152, .int 49152, .int 0, .int 0, .int 0, .int 0, .int 0])), (h8, .inl (y0, 2501, .inl f0)), (h11, .inl (y1, 2501, .inr (.inl g0))), (h1, .inr (10, [.ref h8, .ref h9, .ref h10, .ref h11, .ref h12, .ref h13, .int 0, .int 1, .int 0, .int 0, .int 0, .long 0]))] := hD
  have hK : va_K (dC, dI) vwCl [(y0, .int), (y1, .long)] s := hK
  subst er5
  refine lv_if_eq (tgt := 58) hx hb dX0_pass_53 (by decide) (fun c => absurd c (by decide)) (fun _ => ?_)
  refine lv_iconst (v := 1) hx hb dX0_pass_56 (by decide) ?_
  have hP9 := hP.sub (ws' := [(h0, .inr (0, [.ref h1, .ref h2, .ref h3, .ref h4, .ref h5, .ref h6, .ref h7, .int 0, .int 0, .int 0, .int 49152, .int 49152, .int 0, .int 0, .int 0, .int 0, .int 0])), (h1, .inr (10, [.ref h8, .ref h9, .ref h10, .ref h11, .ref h12, .ref h13, .int 0, .int 1, .int 0, .int 0, .int 0, .long 0])), (h8, .inl (y0, 2501, .inl f0)), (h11, .inl (y1, 2501, .inr (.inl g0)))]) [0, 3, 1, 2] rfl
  have hD9 := hD.sub (ws' := [(h0, .inr (0, [.ref h1, .ref h2, .ref h3, .ref h4, .ref h5, .ref h6, .ref h7, .int 0, .int 0, .int 0, .int 49152, .int 49152, .int 0, .int 0, .int 0, .int 0, .int 0])), (h1, .inr (10, [.ref h8, .ref h9, .ref h10, .ref h11, .ref h12, .ref h13, .int 0, .int 1, .int 0, .int 0, .int 0, .long 0])), (h8, .inl (y0, 2501, .inl f0)), (h11, .inl (y1, 2501, .inr (.inl g0)))]) [0, 3, 1, 2] (by decide) rfl
  have hK9 := hK.sub (tys' := [(y0, .int), (y1, .long)]) [0, 1] rfl
  exact W.zret (v := 1) hx hb hr rfl (fun t ht hW => ⟨⟨1, (), rfl, ⟨rfl, trivial⟩, by rw [ht]; exact hP9, va_K.moved hW.alike hK9, hD9⟩, hS.F ht⟩) hS.2.2 dX0_pass_57
set_option maxHeartbeats 4000000 in
set_option maxRecDepth 100000 in
theorem cX0_readLine_2 (l : Launch) (dC : Nat → ClassId) (dI : Nat → Nat → Nat) (h0 h1 h2 h3 h4 h5 h6 h7 h8 h9 h10 h11 h12 h13 : Nat) (y0 y1 : ClassId) (sz : Nat) (f0 : Nat → Int32) (g0 : Nat → Int64) (if0 : ∀ j, iv (f0 j) 0 0) (kf0_0 : f0 0 = 0) (kg0_0 : g0 0 = 0) : Met l yX0_readLine (Cond.code yX0_readLine cX0_readLine 4 (some .boolean) :: lw_G) ({ frames := 1, cells := 0, slots := 0, locals := 20 }) (va_Pc [.ref h0] (fun U => U.heap.size = sz ∧ va_P (dC, dI) vwCl [(h0, .inr (0, [.ref h1, .ref h2, .ref h3, .ref h4, .ref h5, .ref h6, .ref h7, .int 0, .int 1, .int 0, .int 49152, .int 49152, .int 0, .int 0, .int 0, .int 0, .int 0])), (h1, .inr (10, [.ref h8, .ref h9, .ref h10, .ref h11, .ref h12, .ref h13, .int 0, .int 1, .int 0, .int 0, .int 0, .long 0])), (h8, .inl (y0, 2501, .inl f0)), (h11, .inl (y1, 2501, .inr (.inl g0)))] U.heap ∧ va_K (dC, dI) vwCl [(y0, .int), (y1, .long)] U ∧ va_D (fun _ => True) [(h0, .inr (0, [.ref h1, .ref h2, .ref h3, .ref h4, .ref h5, .ref h6, .ref h7, .int 0, .int 1, .int 0, .int 49152, .int 49152, .int 0, .int 0, .int 0, .int 0, .int 0])), (h1, .inr (10, [.ref h8, .ref h9, .ref h10, .ref h11, .ref h12, .ref h13, .int 0, .int 1, .int 0, .int 0, .int 0, .long 0])), (h8, .inl (y0, 2501, .inl f0)), (h11, .inl (y1, 2501, .inr (.inl g0)))])) (va_Qi (fun (r : Int32) (u : Unit) => r = 1 ∧ True) (fun (u : Unit) (t : State) => va_P (dC, dI) vwCl [(h0, .inr (0, [.ref h1, .ref h2, .ref h3, .ref h4, .ref h5, .ref h6, .ref h7, .int 0, .int 1, .int 0, .int 49152, .int 49152, .int 0, .int 0, .int 0, .int 0, .int 0])), (h1, .inr (10, [.ref h8, .ref h9, .ref h10, .ref h11, .ref h12, .ref h13, .int 0, .int 1, .int 0, .int 0, .int 0, .long 0])), (h8, .inl (y0, 2501, .inl f0)), (h11, .inl (y1, 2501, .inr (.inl g0)))] t.heap ∧ va_K (dC, dI) vwCl [(y0, .int), (y1, .long)] t ∧ va_D (va_A [(h0, .inr (0, [.ref h1, .ref h2, .ref h3, .ref h4, .ref h5, .ref h6, .ref h7, .int 0, .int 1, .int 0, .int 49152, .int 49152, .int 0, .int 0, .int 0, .int 0, .int 0])), (h1, .inr (10, [.ref h8, .ref h9, .ref h10, .ref h11, .ref h12, .ref h13, .int 0, .int 1, .int 0, .int 0, .int 0, .long 0])), (h8, .inl (y0, 2501, .inl f0)), (h11, .inl (y1, 2501, .inr (.inl g0)))] sz) [(h0, .inr (0, [.ref h1, .ref h2, .ref h3, .ref h4, .ref h5, .ref h6, .ref h7, .int 0, .int 1, .int 0, .int 49152, .int 49152, .int 0, .int 0, .int 0, .int 0, .int 0])), (h1, .inr (10, [.ref h8, .ref h9, .ref h10, .ref h11, .ref h12, .ref h13, .int 0, .int 1, .int 0, .int 0, .int 0, .long 0])), (h8, .inl (y0, 2501, .inl f0)), (h11, .inl (y1, 2501, .inr (.inl g0)))]) (va_A [(h0, .inr (0, [.ref h1, .ref h2, .ref h3, .ref h4, .ref h5, .ref h6, .ref h7, .int 0, .int 1, .int 0, .int 49152, .int 49152, .int 0, .int 0, .int 0, .int 0, .int 0])), (h1, .inr (10, [.ref h8, .ref h9, .ref h10, .ref h11, .ref h12, .ref h13, .int 0, .int 1, .int 0, .int 0, .int 0, .long 0])), (h8, .inl (y0, 2501, .inl f0)), (h11, .inl (y1, 2501, .inr (.inl g0)))] sz)) 0 0 (va_A [(h0, .inr (0, [.ref h1, .ref h2, .ref h3, .ref h4, .ref h5, .ref h6, .ref h7, .int 0, .int 1, .int 0, .int 49152, .int 49152, .int 0, .int 0, .int 0, .int 0, .int 0])), (h1, .inr (10, [.ref h8, .ref h9, .ref h10, .ref h11, .ref h12, .ref h13, .int 0, .int 1, .int 0, .int 0, .int 0, .long 0])), (h8, .inl (y0, 2501, .inl f0)), (h11, .inl (y1, 2501, .inr (.inl g0)))] sz) := by
  refine Met.ofW (cc := cX0_readLine) (maxL := 4) (ret := (some .boolean)) (by decide) rfl ?_
  intro p e s m args below meth c s₁ B hml hv
  obtain ⟨rfl, hsz, hP, hK, hD0⟩ := hv
  have hx := B.exec
  have hb := B.bytes
  have hr := B.returns
  have hts0 := atoms_spec (ws := Cond.code yX0_readLine cX0_readLine 4 (some .boolean) :: lw_G) B.pre
  have hG : ∀ w ∈ lw_G, w.before _ s = true := fun w h => hts0 w (List.mem_cons_of_mem _ h)
  have hown : s.vm.findClass RX0 = some m.cls := findClass_of_methodNamed B.named
  have hlocks := B.notSynchronized
  subst hsz
  have hD := hD0.self (sz := s.heap.size)
  generalize hAe : va_A [(h0, .inr (0, [.ref h1, .ref h2, .ref h3, .ref h4, .ref h5, .ref h6, .ref h7, .int 0, .int 1, .int 0, .int 49152, .int 49152, .int 0, .int 0, .int 0, .int 0, .int 0])), (h1, .inr (10, [.ref h8, .ref h9, .ref h10, .ref h11, .ref h12, .ref h13, .int 0, .int 1, .int 0, .int 0, .int 0, .long 0])), (h8, .inl (y0, 2501, .inl f0)), (h11, .inl (y1, 2501, .inr (.inl g0)))] s.heap.size = A at hD ⊢
  have hA : ∀ q : Nat, s.heap.size ≤ q → A q := fun q h => by rw [← hAe]; exact Or.inr h
  have hS : va_S A s.heap s.heap [] := va_S.rf
  have hP : va_P (dC, dI) vwCl [(h0, .inr (0, [.ref h1, .ref h2, .ref h3, .ref h4, .ref h5, .ref h6, .ref h7, .int 0, .int 1, .int 0, .int 49152, .int 49152, .int 0, .int 0, .int 0, .int 0, .int 0])), (h1, .inr (10, [.ref h8, .ref h9, .ref h10, .ref h11, .ref h12, .ref h13, .int 0, .int 1, .int 0, .int 0, .int 0, .long 0])), (h8, .inl (y0, 2501, .inl f0)), (h11, .inl (y1, 2501, .inr (.inl g0)))] s.heap := hP
  have hl := lv_entry ([.ref h0]) (n := 4) (Nat.le_of_ble_eq_true rfl)
  rw [lg_entry_eq]
  generalize (lg_sl ([.ref h0]) ++ List.replicate (4 - (lg_sl ([.ref h0])).length) Slot.unset).toArray = ls at hl ⊢
  have hl : lv_has ls 4 [(0, .ref h0)] := hl
  refine lv_aload_n hx hb dX0_readLine_0 rfl (lv_at hl 0 rfl) ?_
  refine va_get (D := (dC, dI)) (ci := 0) (v := .ref h1) (C := RX0) (T := TX0) (N := 17) hx hb hG inGX0 hown hK hP 0 rfl rfl 0 (by decide) (hG _ wd_321) (fun _ h9 => h9) rfl dX0_readLine_1 ?_
  have hPc := hP.sub (ws' := [(h1, .inr (10, [.ref h8, .ref h9, .ref h10, .ref h11, .ref h12, .ref h13, .int 0, .int 1, .int 0, .int 0, .int 0, .long 0])), (h8, .inl (y0, 2501, .inl f0))]) [1, 2] rfl
  have hDc := hD.sub (ws' := [(h1, .inr (10, [.ref h8, .ref h9, .ref h10, .ref h11, .ref h12, .ref h13, .int 0, .int 1, .int 0, .int 0, .int 0, .long 0])), (h8, .inl (y0, 2501, .inl f0))]) [1, 2] (by decide) rfl
  have hKc := hK.sub (tys' := [(y0, .int)]) [0] rfl
  have hFc := va_free (wc := [(h1, .inr (10, [.ref h8, .ref h9, .ref h10, .ref h11, .ref h12, .ref h13, .int 0, .int 1, .int 0, .int 0, .int 0, .long 0])), (h8, .inl (y0, 2501, .inl f0))]) hD hS hA [1, 2] rfl
  refine va_calli (va_runV (As := []) (rest := []) ⟨hx, hb, hml, hown, hG⟩ (cX10_kind_1 l dC dI h1 h8 h9 h10 h11 h12 h13 y0 s.heap.size f0 if0 kf0_0) (cwV 0 hG (gV wd_556 wd_557 wd_558 wd_11 wd_559) rfl rfl rfl (by decide +kernel) ⟨Nat.le_of_ble_eq_true rfl, Nat.le_of_ble_eq_true rfl⟩) ⟨fun a U g mk q => by obtain ⟨q0, q1, qP, qK, qD⟩ := q; exact ⟨q0, q1, qP, va_K.moved (u := U) (U := U.calling g mk a) (Vm.Alike.refl U.vm) qK, qD⟩, va_recv hKc hPc (ci := 10) (q0 := 0) rfl rfl, fun U hU hW => ⟨rfl, by rw [hU], by rw [hU]; exact hPc, va_K.moved hW.alike hKc, hDc.weaken (fun _ _ _ _ => trivial)⟩⟩ rfl rfl hl.1 rfl (lv_room (Nat.le_of_ble_eq_true rfl)) dX0_readLine_4 ⟨by decide, by decide⟩) hS (fun q _ h => hFc q h) hFc (fun r1 u2 t H1 locs ht hvm hw hB hz1 hk1 hS => ?_)
  have hw : r1 = 0 ∧ True := hw
  obtain ⟨er1, -⟩ := hw
  obtain ⟨hP1, hK1, hD1⟩ := hB
  rw [ht] at hP1
  have hK1 := va_K.moved hvm.symm hK1
  obtain ⟨hP, hD⟩ := va_join (wr := [(h0, .inr (0, [.ref h1, .ref h2, .ref h3, .ref h4, .ref h5, .ref h6, .ref h7, .int 0, .int 1, .int 0, .int 49152, .int 49152, .int 0, .int 0, .int 0, .int 0, .int 0])), (h11, .inl (y1, 2501, .inr (.inl g0)))]) (w1 := [(h1, .inr (10, [.ref h8, .ref h9, .ref h10, .ref h11, .ref h12, .ref h13, .int 0, .int 1, .int 0, .int 0, .int 0, .long 0])), (h8, .inl (y0, 2501, .inl f0))]) hP hD [1, 2] [0, 3] rfl rfl (by decide) (by decide) hk1 hFc hP1 hD1
  have hK := (hK.sub (tys' := [(y1, .long)]) [1] rfl).app hK1
  generalize H1 = H at hP hS ⊢
  have hP : va_P (dC, dI) vwCl [(h0, .inr (0, [.ref h1, .ref h2, .ref h3, .ref h4, .ref h5, .ref h6, .ref h7, .int 0, .int 1, .int 0, .int 49152, .int 49152, .int 0, .int 0, .int 0, .int 0, .int 0])), (h11, .inl (y1, 2501, .inr (.inl g0))), (h1, .inr (10, [.ref h8, .ref h9, .ref h10, .ref h11, .ref h12, .ref h13, .int 0, .int 1, .int 0, .int 0, .int 0, .long 0])), (h8, .inl (y0, 2501, .inl f0))] H := hP
  have hD : va_D A [(h0, .inr (0, [.ref h1, .ref h2, .ref h3, .ref h4, .ref h5, .ref h6, .ref h7, .int 0, .int 1, .int 0, .int 49152, .int 49152, .int 0, .int 0, .int 0, .int 0, .int 0])), (h11, .inl (y1, 2501, .inr (.inl g0))), (h1, .inr (10, [.ref h8, .ref h9, .ref h10, .ref h11, .ref h12, .ref h13, .int 0, .int 1, .int 0, .int 0, .int 0, .long 0])), (h8, .inl (y0, 2501, .inl f0))] := hD
  have hK : va_K (dC, dI) vwCl [(y1, .long), (y0, .int)] s := hK
  subst er1
  refine lv_iconst (v := 2) hx hb dX0_readLine_7 (by decide) ?_
  refine lv_icmp_ne (tgt := 15) hx hb dX0_readLine_8 (by decide) (fun _ => ?_) (fun c => absurd c (by decide))
  refine lv_iconst (v := 0) hx hb dX0_readLine_15 (by decide) ?_
  refine lv_istore_n (lv' := [(1, .int 0), (0, .ref h0)]) hx hb dX0_readLine_16 rfl hl (by decide) rfl (fun ls hl => ?_)
  refine lv_aload_n hx hb dX0_readLine_17 rfl (lv_at hl 1 rfl) ?_
  refine va_get (D := (dC, dI)) (ci := 0) (v := .ref h1) (C := RX0) (T := TX0) (N := 17) hx hb hG inGX0 hown hK hP 0 rfl rfl 0 (by decide) (hG _ wd_321) (fun _ h9 => h9) rfl dX0_readLine_18 ?_
  have hPc := hP.sub (ws' := [(h1, .inr (10, [.ref h8, .ref h9, .ref h10, .ref h11, .ref h12, .ref h13, .int 0, .int 1, .int 0, .int 0, .int 0, .long 0])), (h11, .inl (y1, 2501, .inr (.inl g0)))]) [2, 1] rfl
  have hDc := hD.sub (ws' := [(h1, .inr (10, [.ref h8, .ref h9, .ref h10, .ref h11, .ref h12, .ref h13, .int 0, .int 1, .int 0, .int 0, .int 0, .long 0])), (h11, .inl (y1, 2501, .inr (.inl g0)))]) [2, 1] (by decide) rfl
  have hKc := hK.sub (tys' := [(y1, .long)]) [0] rfl
  have hFc := va_free (wc := [(h1, .inr (10, [.ref h8, .ref h9, .ref h10, .ref h11, .ref h12, .ref h13, .int 0, .int 1, .int 0, .int 0, .int 0, .long 0])), (h11, .inl (y1, 2501, .inr (.inl g0)))]) hD hS hA [2, 1] rfl
  refine va_calll (va_runV (As := []) (rest := []) ⟨hx, hb, hml, hown, hG⟩ (cX10_key_1 l dC dI h1 h8 h9 h10 h11 h12 h13 y1 H.size g0 kg0_0) (cwV 0 hG (gV wd_560 wd_561 wd_562 wd_11 wd_563) rfl rfl rfl (by decide +kernel) ⟨Nat.le_of_ble_eq_true rfl, Nat.le_of_ble_eq_true rfl⟩) ⟨fun a U g mk q => by obtain ⟨q0, q1, qP, qK, qD⟩ := q; exact ⟨q0, q1, qP, va_K.moved (u := U) (U := U.calling g mk a) (Vm.Alike.refl U.vm) qK, qD⟩, va_recv hKc hPc (ci := 10) (q0 := 0) rfl rfl, fun U hU hW => ⟨rfl, by rw [hU], by rw [hU]; exact hPc, va_K.moved hW.alike hKc, hDc.weaken (fun _ _ _ _ => trivial)⟩⟩ rfl rfl hl.1 rfl (lv_room (Nat.le_of_ble_eq_true rfl)) dX0_readLine_21 ⟨by decide, by decide⟩) hS (fun q _ h => hFc q h) hFc (fun r3 u4 t H1 locs ht hvm hw hB hz1 hk1 hS => ?_)
  have hw : r3 = 0 ∧ True := hw
  obtain ⟨er3, -⟩ := hw
  obtain ⟨hP1, hK1, hD1⟩ := hB
  rw [ht] at hP1
  have hK1 := va_K.moved hvm.symm hK1
  obtain ⟨hP, hD⟩ := va_join (wr := [(h0, .inr (0, [.ref h1, .ref h2, .ref h3, .ref h4, .ref h5, .ref h6, .ref h7, .int 0, .int 1, .int 0, .int 49152, .int 49152, .int 0, .int 0, .int 0, .int 0, .int 0])), (h8, .inl (y0, 2501, .inl f0))]) (w1 := [(h1, .inr (10, [.ref h8, .ref h9, .ref h10, .ref h11, .ref h12, .ref h13, .int 0, .int 1, .int 0, .int 0, .int 0, .long 0])), (h11, .inl (y1, 2501, .inr (.inl g0)))]) hP hD [2, 1] [0, 3] rfl rfl (by decide) (by decide) hk1 hFc hP1 hD1
  have hK := (hK.sub (tys' := [(y0, .int)]) [1] rfl).app hK1
  generalize H1 = H at hP hS ⊢
  have hP : va_P (dC, dI) vwCl [(h0, .inr (0, [.ref h1, .ref h2, .ref h3, .ref h4, .ref h5, .ref h6, .ref h7, .int 0, .int 1, .int 0, .int 49152, .int 49152, .int 0, .int 0, .int 0, .int 0, .int 0])), (h8, .inl (y0, 2501, .inl f0)), (h1, .inr (10, [.ref h8, .ref h9, .ref h10, .ref h11, .ref h12, .ref h13, .int 0, .int 1, .int 0, .int 0, .int 0, .long 0])), (h11, .inl (y1, 2501, .inr (.inl g0)))] H := hP
  have hD : va_D A [(h0, .inr (0, [.ref h1, .ref h2, .ref h3, .ref h4, .ref h5, .ref h6, .ref h7, .int 0, .int 1, .int 0, .int 49152, .int 49152, .int 0, .int 0, .int 0, .int 0, .int 0])), (h8, .inl (y0, 2501, .inl f0)), (h1, .inr (10, [.ref h8, .ref h9, .ref h10, .ref h11, .ref h12, .ref h13, .int 0, .int 1, .int 0, .int 0, .int 0, .long 0])), (h11, .inl (y1, 2501, .inr (.inl g0)))] := hD
  have hK : va_K (dC, dI) vwCl [(y0, .int), (y1, .long)] s := hK
  subst er3
  refine lv_lstore_n (lv' := [(2, .long 0), (1, .int 0), (0, .ref h0)]) hx hb dX0_readLine_24 rfl hl (by decide) rfl (fun ls hl => ?_)
  refine lv_iload_n hx hb dX0_readLine_25 rfl (lv_at hl 1 rfl) ?_
  refine lv_if_eq (tgt := 99) hx hb dX0_readLine_26 (by decide) (fun _ => ?_) (fun c => absurd (by decide) c)
  refine lv_aload_n hx hb dX0_readLine_99 rfl (lv_at hl 2 rfl) ?_
  refine lv_aload_n hx hb dX0_readLine_100 rfl (lv_at hl 2 rfl) ?_
  refine va_get (D := (dC, dI)) (ci := 0) (v := .int 49152) (C := RX0) (T := TX0) (N := 17) hx hb hG inGX0 hown hK hP 0 rfl rfl 10 (by decide) (hG _ wd_331) (fun _ h9 => h9) rfl dX0_readLine_101 ?_
  refine va_put (D := (dC, dI)) (ci := 0) (v := .int 49152) (ty := .int) (C := RX0) (T := TX0) (N := 17) hx hb hG inGX0 tyX0 tyX0_ok nmX0 hown hK hP hD hS 0 rfl rfl 11 (by decide) (hG _ wd_332) (fun _ h9 => h9) rfl (by decide +kernel) rfl rfl (Nat.le_of_ble_eq_true rfl) dX0_readLine_104 (fun H locs hP hD hS => ?_)
  have hP : va_P (dC, dI) vwCl [(h0, .inr (0, [.ref h1, .ref h2, .ref h3, .ref h4, .ref h5, .ref h6, .ref h7, .int 0, .int 1, .int 0, .int 49152, .int 49152, .int 0, .int 0, .int 0, .int 0, .int 0])), (h8, .inl (y0, 2501, .inl f0)), (h1, .inr (10, [.ref h8, .ref h9, .ref h10, .ref h11, .ref h12, .ref h13, .int 0, .int 1, .int 0, .int 0, .int 0, .long 0])), (h11, .inl (y1, 2501, .inr (.inl g0)))] H := hP
  have hD : va_D A [(h0, .inr (0, [.ref h1, .ref h2, .ref h3, .ref h4, .ref h5, .ref h6, .ref h7, .int 0, .int 1, .int 0, .int 49152, .int 49152, .int 0, .int 0, .int 0, .int 0, .int 0])), (h8, .inl (y0, 2501, .inl f0)), (h1, .inr (10, [.ref h8, .ref h9, .ref h10, .ref h11, .ref h12, .ref h13, .int 0, .int 1, .int 0, .int 0, .int 0, .long 0])), (h11, .inl (y1, 2501, .inr (.inl g0)))] := hD
  refine lv_aload_n hx hb dX0_readLine_107 rfl (lv_at hl 2 rfl) ?_
  refine va_get (D := (dC, dI)) (ci := 0) (v := .ref h1) (C := RX0) (T := TX0) (N := 17) hx hb hG inGX0 hown hK hP 0 rfl rfl 0 (by decide) (hG _ wd_321) (fun _ h9 => h9) rfl dX0_readLine_108 ?_
  have hPc := hP.sub (ws' := [(h1, .inr (10, [.ref h8, .ref h9, .ref h10, .ref h11, .ref h12, .ref h13, .int 0, .int 1, .int 0, .int 0, .int 0, .long 0])), (h8, .inl (y0, 2501, .inl f0))]) [2, 1] rfl
  have hDc := hD.sub (ws' := [(h1, .inr (10, [.ref h8, .ref h9, .ref h10, .ref h11, .ref h12, .ref h13, .int 0, .int 1, .int 0, .int 0, .int 0, .long 0])), (h8, .inl (y0, 2501, .inl f0))]) [2, 1] (by decide) rfl
  have hKc := hK.sub (tys' := [(y0, .int)]) [0] rfl
  have hFc := va_free (wc := [(h1, .inr (10, [.ref h8, .ref h9, .ref h10, .ref h11, .ref h12, .ref h13, .int 0, .int 1, .int 0, .int 0, .int 0, .long 0])), (h8, .inl (y0, 2501, .inl f0))]) hD hS hA [2, 1] rfl
  refine va_calli (va_runV (As := []) (rest := []) ⟨hx, hb, hml, hown, hG⟩ (cX10_kind_1 l dC dI h1 h8 h9 h10 h11 h12 h13 y0 H.size f0 if0 kf0_0) (cwV 0 hG (gV wd_556 wd_557 wd_558 wd_11 wd_559) rfl rfl rfl (by decide +kernel) ⟨Nat.le_of_ble_eq_true rfl, Nat.le_of_ble_eq_true rfl⟩) ⟨fun a U g mk q => by obtain ⟨q0, q1, qP, qK, qD⟩ := q; exact ⟨q0, q1, qP, va_K.moved (u := U) (U := U.calling g mk a) (Vm.Alike.refl U.vm) qK, qD⟩, va_recv hKc hPc (ci := 10) (q0 := 0) rfl rfl, fun U hU hW => ⟨rfl, by rw [hU], by rw [hU]; exact hPc, va_K.moved hW.alike hKc, hDc.weaken (fun _ _ _ _ => trivial)⟩⟩ rfl rfl hl.1 rfl (lv_room (Nat.le_of_ble_eq_true rfl)) dX0_readLine_111 ⟨by decide, by decide⟩) hS (fun q _ h => hFc q h) hFc (fun r5 u6 t H1 locs ht hvm hw hB hz1 hk1 hS => ?_)
  have hw : r5 = 0 ∧ True := hw
  obtain ⟨er5, -⟩ := hw
  obtain ⟨hP1, hK1, hD1⟩ := hB
  rw [ht] at hP1
  have hK1 := va_K.moved hvm.symm hK1
  obtain ⟨hP, hD⟩ := va_join (wr := [(h0, .inr (0, [.ref h1, .ref h2, .ref h3, .ref h4, .ref h5, .ref h6, .ref h7, .int 0, .int 1, .int 0, .int 49152, .int 49152, .int 0, .int 0, .int 0, .int 0, .int 0])), (h11, .inl (y1, 2501, .inr (.inl g0)))]) (w1 := [(h1, .inr (10, [.ref h8, .ref h9, .ref h10, .ref h11, .ref h12, .ref h13, .int 0, .int 1, .int 0, .int 0, .int 0, .long 0])), (h8, .inl (y0, 2501, .inl f0))]) hP hD [2, 1] [0, 3] rfl rfl (by decide) (by decide) hk1 hFc hP1 hD1
  have hK := (hK.sub (tys' := [(y1, .long)]) [1] rfl).app hK1
  generalize H1 = H at hP hS ⊢
  have hP : va_P (dC, dI) vwCl [(h0, .inr (0, [.ref h1, .ref h2, .ref h3, .ref h4, .ref h5, .ref h6, .ref h7, .int 0, .int 1, .int 0, .int 49152, .int 49152, .int 0, .int 0, .int 0, .int 0, .int 0])), (h11, .inl (y1, 2501, .inr (.inl g0))), (h1, .inr (10, [.ref h8, .ref h9, .ref h10, .ref h11, .ref h12, .ref h13, .int 0, .int 1, .int 0, .int 0, .int 0, .long 0])), (h8, .inl (y0, 2501, .inl f0))] H := hP
  have hD : va_D A [(h0, .inr (0, [.ref h1, .ref h2, .ref h3, .ref h4, .ref h5, .ref h6, .ref h7, .int 0, .int 1, .int 0, .int 49152, .int 49152, .int 0, .int 0, .int 0, .int 0, .int 0])), (h11, .inl (y1, 2501, .inr (.inl g0))), (h1, .inr (10, [.ref h8, .ref h9, .ref h10, .ref h11, .ref h12, .ref h13, .int 0, .int 1, .int 0, .int 0, .int 0, .long 0])), (h8, .inl (y0, 2501, .inl f0))] := hD
  have hK : va_K (dC, dI) vwCl [(y1, .long), (y0, .int)] s := hK
  subst er5
  refine lv_if_eq (tgt := 126) hx hb dX0_readLine_114 (by decide) (fun _ => ?_) (fun c => absurd (by decide) c)
  refine lv_aload_n hx hb dX0_readLine_126 rfl (lv_at hl 2 rfl) ?_
  refine va_get (D := (dC, dI)) (ci := 0) (v := .ref h1) (C := RX0) (T := TX0) (N := 17) hx hb hG inGX0 hown hK hP 0 rfl rfl 0 (by decide) (hG _ wd_321) (fun _ h9 => h9) rfl dX0_readLine_127 ?_
  have hPc := hP.sub (ws' := [(h1, .inr (10, [.ref h8, .ref h9, .ref h10, .ref h11, .ref h12, .ref h13, .int 0, .int 1, .int 0, .int 0, .int 0, .long 0])), (h8, .inl (y0, 2501, .inl f0))]) [2, 3] rfl
  have hDc := hD.sub (ws' := [(h1, .inr (10, [.ref h8, .ref h9, .ref h10, .ref h11, .ref h12, .ref h13, .int 0, .int 1, .int 0, .int 0, .int 0, .long 0])), (h8, .inl (y0, 2501, .inl f0))]) [2, 3] (by decide) rfl
  have hKc := hK.sub (tys' := [(y0, .int)]) [1] rfl
  have hFc := va_free (wc := [(h1, .inr (10, [.ref h8, .ref h9, .ref h10, .ref h11, .ref h12, .ref h13, .int 0, .int 1, .int 0, .int 0, .int 0, .long 0])), (h8, .inl (y0, 2501, .inl f0))]) hD hS hA [2, 3] rfl
  refine va_calli (va_runV (As := []) (rest := []) ⟨hx, hb, hml, hown, hG⟩ (cX10_kind_1 l dC dI h1 h8 h9 h10 h11 h12 h13 y0 H.size f0 if0 kf0_0) (cwV 0 hG (gV wd_556 wd_557 wd_558 wd_11 wd_559) rfl rfl rfl (by decide +kernel) ⟨Nat.le_of_ble_eq_true rfl, Nat.le_of_ble_eq_true rfl⟩) ⟨fun a U g mk q => by obtain ⟨q0, q1, qP, qK, qD⟩ := q; exact ⟨q0, q1, qP, va_K.moved (u := U) (U := U.calling g mk a) (Vm.Alike.refl U.vm) qK, qD⟩, va_recv hKc hPc (ci := 10) (q0 := 0) rfl rfl, fun U hU hW => ⟨rfl, by rw [hU], by rw [hU]; exact hPc, va_K.moved hW.alike hKc, hDc.weaken (fun _ _ _ _ => trivial)⟩⟩ rfl rfl hl.1 rfl (lv_room (Nat.le_of_ble_eq_true rfl)) dX0_readLine_130 ⟨by decide, by decide⟩) hS (fun q _ h => hFc q h) hFc (fun r7 u8 t H1 locs ht hvm hw hB hz1 hk1 hS => ?_)
  have hw : r7 = 0 ∧ True := hw
  obtain ⟨er7, -⟩ := hw
  obtain ⟨hP1, hK1, hD1⟩ := hB
  rw [ht] at hP1
  have hK1 := va_K.moved hvm.symm hK1
  obtain ⟨hP, hD⟩ := va_join (wr := [(h0, .inr (0, [.ref h1, .ref h2, .ref h3, .ref h4, .ref h5, .ref h6, .ref h7, .int 0, .int 1, .int 0, .int 49152, .int 49152, .int 0, .int 0, .int 0, .int 0, .int 0])), (h11, .inl (y1, 2501, .inr (.inl g0)))]) (w1 := [(h1, .inr (10, [.ref h8, .ref h9, .ref h10, .ref h11, .ref h12, .ref h13, .int 0, .int 1, .int 0, .int 0, .int 0, .long 0])), (h8, .inl (y0, 2501, .inl f0))]) hP hD [2, 3] [0, 1] rfl rfl (by decide) (by decide) hk1 hFc hP1 hD1
  have hK := (hK.sub (tys' := [(y1, .long)]) [0] rfl).app hK1
  generalize H1 = H at hP hS ⊢
  have hP : va_P (dC, dI) vwCl [(h0, .inr (0, [.ref h1, .ref h2, .ref h3, .ref h4, .ref h5, .ref h6, .ref h7, .int 0, .int 1, .int 0, .int 49152, .int 49152, .int 0, .int 0, .int 0, .int 0, .int 0])), (h11, .inl (y1, 2501, .inr (.inl g0))), (h1, .inr (10, [.ref h8, .ref h9, .ref h10, .ref h11, .ref h12, .ref h13, .int 0, .int 1, .int 0, .int 0, .int 0, .long 0])), (h8, .inl (y0, 2501, .inl f0))] H := hP
  have hD : va_D A [(h0, .inr (0, [.ref h1, .ref h2, .ref h3, .ref h4, .ref h5, .ref h6, .ref h7, .int 0, .int 1, .int 0, .int 49152, .int 49152, .int 0, .int 0, .int 0, .int 0, .int 0])), (h11, .inl (y1, 2501, .inr (.inl g0))), (h1, .inr (10, [.ref h8, .ref h9, .ref h10, .ref h11, .ref h12, .ref h13, .int 0, .int 1, .int 0, .int 0, .int 0, .long 0])), (h8, .inl (y0, 2501, .inl f0))] := hD
  have hK : va_K (dC, dI) vwCl [(y1, .long), (y0, .int)] s := hK
  subst er7
  refine lv_if_eq (tgt := 149) hx hb dX0_readLine_133 (by decide) (fun _ => ?_) (fun c => absurd (by decide) c)
  refine lv_aload_n hx hb dX0_readLine_149 rfl (lv_at hl 2 rfl) ?_
  refine va_get (D := (dC, dI)) (ci := 0) (v := .int 49152) (C := RX0) (T := TX0) (N := 17) hx hb hG inGX0 hown hK hP 0 rfl rfl 10 (by decide) (hG _ wd_331) (fun _ h9 => h9) rfl dX0_readLine_150 ?_
  refine lv_ldc hx hb hown (hG _ wd_693) dX0_readLine_153 ?_
  refine lv_icmp_le (tgt := 171) hx hb dX0_readLine_155 (by decide) (fun _ => ?_) (fun c => absurd (by decide) c)
  refine lv_iload_n hx hb dX0_readLine_171 rfl (lv_at hl 1 rfl) ?_
  refine lv_if_eq (tgt := 201) hx hb dX0_readLine_172 (by decide) (fun _ => ?_) (fun c => absurd (by decide) c)
  refine lv_iconst (v := 1) hx hb dX0_readLine_201 (by decide) ?_
  have hP9 := hP.sub (ws' := [(h0, .inr (0, [.ref h1, .ref h2, .ref h3, .ref h4, .ref h5, .ref h6, .ref h7, .int 0, .int 1, .int 0, .int 49152, .int 49152, .int 0, .int 0, .int 0, .int 0, .int 0])), (h1, .inr (10, [.ref h8, .ref h9, .ref h10, .ref h11, .ref h12, .ref h13, .int 0, .int 1, .int 0, .int 0, .int 0, .long 0])), (h8, .inl (y0, 2501, .inl f0)), (h11, .inl (y1, 2501, .inr (.inl g0)))]) [0, 2, 3, 1] rfl
  have hD9 := hD.sub (ws' := [(h0, .inr (0, [.ref h1, .ref h2, .ref h3, .ref h4, .ref h5, .ref h6, .ref h7, .int 0, .int 1, .int 0, .int 49152, .int 49152, .int 0, .int 0, .int 0, .int 0, .int 0])), (h1, .inr (10, [.ref h8, .ref h9, .ref h10, .ref h11, .ref h12, .ref h13, .int 0, .int 1, .int 0, .int 0, .int 0, .long 0])), (h8, .inl (y0, 2501, .inl f0)), (h11, .inl (y1, 2501, .inr (.inl g0)))]) [0, 2, 3, 1] (by decide) rfl
  have hK9 := hK.sub (tys' := [(y0, .int), (y1, .long)]) [1, 0] rfl
  exact W.zret (v := 1) hx hb hr rfl (fun t ht hW => ⟨⟨1, (), rfl, ⟨rfl, trivial⟩, by rw [ht]; exact hP9, va_K.moved hW.alike hK9, hD9⟩, hS.F ht⟩) hS.2.2 dX0_readLine_202
set_option maxHeartbeats 4000000 in
set_option maxRecDepth 100000 in
theorem cX0_pass_2 (l : Launch) (dC : Nat → ClassId) (dI : Nat → Nat → Nat) (h0 h1 h2 h3 h4 h5 h6 h7 h8 h9 h10 h11 h12 h13 : Nat) (y0 y1 : ClassId) (sz : Nat) (f0 : Nat → Int32) (g0 : Nat → Int64) (if0 : ∀ j, iv (f0 j) 0 0) (kf0_0 : f0 0 = 0) (kg0_0 : g0 0 = 0) : Met l yX0_pass (Cond.code yX0_pass cX0_pass 3 (some .boolean) :: lw_G) ({ frames := 2, cells := 0, slots := 0, locals := 43 }) (va_Pc [.ref h0, .int 1] (fun U => U.heap.size = sz ∧ va_P (dC, dI) vwCl [(h0, .inr (0, [.ref h1, .ref h2, .ref h3, .ref h4, .ref h5, .ref h6, .ref h7, .int 0, .int 0, .int 0, .int 49152, .int 49152, .int 0, .int 0, .int 0, .int 0, .int 0])), (h1, .inr (10, [.ref h8, .ref h9, .ref h10, .ref h11, .ref h12, .ref h13, .int 0, .int 1, .int 0, .int 0, .int 0, .long 0])), (h8, .inl (y0, 2501, .inl f0)), (h11, .inl (y1, 2501, .inr (.inl g0)))] U.heap ∧ va_K (dC, dI) vwCl [(y0, .int), (y1, .long)] U ∧ va_D (fun _ => True) [(h0, .inr (0, [.ref h1, .ref h2, .ref h3, .ref h4, .ref h5, .ref h6, .ref h7, .int 0, .int 0, .int 0, .int 49152, .int 49152, .int 0, .int 0, .int 0, .int 0, .int 0])), (h1, .inr (10, [.ref h8, .ref h9, .ref h10, .ref h11, .ref h12, .ref h13, .int 0, .int 1, .int 0, .int 0, .int 0, .long 0])), (h8, .inl (y0, 2501, .inl f0)), (h11, .inl (y1, 2501, .inr (.inl g0)))])) (va_Qi (fun (r : Int32) (u : Unit) => r = 1 ∧ True) (fun (u : Unit) (t : State) => va_P (dC, dI) vwCl [(h0, .inr (0, [.ref h1, .ref h2, .ref h3, .ref h4, .ref h5, .ref h6, .ref h7, .int 0, .int 1, .int 0, .int 49152, .int 49152, .int 0, .int 0, .int 0, .int 0, .int 0])), (h1, .inr (10, [.ref h8, .ref h9, .ref h10, .ref h11, .ref h12, .ref h13, .int 0, .int 1, .int 0, .int 0, .int 0, .long 0])), (h8, .inl (y0, 2501, .inl f0)), (h11, .inl (y1, 2501, .inr (.inl g0)))] t.heap ∧ va_K (dC, dI) vwCl [(y0, .int), (y1, .long)] t ∧ va_D (va_A [(h0, .inr (0, [.ref h1, .ref h2, .ref h3, .ref h4, .ref h5, .ref h6, .ref h7, .int 0, .int 0, .int 0, .int 49152, .int 49152, .int 0, .int 0, .int 0, .int 0, .int 0])), (h1, .inr (10, [.ref h8, .ref h9, .ref h10, .ref h11, .ref h12, .ref h13, .int 0, .int 1, .int 0, .int 0, .int 0, .long 0])), (h8, .inl (y0, 2501, .inl f0)), (h11, .inl (y1, 2501, .inr (.inl g0)))] sz) [(h0, .inr (0, [.ref h1, .ref h2, .ref h3, .ref h4, .ref h5, .ref h6, .ref h7, .int 0, .int 1, .int 0, .int 49152, .int 49152, .int 0, .int 0, .int 0, .int 0, .int 0])), (h1, .inr (10, [.ref h8, .ref h9, .ref h10, .ref h11, .ref h12, .ref h13, .int 0, .int 1, .int 0, .int 0, .int 0, .long 0])), (h8, .inl (y0, 2501, .inl f0)), (h11, .inl (y1, 2501, .inr (.inl g0)))]) (va_A [(h0, .inr (0, [.ref h1, .ref h2, .ref h3, .ref h4, .ref h5, .ref h6, .ref h7, .int 0, .int 0, .int 0, .int 49152, .int 49152, .int 0, .int 0, .int 0, .int 0, .int 0])), (h1, .inr (10, [.ref h8, .ref h9, .ref h10, .ref h11, .ref h12, .ref h13, .int 0, .int 1, .int 0, .int 0, .int 0, .long 0])), (h8, .inl (y0, 2501, .inl f0)), (h11, .inl (y1, 2501, .inr (.inl g0)))] sz)) 0 0 (va_A [(h0, .inr (0, [.ref h1, .ref h2, .ref h3, .ref h4, .ref h5, .ref h6, .ref h7, .int 0, .int 0, .int 0, .int 49152, .int 49152, .int 0, .int 0, .int 0, .int 0, .int 0])), (h1, .inr (10, [.ref h8, .ref h9, .ref h10, .ref h11, .ref h12, .ref h13, .int 0, .int 1, .int 0, .int 0, .int 0, .long 0])), (h8, .inl (y0, 2501, .inl f0)), (h11, .inl (y1, 2501, .inr (.inl g0)))] sz) := by
  refine Met.ofW (cc := cX0_pass) (maxL := 3) (ret := (some .boolean)) (by decide) rfl ?_
  intro p e s m args below meth c s₁ B hml hv
  obtain ⟨rfl, hsz, hP, hK, hD0⟩ := hv
  have hx := B.exec
  have hb := B.bytes
  have hr := B.returns
  have hts0 := atoms_spec (ws := Cond.code yX0_pass cX0_pass 3 (some .boolean) :: lw_G) B.pre
  have hG : ∀ w ∈ lw_G, w.before _ s = true := fun w h => hts0 w (List.mem_cons_of_mem _ h)
  have hown : s.vm.findClass RX0 = some m.cls := findClass_of_methodNamed B.named
  have hlocks := B.notSynchronized
  subst hsz
  have hD := hD0.self (sz := s.heap.size)
  generalize hAe : va_A [(h0, .inr (0, [.ref h1, .ref h2, .ref h3, .ref h4, .ref h5, .ref h6, .ref h7, .int 0, .int 0, .int 0, .int 49152, .int 49152, .int 0, .int 0, .int 0, .int 0, .int 0])), (h1, .inr (10, [.ref h8, .ref h9, .ref h10, .ref h11, .ref h12, .ref h13, .int 0, .int 1, .int 0, .int 0, .int 0, .long 0])), (h8, .inl (y0, 2501, .inl f0)), (h11, .inl (y1, 2501, .inr (.inl g0)))] s.heap.size = A at hD ⊢
  have hA : ∀ q : Nat, s.heap.size ≤ q → A q := fun q h => by rw [← hAe]; exact Or.inr h
  have hS : va_S A s.heap s.heap [] := va_S.rf
  have hP : va_P (dC, dI) vwCl [(h0, .inr (0, [.ref h1, .ref h2, .ref h3, .ref h4, .ref h5, .ref h6, .ref h7, .int 0, .int 0, .int 0, .int 49152, .int 49152, .int 0, .int 0, .int 0, .int 0, .int 0])), (h1, .inr (10, [.ref h8, .ref h9, .ref h10, .ref h11, .ref h12, .ref h13, .int 0, .int 1, .int 0, .int 0, .int 0, .long 0])), (h8, .inl (y0, 2501, .inl f0)), (h11, .inl (y1, 2501, .inr (.inl g0)))] s.heap := hP
  have hl := lv_entry ([.ref h0, .int 1]) (n := 3) (Nat.le_of_ble_eq_true rfl)
  rw [lg_entry_eq]
  generalize (lg_sl ([.ref h0, .int 1]) ++ List.replicate (3 - (lg_sl ([.ref h0, .int 1])).length) Slot.unset).toArray = ls at hl ⊢
  have hl : lv_has ls 3 [(0, .ref h0), (1, .int 1)] := hl
  refine lv_aload_n hx hb dX0_pass_0 rfl (lv_at hl 0 rfl) ?_
  refine lv_iload_n hx hb dX0_pass_1 rfl (lv_at hl 1 rfl) ?_
  refine va_put (D := (dC, dI)) (ci := 0) (v := .int 1) (ty := .boolean) (C := RX0) (T := TX0) (N := 17) hx hb hG inGX0 tyX0 tyX0_ok nmX0 hown hK hP hD hS 0 rfl rfl 8 (by decide) (hG _ wd_329) (fun _ h9 => h9) rfl (by decide +kernel) rfl rfl (Nat.le_of_ble_eq_true rfl) dX0_pass_2 (fun H locs hP hD hS => ?_)
  have hP : va_P (dC, dI) vwCl [(h0, .inr (0, [.ref h1, .ref h2, .ref h3, .ref h4, .ref h5, .ref h6, .ref h7, .int 0, .int 1, .int 0, .int 49152, .int 49152, .int 0, .int 0, .int 0, .int 0, .int 0])), (h1, .inr (10, [.ref h8, .ref h9, .ref h10, .ref h11, .ref h12, .ref h13, .int 0, .int 1, .int 0, .int 0, .int 0, .long 0])), (h8, .inl (y0, 2501, .inl f0)), (h11, .inl (y1, 2501, .inr (.inl g0)))] H := hP
  have hD : va_D A [(h0, .inr (0, [.ref h1, .ref h2, .ref h3, .ref h4, .ref h5, .ref h6, .ref h7, .int 0, .int 1, .int 0, .int 49152, .int 49152, .int 0, .int 0, .int 0, .int 0, .int 0])), (h1, .inr (10, [.ref h8, .ref h9, .ref h10, .ref h11, .ref h12, .ref h13, .int 0, .int 1, .int 0, .int 0, .int 0, .long 0])), (h8, .inl (y0, 2501, .inl f0)), (h11, .inl (y1, 2501, .inr (.inl g0)))] := hD
  refine lv_aload_n hx hb dX0_pass_5 rfl (lv_at hl 0 rfl) ?_
  refine lv_ldc hx hb hown (hG _ wd_547) dX0_pass_6 ?_
  refine va_put (D := (dC, dI)) (ci := 0) (v := .int 49152) (ty := .int) (C := RX0) (T := TX0) (N := 17) hx hb hG inGX0 tyX0 tyX0_ok nmX0 hown hK hP hD hS 0 rfl rfl 10 (by decide) (hG _ wd_331) (fun _ h9 => h9) rfl (by decide +kernel) rfl rfl (Nat.le_of_ble_eq_true rfl) dX0_pass_8 (fun H locs hP hD hS => ?_)
  have hP : va_P (dC, dI) vwCl [(h0, .inr (0, [.ref h1, .ref h2, .ref h3, .ref h4, .ref h5, .ref h6, .ref h7, .int 0, .int 1, .int 0, .int 49152, .int 49152, .int 0, .int 0, .int 0, .int 0, .int 0])), (h1, .inr (10, [.ref h8, .ref h9, .ref h10, .ref h11, .ref h12, .ref h13, .int 0, .int 1, .int 0, .int 0, .int 0, .long 0])), (h8, .inl (y0, 2501, .inl f0)), (h11, .inl (y1, 2501, .inr (.inl g0)))] H := hP
  have hD : va_D A [(h0, .inr (0, [.ref h1, .ref h2, .ref h3, .ref h4, .ref h5, .ref h6, .ref h7, .int 0, .int 1, .int 0, .int 49152, .int 49152, .int 0, .int 0, .int 0, .int 0, .int 0])), (h1, .inr (10, [.ref h8, .ref h9, .ref h10, .ref h11, .ref h12, .ref h13, .int 0, .int 1, .int 0, .int 0, .int 0, .long 0])), (h8, .inl (y0, 2501, .inl f0)), (h11, .inl (y1, 2501, .inr (.inl g0)))] := hD
  refine lv_aload_n hx hb dX0_pass_11 rfl (lv_at hl 0 rfl) ?_
  refine lv_iconst (v := 0) hx hb dX0_pass_12 (by decide) ?_
  refine va_put (D := (dC, dI)) (ci := 0) (v := .int 0) (ty := .int) (C := RX0) (T := TX0) (N := 17) hx hb hG inGX0 tyX0 tyX0_ok nmX0 hown hK hP hD hS 0 rfl rfl 7 (by decide) (hG _ wd_328) (fun _ h9 => h9) rfl (by decide +kernel) rfl rfl (Nat.le_of_ble_eq_true rfl) dX0_pass_13 (fun H locs hP hD hS => ?_)
  have hP : va_P (dC, dI) vwCl [(h0, .inr (0, [.ref h1, .ref h2, .ref h3, .ref h4, .ref h5, .ref h6, .ref h7, .int 0, .int 1, .int 0, .int 49152, .int 49152, .int 0, .int 0, .int 0, .int 0, .int 0])), (h1, .inr (10, [.ref h8, .ref h9, .ref h10, .ref h11, .ref h12, .ref h13, .int 0, .int 1, .int 0, .int 0, .int 0, .long 0])), (h8, .inl (y0, 2501, .inl f0)), (h11, .inl (y1, 2501, .inr (.inl g0)))] H := hP
  have hD : va_D A [(h0, .inr (0, [.ref h1, .ref h2, .ref h3, .ref h4, .ref h5, .ref h6, .ref h7, .int 0, .int 1, .int 0, .int 49152, .int 49152, .int 0, .int 0, .int 0, .int 0, .int 0])), (h1, .inr (10, [.ref h8, .ref h9, .ref h10, .ref h11, .ref h12, .ref h13, .int 0, .int 1, .int 0, .int 0, .int 0, .long 0])), (h8, .inl (y0, 2501, .inl f0)), (h11, .inl (y1, 2501, .inr (.inl g0)))] := hD
  refine lv_aload_n hx hb dX0_pass_16 rfl (lv_at hl 0 rfl) ?_
  refine va_get (D := (dC, dI)) (ci := 0) (v := .ref h1) (C := RX0) (T := TX0) (N := 17) hx hb hG inGX0 hown hK hP 0 rfl rfl 0 (by decide) (hG _ wd_321) (fun _ h9 => h9) rfl dX0_pass_17 ?_
  have hPc := hP.sub (ws' := [(h1, .inr (10, [.ref h8, .ref h9, .ref h10, .ref h11, .ref h12, .ref h13, .int 0, .int 1, .int 0, .int 0, .int 0, .long 0]))]) [1] rfl
  have hDc := hD.sub (ws' := [(h1, .inr (10, [.ref h8, .ref h9, .ref h10, .ref h11, .ref h12, .ref h13, .int 0, .int 1, .int 0, .int 0, .int 0, .long 0]))]) [1] (by decide) rfl
  have hKc := hK.sub (tys' := []) [] rfl
  have hFc := va_free (wc := [(h1, .inr (10, [.ref h8, .ref h9, .ref h10, .ref h11, .ref h12, .ref h13, .int 0, .int 1, .int 0, .int 0, .int 0, .long 0]))]) hD hS hA [1] rfl
  refine va_callv (va_runV (As := []) (rest := []) ⟨hx, hb, hml, hown, hG⟩ (cX10_rewind_1 l dC dI h1 h8 h9 h10 h11 h12 h13 H.size) (cwV 0 hG (gV wd_548 wd_549 wd_550 wd_11 wd_551) rfl rfl rfl (by decide +kernel) ⟨Nat.le_of_ble_eq_true rfl, Nat.le_of_ble_eq_true rfl⟩) ⟨fun a U g mk q => by obtain ⟨q0, q1, qP, qK, qD⟩ := q; exact ⟨q0, q1, qP, va_K.moved (u := U) (U := U.calling g mk a) (Vm.Alike.refl U.vm) qK, qD⟩, va_recv hKc hPc (ci := 10) (q0 := 0) rfl rfl, fun U hU hW => ⟨rfl, by rw [hU], by rw [hU]; exact hPc, va_K.moved hW.alike hKc, hDc.weaken (fun _ _ _ _ => trivial)⟩⟩ rfl rfl hl.1 rfl (lv_room (Nat.le_of_ble_eq_true rfl)) dX0_pass_20 ⟨by decide, by decide⟩) hS (fun q _ h => hFc q h) hFc (fun u2 t H1 locs ht hvm hw hB hz1 hk1 hS => ?_)
  obtain ⟨hP1, hK1, hD1⟩ := hB
  rw [ht] at hP1
  have hK1 := va_K.moved hvm.symm hK1
  obtain ⟨hP, hD⟩ := va_join (wr := [(h0, .inr (0, [.ref h1, .ref h2, .ref h3, .ref h4, .ref h5, .ref h6, .ref h7, .int 0, .int 1, .int 0, .int 49152, .int 49152, .int 0, .int 0, .int 0, .int 0, .int 0])), (h8, .inl (y0, 2501, .inl f0)), (h11, .inl (y1, 2501, .inr (.inl g0)))]) (w1 := [(h1, .inr (10, [.ref h8, .ref h9, .ref h10, .ref h11, .ref h12, .ref h13, .int 0, .int 1, .int 0, .int 0, .int 0, .long 0]))]) hP hD [1] [0, 2, 3] rfl rfl (by decide) (by decide) hk1 hFc hP1 hD1
  have hK := (hK.sub (tys' := [(y0, .int), (y1, .long)]) [0, 1] rfl).app hK1
  generalize H1 = H at hP hS ⊢
  have hP : va_P (dC, dI) vwCl [(h0, .inr (0, [.ref h1, .ref h2, .ref h3, .ref h4, .ref h5, .ref h6, .ref h7, .int 0, .int 1, .int 0, .int 49152, .int 49152, .int 0, .int 0, .int 0, .int 0, .int 0])), (h8, .inl (y0, 2501, .inl f0)), (h11, .inl (y1, 2501, .inr (.inl g0))), (h1, .inr (10, [.ref h8, .ref h9, .ref h10, .ref h11, .ref h12, .ref h13, .int 0, .int 1, .int 0, .int 0, .int 0, .long 0]))] H := hP
  have hD : va_D A [(h0, .inr (0, [.ref h1, .ref h2, .ref h3, .ref h4, .ref h5, .ref h6, .ref h7, .int 0, .int 1, .int 0, .int 49152, .int 49152, .int 0, .int 0, .int 0, .int 0, .int 0])), (h8, .inl (y0, 2501, .inl f0)), (h11, .inl (y1, 2501, .inr (.inl g0))), (h1, .inr (10, [.ref h8, .ref h9, .ref h10, .ref h11, .ref h12, .ref h13, .int 0, .int 1, .int 0, .int 0, .int 0, .long 0]))] := hD
  have hK : va_K (dC, dI) vwCl [(y0, .int), (y1, .long)] s := hK
  refine lv_iconst (v := 0) hx hb dX0_pass_23 (by decide) ?_
  refine lv_istore_n (lv' := [(2, .int 0), (0, .ref h0), (1, .int 1)]) hx hb dX0_pass_24 rfl hl (by decide) rfl (fun ls hl => ?_)
  refine lv_iload_n hx hb dX0_pass_25 rfl (lv_at hl 0 rfl) ?_
  refine lv_sipush (v := 2500) hx hb dX0_pass_26 (by decide) ?_
  refine lv_icmp_gt (tgt := 71) hx hb dX0_pass_29 (by decide) (fun c => absurd c (by decide)) (fun _ => ?_)
  refine lv_aload_n hx hb dX0_pass_32 rfl (lv_at hl 1 rfl) ?_
  refine lv_iload_n hx hb dX0_pass_33 rfl (lv_at hl 0 rfl) ?_
  refine va_put (D := (dC, dI)) (ci := 0) (v := .int 0) (ty := .int) (C := RX0) (T := TX0) (N := 17) hx hb hG inGX0 tyX0 tyX0_ok nmX0 hown hK hP hD hS 0 rfl rfl 9 (by decide) (hG _ wd_330) (fun _ h9 => h9) rfl (by decide +kernel) rfl rfl (Nat.le_of_ble_eq_true rfl) dX0_pass_34 (fun H locs hP hD hS => ?_)
  have hP : va_P (dC, dI) vwCl [(h0, .inr (0, [.ref h1, .ref h2, .ref h3, .ref h4, .ref h5, .ref h6, .ref h7, .int 0, .int 1, .int 0, .int 49152, .int 49152, .int 0, .int 0, .int 0, .int 0, .int 0])), (h8, .inl (y0, 2501, .inl f0)), (h11, .inl (y1, 2501, .inr (.inl g0))), (h1, .inr (10, [.ref h8, .ref h9, .ref h10, .ref h11, .ref h12, .ref h13, .int 0, .int 1, .int 0, .int 0, .int 0, .long 0]))] H := hP
  have hD : va_D A [(h0, .inr (0, [.ref h1, .ref h2, .ref h3, .ref h4, .ref h5, .ref h6, .ref h7, .int 0, .int 1, .int 0, .int 49152, .int 49152, .int 0, .int 0, .int 0, .int 0, .int 0])), (h8, .inl (y0, 2501, .inl f0)), (h11, .inl (y1, 2501, .inr (.inl g0))), (h1, .inr (10, [.ref h8, .ref h9, .ref h10, .ref h11, .ref h12, .ref h13, .int 0, .int 1, .int 0, .int 0, .int 0, .long 0]))] := hD
  refine lv_aload_n hx hb dX0_pass_37 rfl (lv_at hl 1 rfl) ?_
  have hPc := hP.sub (ws' := [(h0, .inr (0, [.ref h1, .ref h2, .ref h3, .ref h4, .ref h5, .ref h6, .ref h7, .int 0, .int 1, .int 0, .int 49152, .int 49152, .int 0, .int 0, .int 0, .int 0, .int 0])), (h1, .inr (10, [.ref h8, .ref h9, .ref h10, .ref h11, .ref h12, .ref h13, .int 0, .int 1, .int 0, .int 0, .int 0, .long 0])), (h8, .inl (y0, 2501, .inl f0)), (h11, .inl (y1, 2501, .inr (.inl g0)))]) [0, 3, 1, 2] rfl
  have hDc := hD.sub (ws' := [(h0, .inr (0, [.ref h1, .ref h2, .ref h3, .ref h4, .ref h5, .ref h6, .ref h7, .int 0, .int 1, .int 0, .int 49152, .int 49152, .int 0, .int 0, .int 0, .int 0, .int 0])), (h1, .inr (10, [.ref h8, .ref h9, .ref h10, .ref h11, .ref h12, .ref h13, .int 0, .int 1, .int 0, .int 0, .int 0, .long 0])), (h8, .inl (y0, 2501, .inl f0)), (h11, .inl (y1, 2501, .inr (.inl g0)))]) [0, 3, 1, 2] (by decide) rfl
  have hKc := hK.sub (tys' := [(y0, .int), (y1, .long)]) [0, 1] rfl
  have hFc := va_free (wc := [(h0, .inr (0, [.ref h1, .ref h2, .ref h3, .ref h4, .ref h5, .ref h6, .ref h7, .int 0, .int 1, .int 0, .int 49152, .int 49152, .int 0, .int 0, .int 0, .int 0, .int 0])), (h1, .inr (10, [.ref h8, .ref h9, .ref h10, .ref h11, .ref h12, .ref h13, .int 0, .int 1, .int 0, .int 0, .int 0, .long 0])), (h8, .inl (y0, 2501, .inl f0)), (h11, .inl (y1, 2501, .inr (.inl g0)))]) hD hS hA [0, 3, 1, 2] rfl
  refine va_calli (va_runV (As := []) (rest := []) ⟨hx, hb, hml, hown, hG⟩ (cX0_readLine_2 l dC dI h0 h1 h2 h3 h4 h5 h6 h7 h8 h9 h10 h11 h12 h13 y0 y1 H.size f0 g0 if0 kf0_0 kg0_0) (cwV 0 hG (gV wd_552 wd_554 wp_9 wd_8 wd_555) rfl rfl rfl (by decide +kernel) ⟨Nat.le_of_ble_eq_true rfl, Nat.le_of_ble_eq_true rfl⟩) ⟨fun a U g mk q => by obtain ⟨q0, q1, qP, qK, qD⟩ := q; exact ⟨q0, q1, qP, va_K.moved (u := U) (U := U.calling g mk a) (Vm.Alike.refl U.vm) qK, qD⟩, va_recv hKc hPc (ci := 0) (q0 := 0) rfl rfl, fun U hU hW => ⟨rfl, by rw [hU], by rw [hU]; exact hPc, va_K.moved hW.alike hKc, hDc.weaken (fun _ _ _ _ => trivial)⟩⟩ rfl rfl hl.1 rfl (lv_room (Nat.le_of_ble_eq_true rfl)) dX0_pass_38 ⟨by decide, by decide⟩) hS (fun q _ h => hFc q h) hFc (fun r3 u4 t H1 locs ht hvm hw hB hz1 hk1 hS => ?_)
  have hw : r3 = 1 ∧ True := hw
  obtain ⟨er3, -⟩ := hw
  obtain ⟨hP1, hK1, hD1⟩ := hB
  rw [ht] at hP1
  have hK1 := va_K.moved hvm.symm hK1
  obtain ⟨hP, hD⟩ := va_join (wr := []) (w1 := [(h0, .inr (0, [.ref h1, .ref h2, .ref h3, .ref h4, .ref h5, .ref h6, .ref h7, .int 0, .int 1, .int 0, .int 49152, .int 49152, .int 0, .int 0, .int 0, .int 0, .int 0])), (h1, .inr (10, [.ref h8, .ref h9, .ref h10, .ref h11, .ref h12, .ref h13, .int 0, .int 1, .int 0, .int 0, .int 0, .long 0])), (h8, .inl (y0, 2501, .inl f0)), (h11, .inl (y1, 2501, .inr (.inl g0)))]) hP hD [0, 3, 1, 2] [] rfl rfl (by decide) (by decide) hk1 hFc hP1 hD1
  have hK := (hK.sub (tys' := []) [] rfl).app hK1
  generalize H1 = H at hP hS ⊢
  have hP : va_P (dC, dI) vwCl [(h0, .inr (0, [.ref h1, .ref h2, .ref h3, .ref h4, .ref h5, .ref h6, .ref h7, .int 0, .int 1, .int 0, .int 49152, .int 49152, .int 0, .int 0, .int 0, .int 0, .int 0])), (h1, .inr (10, [.ref h8, .ref h9, .ref h10, .ref h11, .ref h12, .ref h13, .int 0, .int 1, .int 0, .int 0, .int 0, .long 0])), (h8, .inl (y0, 2501, .inl f0)), (h11, .inl (y1, 2501, .inr (.inl g0)))] H := hP
  have hD : va_D A [(h0, .inr (0, [.ref h1, .ref h2, .ref h3, .ref h4, .ref h5, .ref h6, .ref h7, .int 0, .int 1, .int 0, .int 49152, .int 49152, .int 0, .int 0, .int 0, .int 0, .int 0])), (h1, .inr (10, [.ref h8, .ref h9, .ref h10, .ref h11, .ref h12, .ref h13, .int 0, .int 1, .int 0, .int 0, .int 0, .long 0])), (h8, .inl (y0, 2501, .inl f0)), (h11, .inl (y1, 2501, .inr (.inl g0)))] := hD
  have hK : va_K (dC, dI) vwCl [(y0, .int), (y1, .long)] s := hK
  subst er3
  refine lv_if_ne (tgt := 46) hx hb dX0_pass_41 (by decide) (fun _ => ?_) (fun c => absurd c (by decide))
  refine lv_aload_n hx hb dX0_pass_46 rfl (lv_at hl 1 rfl) ?_
  refine va_get (D := (dC, dI)) (ci := 0) (v := .ref h1) (C := RX0) (T := TX0) (N := 17) hx hb hG inGX0 hown hK hP 0 rfl rfl 0 (by decide) (hG _ wd_321) (fun _ h9 => h9) rfl dX0_pass_47 ?_
  have hPc := hP.sub (ws' := [(h1, .inr (10, [.ref h8, .ref h9, .ref h10, .ref h11, .ref h12, .ref h13, .int 0, .int 1, .int 0, .int 0, .int 0, .long 0]))]) [1] rfl
  have hDc := hD.sub (ws' := [(h1, .inr (10, [.ref h8, .ref h9, .ref h10, .ref h11, .ref h12, .ref h13, .int 0, .int 1, .int 0, .int 0, .int 0, .long 0]))]) [1] (by decide) rfl
  have hKc := hK.sub (tys' := []) [] rfl
  have hFc := va_free (wc := [(h1, .inr (10, [.ref h8, .ref h9, .ref h10, .ref h11, .ref h12, .ref h13, .int 0, .int 1, .int 0, .int 0, .int 0, .long 0]))]) hD hS hA [1] rfl
  refine va_calli (va_runV (As := []) (rest := []) ⟨hx, hb, hml, hown, hG⟩ (cX10_isLast_1 l dC dI h1 h8 h9 h10 h11 h12 h13 H.size) (cwV 0 hG (gV wd_698 wd_699 wd_700 wd_11 wd_701) rfl rfl rfl (by decide +kernel) ⟨Nat.le_of_ble_eq_true rfl, Nat.le_of_ble_eq_true rfl⟩) ⟨fun a U g mk q => by obtain ⟨q0, q1, qP, qK, qD⟩ := q; exact ⟨q0, q1, qP, va_K.moved (u := U) (U := U.calling g mk a) (Vm.Alike.refl U.vm) qK, qD⟩, va_recv hKc hPc (ci := 10) (q0 := 0) rfl rfl, fun U hU hW => ⟨rfl, by rw [hU], by rw [hU]; exact hPc, va_K.moved hW.alike hKc, hDc.weaken (fun _ _ _ _ => trivial)⟩⟩ rfl rfl hl.1 rfl (lv_room (Nat.le_of_ble_eq_true rfl)) dX0_pass_50 ⟨by decide, by decide⟩) hS (fun q _ h => hFc q h) hFc (fun r5 u6 t H1 locs ht hvm hw hB hz1 hk1 hS => ?_)
  have hw : r5 = 1 ∧ True := hw
  obtain ⟨er5, -⟩ := hw
  obtain ⟨hP1, hK1, hD1⟩ := hB
  rw [ht] at hP1
  have hK1 := va_K.moved hvm.symm hK1
  obtain ⟨hP, hD⟩ := va_join (wr := [(h0, .inr (0, [.ref h1, .ref h2, .ref h3, .ref h4, .ref h5, .ref h6, .ref h7, .int 0, .int 1, .int 0, .int 49152, .int 49152, .int 0, .int 0, .int 0, .int 0, .int 0])), (h8, .inl (y0, 2501, .inl f0)), (h11, .inl (y1, 2501, .inr (.inl g0)))]) (w1 := [(h1, .inr (10, [.ref h8, .ref h9, .ref h10, .ref h11, .ref h12, .ref h13, .int 0, .int 1, .int 0, .int 0, .int 0, .long 0]))]) hP hD [1] [0, 2, 3] rfl rfl (by decide) (by decide) hk1 hFc hP1 hD1
  have hK := (hK.sub (tys' := [(y0, .int), (y1, .long)]) [0, 1] rfl).app hK1
  generalize H1 = H at hP hS ⊢
  have hP : va_P (dC, dI) vwCl [(h0, .inr (0, [.ref h1, .ref h2, .ref h3, .ref h4, .ref h5, .ref h6, .ref h7, .int 0, .int 1, .int 0, .int 49152, .int 49152, .int 0, .int 0, .int 0, .int 0, .int 0])), (h8, .inl (y0, 2501, .inl f0)), (h11, .inl (y1, 2501, .inr (.inl g0))), (h1, .inr (10, [.ref h8, .ref h9, .ref h10, .ref h11, .ref h12, .ref h13, .int 0, .int 1, .int 0, .int 0, .int 0, .long 0]))] H := hP
  have hD : va_D A [(h0, .inr (0, [.ref h1, .ref h2, .ref h3, .ref h4, .ref h5, .ref h6, .ref h7, .int 0, .int 1, .int 0, .int 49152, .int 49152, .int 0, .int 0, .int 0, .int 0, .int 0])), (h8, .inl (y0, 2501, .inl f0)), (h11, .inl (y1, 2501, .inr (.inl g0))), (h1, .inr (10, [.ref h8, .ref h9, .ref h10, .ref h11, .ref h12, .ref h13, .int 0, .int 1, .int 0, .int 0, .int 0, .long 0]))] := hD
  have hK : va_K (dC, dI) vwCl [(y0, .int), (y1, .long)] s := hK
  subst er5
  refine lv_if_eq (tgt := 58) hx hb dX0_pass_53 (by decide) (fun c => absurd c (by decide)) (fun _ => ?_)
  refine lv_iconst (v := 1) hx hb dX0_pass_56 (by decide) ?_
  have hP9 := hP.sub (ws' := [(h0, .inr (0, [.ref h1, .ref h2, .ref h3, .ref h4, .ref h5, .ref h6, .ref h7, .int 0, .int 1, .int 0, .int 49152, .int 49152, .int 0, .int 0, .int 0, .int 0, .int 0])), (h1, .inr (10, [.ref h8, .ref h9, .ref h10, .ref h11, .ref h12, .ref h13, .int 0, .int 1, .int 0, .int 0, .int 0, .long 0])), (h8, .inl (y0, 2501, .inl f0)), (h11, .inl (y1, 2501, .inr (.inl g0)))]) [0, 3, 1, 2] rfl
  have hD9 := hD.sub (ws' := [(h0, .inr (0, [.ref h1, .ref h2, .ref h3, .ref h4, .ref h5, .ref h6, .ref h7, .int 0, .int 1, .int 0, .int 49152, .int 49152, .int 0, .int 0, .int 0, .int 0, .int 0])), (h1, .inr (10, [.ref h8, .ref h9, .ref h10, .ref h11, .ref h12, .ref h13, .int 0, .int 1, .int 0, .int 0, .int 0, .long 0])), (h8, .inl (y0, 2501, .inl f0)), (h11, .inl (y1, 2501, .inr (.inl g0)))]) [0, 3, 1, 2] (by decide) rfl
  have hK9 := hK.sub (tys' := [(y0, .int), (y1, .long)]) [0, 1] rfl
  exact W.zret (v := 1) hx hb hr rfl (fun t ht hW => ⟨⟨1, (), rfl, ⟨rfl, trivial⟩, by rw [ht]; exact hP9, va_K.moved hW.alike hK9, hD9⟩, hS.F ht⟩) hS.2.2 dX0_pass_57
set_option maxHeartbeats 4000000 in
set_option maxRecDepth 100000 in
theorem cX0_keepLabels_1 (l : Launch) (dC : Nat → ClassId) (dI : Nat → Nat → Nat) (h0 h1 h2 h3 h4 h5 h6 h7 : Nat) (sz : Nat) : Met l yX0_keepLabels (Cond.code yX0_keepLabels cX0_keepLabels 2 none :: lw_G) ({ frames := 0, cells := 0, slots := 0, locals := 0 }) (va_Pc [.ref h0] (fun U => U.heap.size = sz ∧ va_P (dC, dI) vwCl [(h0, .inr (0, [.ref h1, .ref h2, .ref h3, .ref h4, .ref h5, .ref h6, .ref h7, .int 0, .int 1, .int 0, .int 49152, .int 49152, .int 0, .int 0, .int 0, .int 0, .int 0]))] U.heap ∧ va_K (dC, dI) vwCl [] U ∧ va_D (fun _ => True) [(h0, .inr (0, [.ref h1, .ref h2, .ref h3, .ref h4, .ref h5, .ref h6, .ref h7, .int 0, .int 1, .int 0, .int 49152, .int 49152, .int 0, .int 0, .int 0, .int 0, .int 0]))])) (va_Qv (fun (u : Unit) => True) (fun (u : Unit) (t : State) => va_P (dC, dI) vwCl [(h0, .inr (0, [.ref h1, .ref h2, .ref h3, .ref h4, .ref h5, .ref h7, .ref h6, .int 0, .int 1, .int 0, .int 49152, .int 49152, .int 0, .int 0, .int 0, .int 0, .int 0]))] t.heap ∧ va_K (dC, dI) vwCl [] t ∧ va_D (va_A [(h0, .inr (0, [.ref h1, .ref h2, .ref h3, .ref h4, .ref h5, .ref h6, .ref h7, .int 0, .int 1, .int 0, .int 49152, .int 49152, .int 0, .int 0, .int 0, .int 0, .int 0]))] sz) [(h0, .inr (0, [.ref h1, .ref h2, .ref h3, .ref h4, .ref h5, .ref h7, .ref h6, .int 0, .int 1, .int 0, .int 49152, .int 49152, .int 0, .int 0, .int 0, .int 0, .int 0]))]) (va_A [(h0, .inr (0, [.ref h1, .ref h2, .ref h3, .ref h4, .ref h5, .ref h6, .ref h7, .int 0, .int 1, .int 0, .int 49152, .int 49152, .int 0, .int 0, .int 0, .int 0, .int 0]))] sz)) 0 0 (va_A [(h0, .inr (0, [.ref h1, .ref h2, .ref h3, .ref h4, .ref h5, .ref h6, .ref h7, .int 0, .int 1, .int 0, .int 49152, .int 49152, .int 0, .int 0, .int 0, .int 0, .int 0]))] sz) := by
  refine Met.ofW (cc := cX0_keepLabels) (maxL := 2) (ret := none) (by decide) rfl ?_
  intro p e s m args below meth c s₁ B hml hv
  obtain ⟨rfl, hsz, hP, hK, hD0⟩ := hv
  have hx := B.exec
  have hb := B.bytes
  have hr := B.returns
  have hts0 := atoms_spec (ws := Cond.code yX0_keepLabels cX0_keepLabels 2 none :: lw_G) B.pre
  have hG : ∀ w ∈ lw_G, w.before _ s = true := fun w h => hts0 w (List.mem_cons_of_mem _ h)
  have hown : s.vm.findClass RX0 = some m.cls := findClass_of_methodNamed B.named
  have hlocks := B.notSynchronized
  subst hsz
  have hD := hD0.self (sz := s.heap.size)
  generalize hAe : va_A [(h0, .inr (0, [.ref h1, .ref h2, .ref h3, .ref h4, .ref h5, .ref h6, .ref h7, .int 0, .int 1, .int 0, .int 49152, .int 49152, .int 0, .int 0, .int 0, .int 0, .int 0]))] s.heap.size = A at hD ⊢
  have hA : ∀ q : Nat, s.heap.size ≤ q → A q := fun q h => by rw [← hAe]; exact Or.inr h
  have hS : va_S A s.heap s.heap [] := va_S.rf
  have hP : va_P (dC, dI) vwCl [(h0, .inr (0, [.ref h1, .ref h2, .ref h3, .ref h4, .ref h5, .ref h6, .ref h7, .int 0, .int 1, .int 0, .int 49152, .int 49152, .int 0, .int 0, .int 0, .int 0, .int 0]))] s.heap := hP
  have hl := lv_entry ([.ref h0]) (n := 2) (Nat.le_of_ble_eq_true rfl)
  rw [lg_entry_eq]
  generalize (lg_sl ([.ref h0]) ++ List.replicate (2 - (lg_sl ([.ref h0])).length) Slot.unset).toArray = ls at hl ⊢
  have hl : lv_has ls 2 [(0, .ref h0)] := hl
  refine lv_aload_n hx hb dX0_keepLabels_0 rfl (lv_at hl 0 rfl) ?_
  refine va_get (D := (dC, dI)) (ci := 0) (v := .ref h7) (C := RX0) (T := TX0) (N := 17) hx hb hG inGX0 hown hK hP 0 rfl rfl 6 (by decide) (hG _ wd_327) (fun _ h9 => h9) rfl dX0_keepLabels_1 ?_
  refine lv_astore_n (lv' := [(1, .ref h7), (0, .ref h0)]) hx hb dX0_keepLabels_4 rfl hl (by decide) rfl (fun ls hl => ?_)
  refine lv_aload_n hx hb dX0_keepLabels_5 rfl (lv_at hl 1 rfl) ?_
  refine lv_aload_n hx hb dX0_keepLabels_6 rfl (lv_at hl 1 rfl) ?_
  refine va_get (D := (dC, dI)) (ci := 0) (v := .ref h6) (C := RX0) (T := TX0) (N := 17) hx hb hG inGX0 hown hK hP 0 rfl rfl 5 (by decide) (hG _ wd_326) (fun _ h9 => h9) rfl dX0_keepLabels_7 ?_
  refine va_put (D := (dC, dI)) (ci := 0) (v := .ref h6) (ty := .object "NapMachine$Labels") (C := RX0) (T := TX0) (N := 17) hx hb hG inGX0 tyX0 tyX0_ok nmX0 hown hK hP hD hS 0 rfl rfl 6 (by decide) (hG _ wd_327) (fun _ h9 => h9) rfl (by decide +kernel) rfl rfl (Nat.le_of_ble_eq_true rfl) dX0_keepLabels_10 (fun H locs hP hD hS => ?_)
  have hP : va_P (dC, dI) vwCl [(h0, .inr (0, [.ref h1, .ref h2, .ref h3, .ref h4, .ref h5, .ref h6, .ref h6, .int 0, .int 1, .int 0, .int 49152, .int 49152, .int 0, .int 0, .int 0, .int 0, .int 0]))] H := hP
  have hD : va_D A [(h0, .inr (0, [.ref h1, .ref h2, .ref h3, .ref h4, .ref h5, .ref h6, .ref h6, .int 0, .int 1, .int 0, .int 49152, .int 49152, .int 0, .int 0, .int 0, .int 0, .int 0]))] := hD
  refine lv_aload_n hx hb dX0_keepLabels_13 rfl (lv_at hl 1 rfl) ?_
  refine lv_aload_n hx hb dX0_keepLabels_14 rfl (lv_at hl 0 rfl) ?_
  refine va_put (D := (dC, dI)) (ci := 0) (v := .ref h7) (ty := .object "NapMachine$Labels") (C := RX0) (T := TX0) (N := 17) hx hb hG inGX0 tyX0 tyX0_ok nmX0 hown hK hP hD hS 0 rfl rfl 5 (by decide) (hG _ wd_326) (fun _ h9 => h9) rfl (by decide +kernel) rfl rfl (Nat.le_of_ble_eq_true rfl) dX0_keepLabels_15 (fun H locs hP hD hS => ?_)
  have hP : va_P (dC, dI) vwCl [(h0, .inr (0, [.ref h1, .ref h2, .ref h3, .ref h4, .ref h5, .ref h7, .ref h6, .int 0, .int 1, .int 0, .int 49152, .int 49152, .int 0, .int 0, .int 0, .int 0, .int 0]))] H := hP
  have hD : va_D A [(h0, .inr (0, [.ref h1, .ref h2, .ref h3, .ref h4, .ref h5, .ref h7, .ref h6, .int 0, .int 1, .int 0, .int 49152, .int 49152, .int 0, .int 0, .int 0, .int 0, .int 0]))] := hD
  have hP9 := hP.sub (ws' := [(h0, .inr (0, [.ref h1, .ref h2, .ref h3, .ref h4, .ref h5, .ref h7, .ref h6, .int 0, .int 1, .int 0, .int 49152, .int 49152, .int 0, .int 0, .int 0, .int 0, .int 0]))]) [0] rfl
  have hD9 := hD.sub (ws' := [(h0, .inr (0, [.ref h1, .ref h2, .ref h3, .ref h4, .ref h5, .ref h7, .ref h6, .int 0, .int 1, .int 0, .int 49152, .int 49152, .int 0, .int 0, .int 0, .int 0, .int 0]))]) [0] (by decide) rfl
  have hK9 := hK.sub (tys' := []) [] rfl
  exact W.vret hx hb hr (fun t ht hW => ⟨⟨(), rfl, trivial, by rw [ht]; exact hP9, va_K.moved hW.alike hK9, hD9⟩, hS.F ht⟩) hS.2.2 dX0_keepLabels_18
set_option maxHeartbeats 4000000 in
set_option maxRecDepth 100000 in
theorem cX0_writeTo_1 (l : Launch) (dC : Nat → ClassId) (dI : Nat → Nat → Nat) (h0 h1 h2 h3 h4 h5 h6 h7 h8 : Nat) (sz : Nat) : Met l yX0_writeTo (Cond.code yX0_writeTo cX0_writeTo 3 (some .int) :: lw_G) ({ frames := 0, cells := 0, slots := 0, locals := 0 }) (va_Pc [.ref h0, .ref h1] (fun U => U.heap.size = sz ∧ va_P (dC, dI) vwCl [(h0, .inr (0, [.ref h2, .ref h3, .ref h4, .ref h5, .ref h6, .ref h7, .ref h8, .int 0, .int 1, .int 0, .int 49152, .int 49152, .int 0, .int 0, .int 0, .int 0, .int 0]))] U.heap ∧ va_K (dC, dI) vwCl [] U ∧ va_D (fun _ => True) [(h0, .inr (0, [.ref h2, .ref h3, .ref h4, .ref h5, .ref h6, .ref h7, .ref h8, .int 0, .int 1, .int 0, .int 49152, .int 49152, .int 0, .int 0, .int 0, .int 0, .int 0]))])) (va_Qi (fun (r : Int32) (u : Unit) => r = 0 ∧ True) (fun (u : Unit) (t : State) => va_P (dC, dI) vwCl [(h0, .inr (0, [.ref h2, .ref h3, .ref h4, .ref h5, .ref h6, .ref h7, .ref h8, .int 0, .int 1, .int 0, .int 49152, .int 49152, .int 0, .int 0, .int 0, .int 0, .int 0]))] t.heap ∧ va_K (dC, dI) vwCl [] t ∧ va_D (va_A [(h0, .inr (0, [.ref h2, .ref h3, .ref h4, .ref h5, .ref h6, .ref h7, .ref h8, .int 0, .int 1, .int 0, .int 49152, .int 49152, .int 0, .int 0, .int 0, .int 0, .int 0]))] sz) [(h0, .inr (0, [.ref h2, .ref h3, .ref h4, .ref h5, .ref h6, .ref h7, .ref h8, .int 0, .int 1, .int 0, .int 49152, .int 49152, .int 0, .int 0, .int 0, .int 0, .int 0]))]) (va_A [(h0, .inr (0, [.ref h2, .ref h3, .ref h4, .ref h5, .ref h6, .ref h7, .ref h8, .int 0, .int 1, .int 0, .int 49152, .int 49152, .int 0, .int 0, .int 0, .int 0, .int 0]))] sz)) 0 0 (va_A [(h0, .inr (0, [.ref h2, .ref h3, .ref h4, .ref h5, .ref h6, .ref h7, .ref h8, .int 0, .int 1, .int 0, .int 49152, .int 49152, .int 0, .int 0, .int 0, .int 0, .int 0]))] sz) := by
  refine Met.ofW (cc := cX0_writeTo) (maxL := 3) (ret := (some .int)) (by decide) rfl ?_
  intro p e s m args below meth c s₁ B hml hv
  obtain ⟨rfl, hsz, hP, hK, hD0⟩ := hv
  have hx := B.exec
  have hb := B.bytes
  have hr := B.returns
  have hts0 := atoms_spec (ws := Cond.code yX0_writeTo cX0_writeTo 3 (some .int) :: lw_G) B.pre
  have hG : ∀ w ∈ lw_G, w.before _ s = true := fun w h => hts0 w (List.mem_cons_of_mem _ h)
  have hown : s.vm.findClass RX0 = some m.cls := findClass_of_methodNamed B.named
  have hlocks := B.notSynchronized
  subst hsz
  have hD := hD0.self (sz := s.heap.size)
  generalize hAe : va_A [(h0, .inr (0, [.ref h2, .ref h3, .ref h4, .ref h5, .ref h6, .ref h7, .ref h8, .int 0, .int 1, .int 0, .int 49152, .int 49152, .int 0, .int 0, .int 0, .int 0, .int 0]))] s.heap.size = A at hD ⊢
  have hA : ∀ q : Nat, s.heap.size ≤ q → A q := fun q h => by rw [← hAe]; exact Or.inr h
  have hS : va_S A s.heap s.heap [] := va_S.rf
  have hP : va_P (dC, dI) vwCl [(h0, .inr (0, [.ref h2, .ref h3, .ref h4, .ref h5, .ref h6, .ref h7, .ref h8, .int 0, .int 1, .int 0, .int 49152, .int 49152, .int 0, .int 0, .int 0, .int 0, .int 0]))] s.heap := hP
  have hl := lv_entry ([.ref h0, .ref h1]) (n := 3) (Nat.le_of_ble_eq_true rfl)
  rw [lg_entry_eq]
  generalize (lg_sl ([.ref h0, .ref h1]) ++ List.replicate (3 - (lg_sl ([.ref h0, .ref h1])).length) Slot.unset).toArray = ls at hl ⊢
  have hl : lv_has ls 3 [(0, .ref h0), (1, .ref h1)] := hl
  refine lv_iconst (v := 0) hx hb dX0_writeTo_0 (by decide) ?_
  refine lv_istore_n (lv' := [(2, .int 0), (0, .ref h0), (1, .ref h1)]) hx hb dX0_writeTo_1 rfl hl (by decide) rfl (fun ls hl => ?_)
  refine lv_iload_n hx hb dX0_writeTo_2 rfl (lv_at hl 0 rfl) ?_
  refine lv_aload_n hx hb dX0_writeTo_3 rfl (lv_at hl 1 rfl) ?_
  refine va_get (D := (dC, dI)) (ci := 0) (v := .int 0) (C := RX0) (T := TX0) (N := 17) hx hb hG inGX0 hown hK hP 0 rfl rfl 7 (by decide) (hG _ wd_328) (fun _ h9 => h9) rfl dX0_writeTo_4 ?_
  refine lv_icmp_ge (tgt := 39) hx hb dX0_writeTo_7 (by decide) (fun _ => ?_) (fun c => absurd (by decide) c)
  refine lv_aload_n hx hb dX0_writeTo_39 rfl (lv_at hl 1 rfl) ?_
  refine va_get (D := (dC, dI)) (ci := 0) (v := .int 0) (C := RX0) (T := TX0) (N := 17) hx hb hG inGX0 hown hK hP 0 rfl rfl 7 (by decide) (hG _ wd_328) (fun _ h9 => h9) rfl dX0_writeTo_40 ?_
  have hP9 := hP.sub (ws' := [(h0, .inr (0, [.ref h2, .ref h3, .ref h4, .ref h5, .ref h6, .ref h7, .ref h8, .int 0, .int 1, .int 0, .int 49152, .int 49152, .int 0, .int 0, .int 0, .int 0, .int 0]))]) [0] rfl
  have hD9 := hD.sub (ws' := [(h0, .inr (0, [.ref h2, .ref h3, .ref h4, .ref h5, .ref h6, .ref h7, .ref h8, .int 0, .int 1, .int 0, .int 49152, .int 49152, .int 0, .int 0, .int 0, .int 0, .int 0]))]) [0] (by decide) rfl
  have hK9 := hK.sub (tys' := []) [] rfl
  exact W.iret (v := 0) hx hb hr (fun t ht hW => ⟨⟨0, (), rfl, ⟨rfl, trivial⟩, by rw [ht]; exact hP9, va_K.moved hW.alike hK9, hD9⟩, hS.F ht⟩) hS.2.2 dX0_writeTo_43
set_option maxHeartbeats 4000000 in
set_option maxRecDepth 100000 in
theorem cX11_assemble_1 (l : Launch) (dC : Nat → ClassId) (dI : Nat → Nat → Nat) (h0 h1 h2 h3 h4 h5 h6 h7 h8 h9 h10 h11 h12 h13 h14 h15 h16 h17 h18 h19 h20 : Nat) (y0 y1 y2 y3 y4 : ClassId) (sz : Nat) : Met l yX11_assemble (Cond.code yX11_assemble cX11_assemble 2 (some .int) :: lw_G) ({ frames := 4, cells := 0, slots := 0, locals := 90 }) (va_Pc [.ref h0] (fun U => U.heap.size = sz ∧ va_P (dC, dI) vwCl [(h0, .inr (11, [.ref h1, .ref h2, .ref h3, .ref h4, .ref h5, .int 0, .int 0])), (h4, .inr (0, [.ref h6, .ref h7, .ref h8, .ref h9, .ref h10, .ref h11, .ref h12, .int 0, .int 0, .int 0, .int 0, .int 0, .int 0, .int 0, .int 0, .int 0, .int 0])), (h6, .inr (10, [.ref h13, .ref h14, .ref h15, .ref h16, .ref h17, .ref h1, .int 0, .int 0, .int 0, .int 0, .int 0, .long 0])), (h1, .inl (y0, 2600, .inl (fun _ => 0))), (h13, .inl (y1, 2501, .inl (fun _ => 0))), (h14, .inl (y2, 2501, .inl (fun _ => 0))), (h15, .inl (y3, 2501, .inl (fun _ => 0))), (h16, .inl (y4, 2501, .inr (.inl (fun _ => 0)))), (h11, .inr (4, [.ref h18, .ref h19, .ref h20, .int 0]))] U.heap ∧ va_K (dC, dI) vwCl [(y0, .int), (y1, .int), (y2, .int), (y3, .int), (y4, .long)] U ∧ va_D (fun _ => True) [(h0, .inr (11, [.ref h1, .ref h2, .ref h3, .ref h4, .ref h5, .int 0, .int 0])), (h4, .inr (0, [.ref h6, .ref h7, .ref h8, .ref h9, .ref h10, .ref h11, .ref h12, .int 0, .int 0, .int 0, .int 0, .int 0, .int 0, .int 0, .int 0, .int 0, .int 0])), (h6, .inr (10, [.ref h13, .ref h14, .ref h15, .ref h16, .ref h17, .ref h1, .int 0, .int 0, .int 0, .int 0, .int 0, .long 0])), (h1, .inl (y0, 2600, .inl (fun _ => 0))), (h13, .inl (y1, 2501, .inl (fun _ => 0))), (h14, .inl (y2, 2501, .inl (fun _ => 0))), (h15, .inl (y3, 2501, .inl (fun _ => 0))), (h16, .inl (y4, 2501, .inr (.inl (fun _ => 0)))), (h11, .inr (4, [.ref h18, .ref h19, .ref h20, .int 0]))])) (va_Qi (fun (r : Int32) (u : (Nat → Int32) × (Nat → Int32) × (Nat → Int32) × (Nat → Int64)) => r = 0 ∧ (∀ j, iv (u.1 j) 0 0) ∧ u.1 0 = 0 ∧ (∀ j, iv (u.2.1 j) 0 0) ∧ u.2.1 0 = 0 ∧ (∀ j, iv (u.2.2.1 j) 0 0) ∧ u.2.2.1 0 = 0 ∧ u.2.2.2 0 = 0 ∧ True) (fun (u : (Nat → Int32) × (Nat → Int32) × (Nat → Int32) × (Nat → Int64)) (t : State) => va_P (dC, dI) vwCl [(h0, .inr (11, [.ref h1, .ref h2, .ref h3, .ref h4, .ref h5, .int 0, .int 0])), (h4, .inr (0, [.ref h6, .ref h7, .ref h8, .ref h9, .ref h10, .ref h12, .ref h11, .int 0, .int 1, .int 0, .int 49152, .int 49152, .int 0, .int 0, .int 0, .int 0, .int 0])), (h6, .inr (10, [.ref h13, .ref h14, .ref h15, .ref h16, .ref h17, .ref h1, .int 0, .int 1, .int 0, .int 0, .int 0, .long 0])), (h1, .inl (y0, 2600, .inl (fun _ => 0))), (h13, .inl (y1, 2501, .inl u.1)), (h14, .inl (y2, 2501, .inl u.2.1)), (h15, .inl (y3, 2501, .inl u.2.2.1)), (h16, .inl (y4, 2501, .inr (.inl u.2.2.2))), (h11, .inr (4, [.ref h18, .ref h19, .ref h20, .int 0]))] t.heap ∧ va_K (dC, dI) vwCl [(y0, .int), (y1, .int), (y2, .int), (y3, .int), (y4, .long)] t ∧ va_D (va_A [(h0, .inr (11, [.ref h1, .ref h2, .ref h3, .ref h4, .ref h5, .int 0, .int 0])), (h4, .inr (0, [.ref h6, .ref h7, .ref h8, .ref h9, .ref h10, .ref h11, .ref h12, .int 0, .int 0, .int 0, .int 0, .int 0, .int 0, .int 0, .int 0, .int 0, .int 0])), (h6, .inr (10, [.ref h13, .ref h14, .ref h15, .ref h16, .ref h17, .ref h1, .int 0, .int 0, .int 0, .int 0, .int 0, .long 0])), (h1, .inl (y0, 2600, .inl (fun _ => 0))), (h13, .inl (y1, 2501, .inl (fun _ => 0))), (h14, .inl (y2, 2501, .inl (fun _ => 0))), (h15, .inl (y3, 2501, .inl (fun _ => 0))), (h16, .inl (y4, 2501, .inr (.inl (fun _ => 0)))), (h11, .inr (4, [.ref h18, .ref h19, .ref h20, .int 0]))] sz) [(h0, .inr (11, [.ref h1, .ref h2, .ref h3, .ref h4, .ref h5, .int 0, .int 0])), (h4, .inr (0, [.ref h6, .ref h7, .ref h8, .ref h9, .ref h10, .ref h12, .ref h11, .int 0, .int 1, .int 0, .int 49152, .int 49152, .int 0, .int 0, .int 0, .int 0, .int 0])), (h6, .inr (10, [.ref h13, .ref h14, .ref h15, .ref h16, .ref h17, .ref h1, .int 0, .int 1, .int 0, .int 0, .int 0, .long 0])), (h1, .inl (y0, 2600, .inl (fun _ => 0))), (h13, .inl (y1, 2501, .inl u.1)), (h14, .inl (y2, 2501, .inl u.2.1)), (h15, .inl (y3, 2501, .inl u.2.2.1)), (h16, .inl (y4, 2501, .inr (.inl u.2.2.2))), (h11, .inr (4, [.ref h18, .ref h19, .ref h20, .int 0]))]) (va_A [(h0, .inr (11, [.ref h1, .ref h2, .ref h3, .ref h4, .ref h5, .int 0, .int 0])), (h4, .inr (0, [.ref h6, .ref h7, .ref h8, .ref h9, .ref h10, .ref h11, .ref h12, .int 0, .int 0, .int 0, .int 0, .int 0, .int 0, .int 0, .int 0, .int 0, .int 0])), (h6, .inr (10, [.ref h13, .ref h14, .ref h15, .ref h16, .ref h17, .ref h1, .int 0, .int 0, .int 0, .int 0, .int 0, .long 0])), (h1, .inl (y0, 2600, .inl (fun _ => 0))), (h13, .inl (y1, 2501, .inl (fun _ => 0))), (h14, .inl (y2, 2501, .inl (fun _ => 0))), (h15, .inl (y3, 2501, .inl (fun _ => 0))), (h16, .inl (y4, 2501, .inr (.inl (fun _ => 0)))), (h11, .inr (4, [.ref h18, .ref h19, .ref h20, .int 0]))] sz)) 0 0 (va_A [(h0, .inr (11, [.ref h1, .ref h2, .ref h3, .ref h4, .ref h5, .int 0, .int 0])), (h4, .inr (0, [.ref h6, .ref h7, .ref h8, .ref h9, .ref h10, .ref h11, .ref h12, .int 0, .int 0, .int 0, .int 0, .int 0, .int 0, .int 0, .int 0, .int 0, .int 0])), (h6, .inr (10, [.ref h13, .ref h14, .ref h15, .ref h16, .ref h17, .ref h1, .int 0, .int 0, .int 0, .int 0, .int 0, .long 0])), (h1, .inl (y0, 2600, .inl (fun _ => 0))), (h13, .inl (y1, 2501, .inl (fun _ => 0))), (h14, .inl (y2, 2501, .inl (fun _ => 0))), (h15, .inl (y3, 2501, .inl (fun _ => 0))), (h16, .inl (y4, 2501, .inr (.inl (fun _ => 0)))), (h11, .inr (4, [.ref h18, .ref h19, .ref h20, .int 0]))] sz) := by
  refine Met.ofW (cc := cX11_assemble) (maxL := 2) (ret := (some .int)) (by decide) rfl ?_
  intro p e s m args below meth c s₁ B hml hv
  obtain ⟨rfl, hsz, hP, hK, hD0⟩ := hv
  have hx := B.exec
  have hb := B.bytes
  have hr := B.returns
  have hts0 := atoms_spec (ws := Cond.code yX11_assemble cX11_assemble 2 (some .int) :: lw_G) B.pre
  have hG : ∀ w ∈ lw_G, w.before _ s = true := fun w h => hts0 w (List.mem_cons_of_mem _ h)
  have hown : s.vm.findClass RX11 = some m.cls := findClass_of_methodNamed B.named
  have hlocks := B.notSynchronized
  subst hsz
  have hD := hD0.self (sz := s.heap.size)
  generalize hAe : va_A [(h0, .inr (11, [.ref h1, .ref h2, .ref h3, .ref h4, .ref h5, .int 0, .int 0])), (h4, .inr (0, [.ref h6, .ref h7, .ref h8, .ref h9, .ref h10, .ref h11, .ref h12, .int 0, .int 0, .int 0, .int 0, .int 0, .int 0, .int 0, .int 0, .int 0, .int 0])), (h6, .inr (10, [.ref h13, .ref h14, .ref h15, .ref h16, .ref h17, .ref h1, .int 0, .int 0, .int 0, .int 0, .int 0, .long 0])), (h1, .inl (y0, 2600, .inl (fun _ => 0))), (h13, .inl (y1, 2501, .inl (fun _ => 0))), (h14, .inl (y2, 2501, .inl (fun _ => 0))), (h15, .inl (y3, 2501, .inl (fun _ => 0))), (h16, .inl (y4, 2501, .inr (.inl (fun _ => 0)))), (h11, .inr (4, [.ref h18, .ref h19, .ref h20, .int 0]))] s.heap.size = A at hD ⊢
  have hA : ∀ q : Nat, s.heap.size ≤ q → A q := fun q h => by rw [← hAe]; exact Or.inr h
  have hS : va_S A s.heap s.heap [] := va_S.rf
  have hP : va_P (dC, dI) vwCl [(h0, .inr (11, [.ref h1, .ref h2, .ref h3, .ref h4, .ref h5, .int 0, .int 0])), (h4, .inr (0, [.ref h6, .ref h7, .ref h8, .ref h9, .ref h10, .ref h11, .ref h12, .int 0, .int 0, .int 0, .int 0, .int 0, .int 0, .int 0, .int 0, .int 0, .int 0])), (h6, .inr (10, [.ref h13, .ref h14, .ref h15, .ref h16, .ref h17, .ref h1, .int 0, .int 0, .int 0, .int 0, .int 0, .long 0])), (h1, .inl (y0, 2600, .inl (fun _ => 0))), (h13, .inl (y1, 2501, .inl (fun _ => 0))), (h14, .inl (y2, 2501, .inl (fun _ => 0))), (h15, .inl (y3, 2501, .inl (fun _ => 0))), (h16, .inl (y4, 2501, .inr (.inl (fun _ => 0)))), (h11, .inr (4, [.ref h18, .ref h19, .ref h20, .int 0]))] s.heap := hP
  have hl := lv_entry ([.ref h0]) (n := 2) (Nat.le_of_ble_eq_true rfl)
  rw [lg_entry_eq]
  generalize (lg_sl ([.ref h0]) ++ List.replicate (2 - (lg_sl ([.ref h0])).length) Slot.unset).toArray = ls at hl ⊢
  have hl : lv_has ls 2 [(0, .ref h0)] := hl
  refine lv_aload_n hx hb dX11_assemble_0 rfl (lv_at hl 0 rfl) ?_
  refine va_get (D := (dC, dI)) (ci := 11) (v := .int 0) (C := RX11) (T := TX11) (N := 7) hx hb hG inGX11 hown hK hP 0 rfl rfl 5 (by decide) (hG _ wd_400) (fun _ h9 => h9) rfl dX11_assemble_1 ?_
  refine lv_istore_n (lv' := [(1, .int 0), (0, .ref h0)]) hx hb dX11_assemble_4 rfl hl (by decide) rfl (fun ls hl => ?_)
  refine lv_aload_n hx hb dX11_assemble_5 rfl (lv_at hl 1 rfl) ?_
  refine lv_iconst (v := 0) hx hb dX11_assemble_6 (by decide) ?_
  refine va_put (D := (dC, dI)) (ci := 11) (v := .int 0) (ty := .int) (C := RX11) (T := TX11) (N := 7) hx hb hG inGX11 tyX11 tyX11_ok nmX11 hown hK hP hD hS 0 rfl rfl 5 (by decide) (hG _ wd_400) (fun _ h9 => h9) rfl (by decide +kernel) rfl rfl (Nat.le_of_ble_eq_true rfl) dX11_assemble_7 (fun H locs hP hD hS => ?_)
  have hP : va_P (dC, dI) vwCl [(h0, .inr (11, [.ref h1, .ref h2, .ref h3, .ref h4, .ref h5, .int 0, .int 0])), (h4, .inr (0, [.ref h6, .ref h7, .ref h8, .ref h9, .ref h10, .ref h11, .ref h12, .int 0, .int 0, .int 0, .int 0, .int 0, .int 0, .int 0, .int 0, .int 0, .int 0])), (h6, .inr (10, [.ref h13, .ref h14, .ref h15, .ref h16, .ref h17, .ref h1, .int 0, .int 0, .int 0, .int 0, .int 0, .long 0])), (h1, .inl (y0, 2600, .inl (fun _ => 0))), (h13, .inl (y1, 2501, .inl (fun _ => 0))), (h14, .inl (y2, 2501, .inl (fun _ => 0))), (h15, .inl (y3, 2501, .inl (fun _ => 0))), (h16, .inl (y4, 2501, .inr (.inl (fun _ => 0)))), (h11, .inr (4, [.ref h18, .ref h19, .ref h20, .int 0]))] H := hP
  have hD : va_D A [(h0, .inr (11, [.ref h1, .ref h2, .ref h3, .ref h4, .ref h5, .int 0, .int 0])), (h4, .inr (0, [.ref h6, .ref h7, .ref h8, .ref h9, .ref h10, .ref h11, .ref h12, .int 0, .int 0, .int 0, .int 0, .int 0, .int 0, .int 0, .int 0, .int 0, .int 0])), (h6, .inr (10, [.ref h13, .ref h14, .ref h15, .ref h16, .ref h17, .ref h1, .int 0, .int 0, .int 0, .int 0, .int 0, .long 0])), (h1, .inl (y0, 2600, .inl (fun _ => 0))), (h13, .inl (y1, 2501, .inl (fun _ => 0))), (h14, .inl (y2, 2501, .inl (fun _ => 0))), (h15, .inl (y3, 2501, .inl (fun _ => 0))), (h16, .inl (y4, 2501, .inr (.inl (fun _ => 0)))), (h11, .inr (4, [.ref h18, .ref h19, .ref h20, .int 0]))] := hD
  refine lv_aload_n hx hb dX11_assemble_10 rfl (lv_at hl 1 rfl) ?_
  refine va_get (D := (dC, dI)) (ci := 11) (v := .ref h4) (C := RX11) (T := TX11) (N := 7) hx hb hG inGX11 hown hK hP 0 rfl rfl 3 (by decide) (hG _ wd_398) (fun _ h9 => h9) rfl dX11_assemble_11 ?_
  refine lv_iload_n hx hb dX11_assemble_14 rfl (lv_at hl 0 rfl) ?_
  have hPc := hP.sub (ws' := [(h4, .inr (0, [.ref h6, .ref h7, .ref h8, .ref h9, .ref h10, .ref h11, .ref h12, .int 0, .int 0, .int 0, .int 0, .int 0, .int 0, .int 0, .int 0, .int 0, .int 0])), (h6, .inr (10, [.ref h13, .ref h14, .ref h15, .ref h16, .ref h17, .ref h1, .int 0, .int 0, .int 0, .int 0, .int 0, .long 0])), (h1, .inl (y0, 2600, .inl (fun _ => 0))), (h13, .inl (y1, 2501, .inl (fun _ => 0))), (h14, .inl (y2, 2501, .inl (fun _ => 0))), (h15, .inl (y3, 2501, .inl (fun _ => 0))), (h16, .inl (y4, 2501, .inr (.inl (fun _ => 0)))), (h11, .inr (4, [.ref h18, .ref h19, .ref h20, .int 0]))]) [1, 2, 3, 4, 5, 6, 7, 8] rfl
  have hDc := hD.sub (ws' := [(h4, .inr (0, [.ref h6, .ref h7, .ref h8, .ref h9, .ref h10, .ref h11, .ref h12, .int 0, .int 0, .int 0, .int 0, .int 0, .int 0, .int 0, .int 0, .int 0, .int 0])), (h6, .inr (10, [.ref h13, .ref h14, .ref h15, .ref h16, .ref h17, .ref h1, .int 0, .int 0, .int 0, .int 0, .int 0, .long 0])), (h1, .inl (y0, 2600, .inl (fun _ => 0))), (h13, .inl (y1, 2501, .inl (fun _ => 0))), (h14, .inl (y2, 2501, .inl (fun _ => 0))), (h15, .inl (y3, 2501, .inl (fun _ => 0))), (h16, .inl (y4, 2501, .inr (.inl (fun _ => 0)))), (h11, .inr (4, [.ref h18, .ref h19, .ref h20, .int 0]))]) [1, 2, 3, 4, 5, 6, 7, 8] (by decide) rfl
  have hKc := hK.sub (tys' := [(y0, .int), (y1, .int), (y2, .int), (y3, .int), (y4, .long)]) [0, 1, 2, 3, 4] rfl
  have hFc := va_free (wc := [(h4, .inr (0, [.ref h6, .ref h7, .ref h8, .ref h9, .ref h10, .ref h11, .ref h12, .int 0, .int 0, .int 0, .int 0, .int 0, .int 0, .int 0, .int 0, .int 0, .int 0])), (h6, .inr (10, [.ref h13, .ref h14, .ref h15, .ref h16, .ref h17, .ref h1, .int 0, .int 0, .int 0, .int 0, .int 0, .long 0])), (h1, .inl (y0, 2600, .inl (fun _ => 0))), (h13, .inl (y1, 2501, .inl (fun _ => 0))), (h14, .inl (y2, 2501, .inl (fun _ => 0))), (h15, .inl (y3, 2501, .inl (fun _ => 0))), (h16, .inl (y4, 2501, .inr (.inl (fun _ => 0)))), (h11, .inr (4, [.ref h18, .ref h19, .ref h20, .int 0]))]) hD hS hA [1, 2, 3, 4, 5, 6, 7, 8] rfl
  refine va_calli (va_runV (As := [.int 0]) (rest := []) ⟨hx, hb, hml, hown, hG⟩ (cX0_open_1 l dC dI h4 h6 h7 h8 h9 h10 h11 h12 h13 h14 h15 h16 h17 h1 h18 h19 h20 y0 y1 y2 y3 y4 H.size) (cwV 1 hG (gV wd_433 wd_434 wd_435 wd_8 wd_436) rfl rfl rfl (by decide +kernel) ⟨Nat.le_of_ble_eq_true rfl, Nat.le_of_ble_eq_true rfl⟩) ⟨fun a U g mk q => by obtain ⟨q0, q1, qP, qK, qD⟩ := q; exact ⟨q0, q1, qP, va_K.moved (u := U) (U := U.calling g mk a) (Vm.Alike.refl U.vm) qK, qD⟩, va_recv hKc hPc (ci := 0) (q0 := 0) rfl rfl, fun U hU hW => ⟨rfl, by rw [hU], by rw [hU]; exact hPc, va_K.moved hW.alike hKc, hDc.weaken (fun _ _ _ _ => trivial)⟩⟩ rfl rfl hl.1 rfl (lv_room (Nat.le_of_ble_eq_true rfl)) dX11_assemble_15 ⟨by decide, by decide⟩) hS (fun q _ h => hFc q h) hFc (fun r1 u2 t H1 locs ht hvm hw hB hz1 hk1 hS => ?_)
  obtain ⟨u2_0, u2_1, u2_2, u2_3⟩ := u2
  have hw : r1 = 1 ∧ (∀ j, iv (u2_0 j) 0 0) ∧ u2_0 0 = 0 ∧ (∀ j, iv (u2_1 j) 0 0) ∧ u2_1 0 = 0 ∧ (∀ j, iv (u2_2 j) 0 0) ∧ u2_2 0 = 0 ∧ u2_3 0 = 0 ∧ True := hw
  obtain ⟨er1, iu2_0, ku2_0_0, iu2_1, ku2_1_0, iu2_2, ku2_2_0, ku2_3_0, -⟩ := hw
  obtain ⟨hP1, hK1, hD1⟩ := hB
  rw [ht] at hP1
  have hK1 := va_K.moved hvm.symm hK1
  obtain ⟨hP, hD⟩ := va_join (wr := [(h0, .inr (11, [.ref h1, .ref h2, .ref h3, .ref h4, .ref h5, .int 0, .int 0]))]) (w1 := [(h4, .inr (0, [.ref h6, .ref h7, .ref h8, .ref h9, .ref h10, .ref h11, .ref h12, .int 0, .int 0, .int 0, .int 0, .int 0, .int 0, .int 0, .int 0, .int 0, .int 0])), (h6, .inr (10, [.ref h13, .ref h14, .ref h15, .ref h16, .ref h17, .ref h1, .int 0, .int 1, .int 0, .int 0, .int 0, .long 0])), (h1, .inl (y0, 2600, .inl (fun _ => 0))), (h13, .inl (y1, 2501, .inl u2_0)), (h14, .inl (y2, 2501, .inl u2_1)), (h15, .inl (y3, 2501, .inl u2_2)), (h16, .inl (y4, 2501, .inr (.inl u2_3))), (h11, .inr (4, [.ref h18, .ref h19, .ref h20, .int 0]))]) hP hD [1, 2, 3, 4, 5, 6, 7, 8] [0] rfl rfl (by decide) (by decide) hk1 hFc hP1 hD1
  have hK := (hK.sub (tys' := []) [] rfl).app hK1
  generalize H1 = H at hP hS ⊢
  have hP : va_P (dC, dI) vwCl [(h0, .inr (11, [.ref h1, .ref h2, .ref h3, .ref h4, .ref h5, .int 0, .int 0])), (h4, .inr (0, [.ref h6, .ref h7, .ref h8, .ref h9, .ref h10, .ref h11, .ref h12, .int 0, .int 0, .int 0, .int 0, .int 0, .int 0, .int 0, .int 0, .int 0, .int 0])), (h6, .inr (10, [.ref h13, .ref h14, .ref h15, .ref h16, .ref h17, .ref h1, .int 0, .int 1, .int 0, .int 0, .int 0, .long 0])), (h1, .inl (y0, 2600, .inl (fun _ => 0))), (h13, .inl (y1, 2501, .inl u2_0)), (h14, .inl (y2, 2501, .inl u2_1)), (h15, .inl (y3, 2501, .inl u2_2)), (h16, .inl (y4, 2501, .inr (.inl u2_3))), (h11, .inr (4, [.ref h18, .ref h19, .ref h20, .int 0]))] H := hP
  have hD : va_D A [(h0, .inr (11, [.ref h1, .ref h2, .ref h3, .ref h4, .ref h5, .int 0, .int 0])), (h4, .inr (0, [.ref h6, .ref h7, .ref h8, .ref h9, .ref h10, .ref h11, .ref h12, .int 0, .int 0, .int 0, .int 0, .int 0, .int 0, .int 0, .int 0, .int 0, .int 0])), (h6, .inr (10, [.ref h13, .ref h14, .ref h15, .ref h16, .ref h17, .ref h1, .int 0, .int 1, .int 0, .int 0, .int 0, .long 0])), (h1, .inl (y0, 2600, .inl (fun _ => 0))), (h13, .inl (y1, 2501, .inl u2_0)), (h14, .inl (y2, 2501, .inl u2_1)), (h15, .inl (y3, 2501, .inl u2_2)), (h16, .inl (y4, 2501, .inr (.inl u2_3))), (h11, .inr (4, [.ref h18, .ref h19, .ref h20, .int 0]))] := hD
  have hK : va_K (dC, dI) vwCl [(y0, .int), (y1, .int), (y2, .int), (y3, .int), (y4, .long)] s := hK
  subst er1
  refine lv_if_eq (tgt := 62) hx hb dX11_assemble_18 (by decide) (fun c => absurd c (by decide)) (fun _ => ?_)
  refine lv_aload_n hx hb dX11_assemble_21 rfl (lv_at hl 1 rfl) ?_
  refine va_get (D := (dC, dI)) (ci := 11) (v := .ref h4) (C := RX11) (T := TX11) (N := 7) hx hb hG inGX11 hown hK hP 0 rfl rfl 3 (by decide) (hG _ wd_398) (fun _ h9 => h9) rfl dX11_assemble_22 ?_
  refine lv_iconst (v := 0) hx hb dX11_assemble_25 (by decide) ?_
  have hPc := hP.sub (ws' := [(h4, .inr (0, [.ref h6, .ref h7, .ref h8, .ref h9, .ref h10, .ref h11, .ref h12, .int 0, .int 0, .int 0, .int 0, .int 0, .int 0, .int 0, .int 0, .int 0, .int 0])), (h6, .inr (10, [.ref h13, .ref h14, .ref h15, .ref h16, .ref h17, .ref h1, .int 0, .int 1, .int 0, .int 0, .int 0, .long 0])), (h13, .inl (y1, 2501, .inl u2_0)), (h16, .inl (y4, 2501, .inr (.inl u2_3)))]) [1, 2, 4, 7] rfl
  have hDc := hD.sub (ws' := [(h4, .inr (0, [.ref h6, .ref h7, .ref h8, .ref h9, .ref h10, .ref h11, .ref h12, .int 0, .int 0, .int 0, .int 0, .int 0, .int 0, .int 0, .int 0, .int 0, .int 0])), (h6, .inr (10, [.ref h13, .ref h14, .ref h15, .ref h16, .ref h17, .ref h1, .int 0, .int 1, .int 0, .int 0, .int 0, .long 0])), (h13, .inl (y1, 2501, .inl u2_0)), (h16, .inl (y4, 2501, .inr (.inl u2_3)))]) [1, 2, 4, 7] (by decide) rfl
  have hKc := hK.sub (tys' := [(y1, .int), (y4, .long)]) [1, 4] rfl
  have hFc := va_free (wc := [(h4, .inr (0, [.ref h6, .ref h7, .ref h8, .ref h9, .ref h10, .ref h11, .ref h12, .int 0, .int 0, .int 0, .int 0, .int 0, .int 0, .int 0, .int 0, .int 0, .int 0])), (h6, .inr (10, [.ref h13, .ref h14, .ref h15, .ref h16, .ref h17, .ref h1, .int 0, .int 1, .int 0, .int 0, .int 0, .long 0])), (h13, .inl (y1, 2501, .inl u2_0)), (h16, .inl (y4, 2501, .inr (.inl u2_3)))]) hD hS hA [1, 2, 4, 7] rfl
  refine va_calli (va_runV (As := [.int 0]) (rest := []) ⟨hx, hb, hml, hown, hG⟩ (cX0_pass_1 l dC dI h4 h6 h7 h8 h9 h10 h11 h12 h13 h14 h15 h16 h17 h1 y1 y4 H.size u2_0 u2_3 iu2_0 ku2_0_0 ku2_3_0) (cwV 1 hG (gV wd_543 wd_544 wd_545 wd_8 wd_546) rfl rfl rfl (by decide +kernel) ⟨Nat.le_of_ble_eq_true rfl, Nat.le_of_ble_eq_true rfl⟩) ⟨fun a U g mk q => by obtain ⟨q0, q1, qP, qK, qD⟩ := q; exact ⟨q0, q1, qP, va_K.moved (u := U) (U := U.calling g mk a) (Vm.Alike.refl U.vm) qK, qD⟩, va_recv hKc hPc (ci := 0) (q0 := 0) rfl rfl, fun U hU hW => ⟨rfl, by rw [hU], by rw [hU]; exact hPc, va_K.moved hW.alike hKc, hDc.weaken (fun _ _ _ _ => trivial)⟩⟩ rfl rfl hl.1 rfl (lv_room (Nat.le_of_ble_eq_true rfl)) dX11_assemble_26 ⟨by decide, by decide⟩) hS (fun q _ h => hFc q h) hFc (fun r3 u4 t H1 locs ht hvm hw hB hz1 hk1 hS => ?_)
  have hw : r3 = 1 ∧ True := hw
  obtain ⟨er3, -⟩ := hw
  obtain ⟨hP1, hK1, hD1⟩ := hB
  rw [ht] at hP1
  have hK1 := va_K.moved hvm.symm hK1
  obtain ⟨hP, hD⟩ := va_join (wr := [(h0, .inr (11, [.ref h1, .ref h2, .ref h3, .ref h4, .ref h5, .int 0, .int 0])), (h1, .inl (y0, 2600, .inl (fun _ => 0))), (h14, .inl (y2, 2501, .inl u2_1)), (h15, .inl (y3, 2501, .inl u2_2)), (h11, .inr (4, [.ref h18, .ref h19, .ref h20, .int 0]))]) (w1 := [(h4, .inr (0, [.ref h6, .ref h7, .ref h8, .ref h9, .ref h10, .ref h11, .ref h12, .int 0, .int 0, .int 0, .int 49152, .int 49152, .int 0, .int 0, .int 0, .int 0, .int 0])), (h6, .inr (10, [.ref h13, .ref h14, .ref h15, .ref h16, .ref h17, .ref h1, .int 0, .int 1, .int 0, .int 0, .int 0, .long 0])), (h13, .inl (y1, 2501, .inl u2_0)), (h16, .inl (y4, 2501, .inr (.inl u2_3)))]) hP hD [1, 2, 4, 7] [0, 3, 5, 6, 8] rfl rfl (by decide) (by decide) hk1 hFc hP1 hD1
  have hK := (hK.sub (tys' := [(y0, .int), (y2, .int), (y3, .int)]) [0, 2, 3] rfl).app hK1
  generalize H1 = H at hP hS ⊢
  have hP : va_P (dC, dI) vwCl [(h0, .inr (11, [.ref h1, .ref h2, .ref h3, .ref h4, .ref h5, .int 0, .int 0])), (h1, .inl (y0, 2600, .inl (fun _ => 0))), (h14, .inl (y2, 2501, .inl u2_1)), (h15, .inl (y3, 2501, .inl u2_2)), (h11, .inr (4, [.ref h18, .ref h19, .ref h20, .int 0])), (h4, .inr (0, [.ref h6, .ref h7, .ref h8, .ref h9, .ref h10, .ref h11, .ref h12, .int 0, .int 0, .int 0, .int 49152, .int 49152, .int 0, .int 0, .int 0, .int 0, .int 0])), (h6, .inr (10, [.ref h13, .ref h14, .ref h15, .ref h16, .ref h17, .ref h1, .int 0, .int 1, .int 0, .int 0, .int 0, .long 0])), (h13, .inl (y1, 2501, .inl u2_0)), (h16, .inl (y4, 2501, .inr (.inl u2_3)))] H := hP
  have hD : va_D A [(h0, .inr (11, [.ref h1, .ref h2, .ref h3, .ref h4, .ref h5, .int 0, .int 0])), (h1, .inl (y0, 2600, .inl (fun _ => 0))), (h14, .inl (y2, 2501, .inl u2_1)), (h15, .inl (y3, 2501, .inl u2_2)), (h11, .inr (4, [.ref h18, .ref h19, .ref h20, .int 0])), (h4, .inr (0, [.ref h6, .ref h7, .ref h8, .ref h9, .ref h10, .ref h11, .ref h12, .int 0, .int 0, .int 0, .int 49152, .int 49152, .int 0, .int 0, .int 0, .int 0, .int 0])), (h6, .inr (10, [.ref h13, .ref h14, .ref h15, .ref h16, .ref h17, .ref h1, .int 0, .int 1, .int 0, .int 0, .int 0, .long 0])), (h13, .inl (y1, 2501, .inl u2_0)), (h16, .inl (y4, 2501, .inr (.inl u2_3)))] := hD
  have hK : va_K (dC, dI) vwCl [(y0, .int), (y2, .int), (y3, .int), (y1, .int), (y4, .long)] s := hK
  subst er3
  refine lv_if_eq (tgt := 62) hx hb dX11_assemble_29 (by decide) (fun c => absurd c (by decide)) (fun _ => ?_)
  refine lv_aload_n hx hb dX11_assemble_32 rfl (lv_at hl 1 rfl) ?_
  refine va_get (D := (dC, dI)) (ci := 11) (v := .ref h4) (C := RX11) (T := TX11) (N := 7) hx hb hG inGX11 hown hK hP 0 rfl rfl 3 (by decide) (hG _ wd_398) (fun _ h9 => h9) rfl dX11_assemble_33 ?_
  refine lv_iconst (v := 1) hx hb dX11_assemble_36 (by decide) ?_
  have hPc := hP.sub (ws' := [(h4, .inr (0, [.ref h6, .ref h7, .ref h8, .ref h9, .ref h10, .ref h11, .ref h12, .int 0, .int 0, .int 0, .int 49152, .int 49152, .int 0, .int 0, .int 0, .int 0, .int 0])), (h6, .inr (10, [.ref h13, .ref h14, .ref h15, .ref h16, .ref h17, .ref h1, .int 0, .int 1, .int 0, .int 0, .int 0, .long 0])), (h13, .inl (y1, 2501, .inl u2_0)), (h16, .inl (y4, 2501, .inr (.inl u2_3)))]) [5, 6, 7, 8] rfl
  have hDc := hD.sub (ws' := [(h4, .inr (0, [.ref h6, .ref h7, .ref h8, .ref h9, .ref h10, .ref h11, .ref h12, .int 0, .int 0, .int 0, .int 49152, .int 49152, .int 0, .int 0, .int 0, .int 0, .int 0])), (h6, .inr (10, [.ref h13, .ref h14, .ref h15, .ref h16, .ref h17, .ref h1, .int 0, .int 1, .int 0, .int 0, .int 0, .long 0])), (h13, .inl (y1, 2501, .inl u2_0)), (h16, .inl (y4, 2501, .inr (.inl u2_3)))]) [5, 6, 7, 8] (by decide) rfl
  have hKc := hK.sub (tys' := [(y1, .int), (y4, .long)]) [3, 4] rfl
  have hFc := va_free (wc := [(h4, .inr (0, [.ref h6, .ref h7, .ref h8, .ref h9, .ref h10, .ref h11, .ref h12, .int 0, .int 0, .int 0, .int 49152, .int 49152, .int 0, .int 0, .int 0, .int 0, .int 0])), (h6, .inr (10, [.ref h13, .ref h14, .ref h15, .ref h16, .ref h17, .ref h1, .int 0, .int 1, .int 0, .int 0, .int 0, .long 0])), (h13, .inl (y1, 2501, .inl u2_0)), (h16, .inl (y4, 2501, .inr (.inl u2_3)))]) hD hS hA [5, 6, 7, 8] rfl
  refine va_calli (va_runV (As := [.int 1]) (rest := []) ⟨hx, hb, hml, hown, hG⟩ (cX0_pass_2 l dC dI h4 h6 h7 h8 h9 h10 h11 h12 h13 h14 h15 h16 h17 h1 y1 y4 H.size u2_0 u2_3 iu2_0 ku2_0_0 ku2_3_0) (cwV 1 hG (gV wd_543 wd_544 wd_545 wd_8 wd_546) rfl rfl rfl (by decide +kernel) ⟨Nat.le_of_ble_eq_true rfl, Nat.le_of_ble_eq_true rfl⟩) ⟨fun a U g mk q => by obtain ⟨q0, q1, qP, qK, qD⟩ := q; exact ⟨q0, q1, qP, va_K.moved (u := U) (U := U.calling g mk a) (Vm.Alike.refl U.vm) qK, qD⟩, va_recv hKc hPc (ci := 0) (q0 := 0) rfl rfl, fun U hU hW => ⟨rfl, by rw [hU], by rw [hU]; exact hPc, va_K.moved hW.alike hKc, hDc.weaken (fun _ _ _ _ => trivial)⟩⟩ rfl rfl hl.1 rfl (lv_room (Nat.le_of_ble_eq_true rfl)) dX11_assemble_37 ⟨by decide, by decide⟩) hS (fun q _ h => hFc q h) hFc (fun r5 u6 t H1 locs ht hvm hw hB hz1 hk1 hS => ?_)
  have hw : r5 = 1 ∧ True := hw
  obtain ⟨er5, -⟩ := hw
  obtain ⟨hP1, hK1, hD1⟩ := hB
  rw [ht] at hP1
  have hK1 := va_K.moved hvm.symm hK1
  obtain ⟨hP, hD⟩ := va_join (wr := [(h0, .inr (11, [.ref h1, .ref h2, .ref h3, .ref h4, .ref h5, .int 0, .int 0])), (h1, .inl (y0, 2600, .inl (fun _ => 0))), (h14, .inl (y2, 2501, .inl u2_1)), (h15, .inl (y3, 2501, .inl u2_2)), (h11, .inr (4, [.ref h18, .ref h19, .ref h20, .int 0]))]) (w1 := [(h4, .inr (0, [.ref h6, .ref h7, .ref h8, .ref h9, .ref h10, .ref h11, .ref h12, .int 0, .int 1, .int 0, .int 49152, .int 49152, .int 0, .int 0, .int 0, .int 0, .int 0])), (h6, .inr (10, [.ref h13, .ref h14, .ref h15, .ref h16, .ref h17, .ref h1, .int 0, .int 1, .int 0, .int 0, .int 0, .long 0])), (h13, .inl (y1, 2501, .inl u2_0)), (h16, .inl (y4, 2501, .inr (.inl u2_3)))]) hP hD [5, 6, 7, 8] [0, 1, 2, 3, 4] rfl rfl (by decide) (by decide) hk1 hFc hP1 hD1
  have hK := (hK.sub (tys' := [(y0, .int), (y2, .int), (y3, .int)]) [0, 1, 2] rfl).app hK1
  generalize H1 = H at hP hS ⊢
  have hP : va_P (dC, dI) vwCl [(h0, .inr (11, [.ref h1, .ref h2, .ref h3, .ref h4, .ref h5, .int 0, .int 0])), (h1, .inl (y0, 2600, .inl (fun _ => 0))), (h14, .inl (y2, 2501, .inl u2_1)), (h15, .inl (y3, 2501, .inl u2_2)), (h11, .inr (4, [.ref h18, .ref h19, .ref h20, .int 0])), (h4, .inr (0, [.ref h6, .ref h7, .ref h8, .ref h9, .ref h10, .ref h11, .ref h12, .int 0, .int 1, .int 0, .int 49152, .int 49152, .int 0, .int 0, .int 0, .int 0, .int 0])), (h6, .inr (10, [.ref h13, .ref h14, .ref h15, .ref h16, .ref h17, .ref h1, .int 0, .int 1, .int 0, .int 0, .int 0, .long 0])), (h13, .inl (y1, 2501, .inl u2_0)), (h16, .inl (y4, 2501, .inr (.inl u2_3)))] H := hP
  have hD : va_D A [(h0, .inr (11, [.ref h1, .ref h2, .ref h3, .ref h4, .ref h5, .int 0, .int 0])), (h1, .inl (y0, 2600, .inl (fun _ => 0))), (h14, .inl (y2, 2501, .inl u2_1)), (h15, .inl (y3, 2501, .inl u2_2)), (h11, .inr (4, [.ref h18, .ref h19, .ref h20, .int 0])), (h4, .inr (0, [.ref h6, .ref h7, .ref h8, .ref h9, .ref h10, .ref h11, .ref h12, .int 0, .int 1, .int 0, .int 49152, .int 49152, .int 0, .int 0, .int 0, .int 0, .int 0])), (h6, .inr (10, [.ref h13, .ref h14, .ref h15, .ref h16, .ref h17, .ref h1, .int 0, .int 1, .int 0, .int 0, .int 0, .long 0])), (h13, .inl (y1, 2501, .inl u2_0)), (h16, .inl (y4, 2501, .inr (.inl u2_3)))] := hD
  have hK : va_K (dC, dI) vwCl [(y0, .int), (y2, .int), (y3, .int), (y1, .int), (y4, .long)] s := hK
  subst er5
  refine lv_if_eq (tgt := 62) hx hb dX11_assemble_40 (by decide) (fun c => absurd c (by decide)) (fun _ => ?_)
  refine lv_aload_n hx hb dX11_assemble_43 rfl (lv_at hl 1 rfl) ?_
  refine va_get (D := (dC, dI)) (ci := 11) (v := .ref h4) (C := RX11) (T := TX11) (N := 7) hx hb hG inGX11 hown hK hP 0 rfl rfl 3 (by decide) (hG _ wd_398) (fun _ h9 => h9) rfl dX11_assemble_44 ?_
  have hPc := hP.sub (ws' := [(h4, .inr (0, [.ref h6, .ref h7, .ref h8, .ref h9, .ref h10, .ref h11, .ref h12, .int 0, .int 1, .int 0, .int 49152, .int 49152, .int 0, .int 0, .int 0, .int 0, .int 0]))]) [5] rfl
  have hDc := hD.sub (ws' := [(h4, .inr (0, [.ref h6, .ref h7, .ref h8, .ref h9, .ref h10, .ref h11, .ref h12, .int 0, .int 1, .int 0, .int 49152, .int 49152, .int 0, .int 0, .int 0, .int 0, .int 0]))]) [5] (by decide) rfl
  have hKc := hK.sub (tys' := []) [] rfl
  have hFc := va_free (wc := [(h4, .inr (0, [.ref h6, .ref h7, .ref h8, .ref h9, .ref h10, .ref h11, .ref h12, .int 0, .int 1, .int 0, .int 49152, .int 49152, .int 0, .int 0, .int 0, .int 0, .int 0]))]) hD hS hA [5] rfl
  refine va_callv (va_runV (As := []) (rest := []) ⟨hx, hb, hml, hown, hG⟩ (cX0_keepLabels_1 l dC dI h4 h6 h7 h8 h9 h10 h11 h12 H.size) (cwV 0 hG (gV wd_702 wd_703 wd_704 wd_8 wd_705) rfl rfl rfl (by decide +kernel) ⟨Nat.le_of_ble_eq_true rfl, Nat.le_of_ble_eq_true rfl⟩) ⟨fun a U g mk q => by obtain ⟨q0, q1, qP, qK, qD⟩ := q; exact ⟨q0, q1, qP, va_K.moved (u := U) (U := U.calling g mk a) (Vm.Alike.refl U.vm) qK, qD⟩, va_recv hKc hPc (ci := 0) (q0 := 0) rfl rfl, fun U hU hW => ⟨rfl, by rw [hU], by rw [hU]; exact hPc, va_K.moved hW.alike hKc, hDc.weaken (fun _ _ _ _ => trivial)⟩⟩ rfl rfl hl.1 rfl (lv_room (Nat.le_of_ble_eq_true rfl)) dX11_assemble_47 ⟨by decide, by decide⟩) hS (fun q _ h => hFc q h) hFc (fun u8 t H1 locs ht hvm hw hB hz1 hk1 hS => ?_)
  obtain ⟨hP1, hK1, hD1⟩ := hB
  rw [ht] at hP1
  have hK1 := va_K.moved hvm.symm hK1
  obtain ⟨hP, hD⟩ := va_join (wr := [(h0, .inr (11, [.ref h1, .ref h2, .ref h3, .ref h4, .ref h5, .int 0, .int 0])), (h1, .inl (y0, 2600, .inl (fun _ => 0))), (h14, .inl (y2, 2501, .inl u2_1)), (h15, .inl (y3, 2501, .inl u2_2)), (h11, .inr (4, [.ref h18, .ref h19, .ref h20, .int 0])), (h6, .inr (10, [.ref h13, .ref h14, .ref h15, .ref h16, .ref h17, .ref h1, .int 0, .int 1, .int 0, .int 0, .int 0, .long 0])), (h13, .inl (y1, 2501, .inl u2_0)), (h16, .inl (y4, 2501, .inr (.inl u2_3)))]) (w1 := [(h4, .inr (0, [.ref h6, .ref h7, .ref h8, .ref h9, .ref h10, .ref h12, .ref h11, .int 0, .int 1, .int 0, .int 49152, .int 49152, .int 0, .int 0, .int 0, .int 0, .int 0]))]) hP hD [5] [0, 1, 2, 3, 4, 6, 7, 8] rfl rfl (by decide) (by decide) hk1 hFc hP1 hD1
  have hK := (hK.sub (tys' := [(y0, .int), (y2, .int), (y3, .int), (y1, .int), (y4, .long)]) [0, 1, 2, 3, 4] rfl).app hK1
  generalize H1 = H at hP hS ⊢
  have hP : va_P (dC, dI) vwCl [(h0, .inr (11, [.ref h1, .ref h2, .ref h3, .ref h4, .ref h5, .int 0, .int 0])), (h1, .inl (y0, 2600, .inl (fun _ => 0))), (h14, .inl (y2, 2501, .inl u2_1)), (h15, .inl (y3, 2501, .inl u2_2)), (h11, .inr (4, [.ref h18, .ref h19, .ref h20, .int 0])), (h6, .inr (10, [.ref h13, .ref h14, .ref h15, .ref h16, .ref h17, .ref h1, .int 0, .int 1, .int 0, .int 0, .int 0, .long 0])), (h13, .inl (y1, 2501, .inl u2_0)), (h16, .inl (y4, 2501, .inr (.inl u2_3))), (h4, .inr (0, [.ref h6, .ref h7, .ref h8, .ref h9, .ref h10, .ref h12, .ref h11, .int 0, .int 1, .int 0, .int 49152, .int 49152, .int 0, .int 0, .int 0, .int 0, .int 0]))] H := hP
  have hD : va_D A [(h0, .inr (11, [.ref h1, .ref h2, .ref h3, .ref h4, .ref h5, .int 0, .int 0])), (h1, .inl (y0, 2600, .inl (fun _ => 0))), (h14, .inl (y2, 2501, .inl u2_1)), (h15, .inl (y3, 2501, .inl u2_2)), (h11, .inr (4, [.ref h18, .ref h19, .ref h20, .int 0])), (h6, .inr (10, [.ref h13, .ref h14, .ref h15, .ref h16, .ref h17, .ref h1, .int 0, .int 1, .int 0, .int 0, .int 0, .long 0])), (h13, .inl (y1, 2501, .inl u2_0)), (h16, .inl (y4, 2501, .inr (.inl u2_3))), (h4, .inr (0, [.ref h6, .ref h7, .ref h8, .ref h9, .ref h10, .ref h12, .ref h11, .int 0, .int 1, .int 0, .int 49152, .int 49152, .int 0, .int 0, .int 0, .int 0, .int 0]))] := hD
  have hK : va_K (dC, dI) vwCl [(y0, .int), (y2, .int), (y3, .int), (y1, .int), (y4, .long)] s := hK
  refine lv_aload_n hx hb dX11_assemble_50 rfl (lv_at hl 1 rfl) ?_
  refine va_get (D := (dC, dI)) (ci := 11) (v := .ref h4) (C := RX11) (T := TX11) (N := 7) hx hb hG inGX11 hown hK hP 0 rfl rfl 3 (by decide) (hG _ wd_398) (fun _ h9 => h9) rfl dX11_assemble_51 ?_
  refine lv_aload_n hx hb dX11_assemble_54 rfl (lv_at hl 1 rfl) ?_
  refine va_get (D := (dC, dI)) (ci := 11) (v := .ref h2) (C := RX11) (T := TX11) (N := 7) hx hb hG inGX11 hown hK hP 0 rfl rfl 1 (by decide) (hG _ wd_396) (fun _ h9 => h9) rfl dX11_assemble_55 ?_
  have hPc := hP.sub (ws' := [(h4, .inr (0, [.ref h6, .ref h7, .ref h8, .ref h9, .ref h10, .ref h12, .ref h11, .int 0, .int 1, .int 0, .int 49152, .int 49152, .int 0, .int 0, .int 0, .int 0, .int 0]))]) [8] rfl
  have hDc := hD.sub (ws' := [(h4, .inr (0, [.ref h6, .ref h7, .ref h8, .ref h9, .ref h10, .ref h12, .ref h11, .int 0, .int 1, .int 0, .int 49152, .int 49152, .int 0, .int 0, .int 0, .int 0, .int 0]))]) [8] (by decide) rfl
  have hKc := hK.sub (tys' := []) [] rfl
  have hFc := va_free (wc := [(h4, .inr (0, [.ref h6, .ref h7, .ref h8, .ref h9, .ref h10, .ref h12, .ref h11, .int 0, .int 1, .int 0, .int 49152, .int 49152, .int 0, .int 0, .int 0, .int 0, .int 0]))]) hD hS hA [8] rfl
  refine va_calli (va_runV (As := [.ref h2]) (rest := []) ⟨hx, hb, hml, hown, hG⟩ (cX0_writeTo_1 l dC dI h4 h2 h6 h7 h8 h9 h10 h12 h11 H.size) (cwV 1 hG (gV wd_706 wd_707 wd_708 wd_8 wd_709) rfl rfl rfl (by decide +kernel) ⟨Nat.le_of_ble_eq_true rfl, Nat.le_of_ble_eq_true rfl⟩) ⟨fun a U g mk q => by obtain ⟨q0, q1, qP, qK, qD⟩ := q; exact ⟨q0, q1, qP, va_K.moved (u := U) (U := U.calling g mk a) (Vm.Alike.refl U.vm) qK, qD⟩, va_recv hKc hPc (ci := 0) (q0 := 0) rfl rfl, fun U hU hW => ⟨rfl, by rw [hU], by rw [hU]; exact hPc, va_K.moved hW.alike hKc, hDc.weaken (fun _ _ _ _ => trivial)⟩⟩ rfl rfl hl.1 rfl (lv_room (Nat.le_of_ble_eq_true rfl)) dX11_assemble_58 ⟨by decide, by decide⟩) hS (fun q _ h => hFc q h) hFc (fun r9 u10 t H1 locs ht hvm hw hB hz1 hk1 hS => ?_)
  have hw : r9 = 0 ∧ True := hw
  obtain ⟨er9, -⟩ := hw
  obtain ⟨hP1, hK1, hD1⟩ := hB
  rw [ht] at hP1
  have hK1 := va_K.moved hvm.symm hK1
  obtain ⟨hP, hD⟩ := va_join (wr := [(h0, .inr (11, [.ref h1, .ref h2, .ref h3, .ref h4, .ref h5, .int 0, .int 0])), (h1, .inl (y0, 2600, .inl (fun _ => 0))), (h14, .inl (y2, 2501, .inl u2_1)), (h15, .inl (y3, 2501, .inl u2_2)), (h11, .inr (4, [.ref h18, .ref h19, .ref h20, .int 0])), (h6, .inr (10, [.ref h13, .ref h14, .ref h15, .ref h16, .ref h17, .ref h1, .int 0, .int 1, .int 0, .int 0, .int 0, .long 0])), (h13, .inl (y1, 2501, .inl u2_0)), (h16, .inl (y4, 2501, .inr (.inl u2_3)))]) (w1 := [(h4, .inr (0, [.ref h6, .ref h7, .ref h8, .ref h9, .ref h10, .ref h12, .ref h11, .int 0, .int 1, .int 0, .int 49152, .int 49152, .int 0, .int 0, .int 0, .int 0, .int 0]))]) hP hD [8] [0, 1, 2, 3, 4, 5, 6, 7] rfl rfl (by decide) (by decide) hk1 hFc hP1 hD1
  have hK := (hK.sub (tys' := [(y0, .int), (y2, .int), (y3, .int), (y1, .int), (y4, .long)]) [0, 1, 2, 3, 4] rfl).app hK1
  generalize H1 = H at hP hS ⊢
  have hP : va_P (dC, dI) vwCl [(h0, .inr (11, [.ref h1, .ref h2, .ref h3, .ref h4, .ref h5, .int 0, .int 0])), (h1, .inl (y0, 2600, .inl (fun _ => 0))), (h14, .inl (y2, 2501, .inl u2_1)), (h15, .inl (y3, 2501, .inl u2_2)), (h11, .inr (4, [.ref h18, .ref h19, .ref h20, .int 0])), (h6, .inr (10, [.ref h13, .ref h14, .ref h15, .ref h16, .ref h17, .ref h1, .int 0, .int 1, .int 0, .int 0, .int 0, .long 0])), (h13, .inl (y1, 2501, .inl u2_0)), (h16, .inl (y4, 2501, .inr (.inl u2_3))), (h4, .inr (0, [.ref h6, .ref h7, .ref h8, .ref h9, .ref h10, .ref h12, .ref h11, .int 0, .int 1, .int 0, .int 49152, .int 49152, .int 0, .int 0, .int 0, .int 0, .int 0]))] H := hP
  have hD : va_D A [(h0, .inr (11, [.ref h1, .ref h2, .ref h3, .ref h4, .ref h5, .int 0, .int 0])), (h1, .inl (y0, 2600, .inl (fun _ => 0))), (h14, .inl (y2, 2501, .inl u2_1)), (h15, .inl (y3, 2501, .inl u2_2)), (h11, .inr (4, [.ref h18, .ref h19, .ref h20, .int 0])), (h6, .inr (10, [.ref h13, .ref h14, .ref h15, .ref h16, .ref h17, .ref h1, .int 0, .int 1, .int 0, .int 0, .int 0, .long 0])), (h13, .inl (y1, 2501, .inl u2_0)), (h16, .inl (y4, 2501, .inr (.inl u2_3))), (h4, .inr (0, [.ref h6, .ref h7, .ref h8, .ref h9, .ref h10, .ref h12, .ref h11, .int 0, .int 1, .int 0, .int 49152, .int 49152, .int 0, .int 0, .int 0, .int 0, .int 0]))] := hD
  have hK : va_K (dC, dI) vwCl [(y0, .int), (y2, .int), (y3, .int), (y1, .int), (y4, .long)] s := hK
  subst er9
  have hP9 := hP.sub (ws' := [(h0, .inr (11, [.ref h1, .ref h2, .ref h3, .ref h4, .ref h5, .int 0, .int 0])), (h4, .inr (0, [.ref h6, .ref h7, .ref h8, .ref h9, .ref h10, .ref h12, .ref h11, .int 0, .int 1, .int 0, .int 49152, .int 49152, .int 0, .int 0, .int 0, .int 0, .int 0])), (h6, .inr (10, [.ref h13, .ref h14, .ref h15, .ref h16, .ref h17, .ref h1, .int 0, .int 1, .int 0, .int 0, .int 0, .long 0])), (h1, .inl (y0, 2600, .inl (fun _ => 0))), (h13, .inl (y1, 2501, .inl u2_0)), (h14, .inl (y2, 2501, .inl u2_1)), (h15, .inl (y3, 2501, .inl u2_2)), (h16, .inl (y4, 2501, .inr (.inl u2_3))), (h11, .inr (4, [.ref h18, .ref h19, .ref h20, .int 0]))]) [0, 8, 5, 1, 6, 2, 3, 7, 4] rfl
  have hD9 := hD.sub (ws' := [(h0, .inr (11, [.ref h1, .ref h2, .ref h3, .ref h4, .ref h5, .int 0, .int 0])), (h4, .inr (0, [.ref h6, .ref h7, .ref h8, .ref h9, .ref h10, .ref h12, .ref h11, .int 0, .int 1, .int 0, .int 49152, .int 49152, .int 0, .int 0, .int 0, .int 0, .int 0])), (h6, .inr (10, [.ref h13, .ref h14, .ref h15, .ref h16, .ref h17, .ref h1, .int 0, .int 1, .int 0, .int 0, .int 0, .long 0])), (h1, .inl (y0, 2600, .inl (fun _ => 0))), (h13, .inl (y1, 2501, .inl u2_0)), (h14, .inl (y2, 2501, .inl u2_1)), (h15, .inl (y3, 2501, .inl u2_2)), (h16, .inl (y4, 2501, .inr (.inl u2_3))), (h11, .inr (4, [.ref h18, .ref h19, .ref h20, .int 0]))]) [0, 8, 5, 1, 6, 2, 3, 7, 4] (by decide) rfl
  have hK9 := hK.sub (tys' := [(y0, .int), (y1, .int), (y2, .int), (y3, .int), (y4, .long)]) [0, 3, 1, 2, 4] rfl
  exact W.iret (v := 0) hx hb hr (fun t ht hW => ⟨⟨0, (u2_0, u2_1, u2_2, u2_3), rfl, ⟨rfl, (fun j => iv_w (iu2_0 j) (by decide) (by decide)), ku2_0_0, (fun j => iv_w (iu2_1 j) (by decide) (by decide)), ku2_1_0, (fun j => iv_w (iu2_2 j) (by decide) (by decide)), ku2_2_0, ku2_3_0, trivial⟩, by rw [ht]; exact hP9, va_K.moved hW.alike hK9, hD9⟩, hS.F ht⟩) hS.2.2 dX11_assemble_61
set_option maxHeartbeats 4000000 in
set_option maxRecDepth 100000 in
theorem cX0_faultKind_1 (l : Launch) (dC : Nat → ClassId) (dI : Nat → Nat → Nat) (h0 h1 h2 h3 h4 h5 h6 h7 : Nat) (sz : Nat) : Met l yX0_faultKind (Cond.code yX0_faultKind cX0_faultKind 1 (some .int) :: lw_G) ({ frames := 0, cells := 0, slots := 0, locals := 0 }) (va_Pc [.ref h0] (fun U => U.heap.size = sz ∧ va_P (dC, dI) vwCl [(h0, .inr (0, [.ref h1, .ref h2, .ref h3, .ref h4, .ref h5, .ref h6, .ref h7, .int 0, .int 0, .int 0, .int 0, .int 0, .int 0, .int 0, .int 0, .int 0, .int 0]))] U.heap ∧ va_K (dC, dI) vwCl [] U ∧ va_D (fun _ => True) [(h0, .inr (0, [.ref h1, .ref h2, .ref h3, .ref h4, .ref h5, .ref h6, .ref h7, .int 0, .int 0, .int 0, .int 0, .int 0, .int 0, .int 0, .int 0, .int 0, .int 0]))])) (va_Qi (fun (r : Int32) (u : Unit) => r = 0 ∧ True) (fun (u : Unit) (t : State) => va_P (dC, dI) vwCl [(h0, .inr (0, [.ref h1, .ref h2, .ref h3, .ref h4, .ref h5, .ref h6, .ref h7, .int 0, .int 0, .int 0, .int 0, .int 0, .int 0, .int 0, .int 0, .int 0, .int 0]))] t.heap ∧ va_K (dC, dI) vwCl [] t ∧ va_D (va_A [(h0, .inr (0, [.ref h1, .ref h2, .ref h3, .ref h4, .ref h5, .ref h6, .ref h7, .int 0, .int 0, .int 0, .int 0, .int 0, .int 0, .int 0, .int 0, .int 0, .int 0]))] sz) [(h0, .inr (0, [.ref h1, .ref h2, .ref h3, .ref h4, .ref h5, .ref h6, .ref h7, .int 0, .int 0, .int 0, .int 0, .int 0, .int 0, .int 0, .int 0, .int 0, .int 0]))]) (va_A [(h0, .inr (0, [.ref h1, .ref h2, .ref h3, .ref h4, .ref h5, .ref h6, .ref h7, .int 0, .int 0, .int 0, .int 0, .int 0, .int 0, .int 0, .int 0, .int 0, .int 0]))] sz)) 0 0 (va_A [(h0, .inr (0, [.ref h1, .ref h2, .ref h3, .ref h4, .ref h5, .ref h6, .ref h7, .int 0, .int 0, .int 0, .int 0, .int 0, .int 0, .int 0, .int 0, .int 0, .int 0]))] sz) := by
  refine Met.ofW (cc := cX0_faultKind) (maxL := 1) (ret := (some .int)) (by decide) rfl ?_
  intro p e s m args below meth c s₁ B hml hv
  obtain ⟨rfl, hsz, hP, hK, hD0⟩ := hv
  have hx := B.exec
  have hb := B.bytes
  have hr := B.returns
  have hts0 := atoms_spec (ws := Cond.code yX0_faultKind cX0_faultKind 1 (some .int) :: lw_G) B.pre
  have hG : ∀ w ∈ lw_G, w.before _ s = true := fun w h => hts0 w (List.mem_cons_of_mem _ h)
  have hown : s.vm.findClass RX0 = some m.cls := findClass_of_methodNamed B.named
  have hlocks := B.notSynchronized
  subst hsz
  have hD := hD0.self (sz := s.heap.size)
  generalize hAe : va_A [(h0, .inr (0, [.ref h1, .ref h2, .ref h3, .ref h4, .ref h5, .ref h6, .ref h7, .int 0, .int 0, .int 0, .int 0, .int 0, .int 0, .int 0, .int 0, .int 0, .int 0]))] s.heap.size = A at hD ⊢
  have hA : ∀ q : Nat, s.heap.size ≤ q → A q := fun q h => by rw [← hAe]; exact Or.inr h
  have hS : va_S A s.heap s.heap [] := va_S.rf
  have hP : va_P (dC, dI) vwCl [(h0, .inr (0, [.ref h1, .ref h2, .ref h3, .ref h4, .ref h5, .ref h6, .ref h7, .int 0, .int 0, .int 0, .int 0, .int 0, .int 0, .int 0, .int 0, .int 0, .int 0]))] s.heap := hP
  have hl := lv_entry ([.ref h0]) (n := 1) (Nat.le_of_ble_eq_true rfl)
  rw [lg_entry_eq]
  generalize (lg_sl ([.ref h0]) ++ List.replicate (1 - (lg_sl ([.ref h0])).length) Slot.unset).toArray = ls at hl ⊢
  have hl : lv_has ls 1 [(0, .ref h0)] := hl
  refine lv_aload_n hx hb dX0_faultKind_0 rfl (lv_at hl 0 rfl) ?_
  refine va_get (D := (dC, dI)) (ci := 0) (v := .int 0) (C := RX0) (T := TX0) (N := 17) hx hb hG inGX0 hown hK hP 0 rfl rfl 15 (by decide) (hG _ wd_336) (fun _ h9 => h9) rfl dX0_faultKind_1 ?_
  have hP9 := hP.sub (ws' := [(h0, .inr (0, [.ref h1, .ref h2, .ref h3, .ref h4, .ref h5, .ref h6, .ref h7, .int 0, .int 0, .int 0, .int 0, .int 0, .int 0, .int 0, .int 0, .int 0, .int 0]))]) [0] rfl
  have hD9 := hD.sub (ws' := [(h0, .inr (0, [.ref h1, .ref h2, .ref h3, .ref h4, .ref h5, .ref h6, .ref h7, .int 0, .int 0, .int 0, .int 0, .int 0, .int 0, .int 0, .int 0, .int 0, .int 0]))]) [0] (by decide) rfl
  have hK9 := hK.sub (tys' := []) [] rfl
  exact W.iret (v := 0) hx hb hr (fun t ht hW => ⟨⟨0, (), rfl, ⟨rfl, trivial⟩, by rw [ht]; exact hP9, va_K.moved hW.alike hK9, hD9⟩, hS.F ht⟩) hS.2.2 dX0_faultKind_4
set_option maxHeartbeats 4000000 in
set_option maxRecDepth 100000 in
theorem cX11_fault_1 (l : Launch) (dC : Nat → ClassId) (dI : Nat → Nat → Nat) (h0 h1 h2 h3 h4 h5 h6 h7 h8 h9 h10 h11 h12 : Nat) (sz : Nat) : Met l yX11_fault (Cond.code yX11_fault cX11_fault 1 (some .int) :: lw_G) ({ frames := 1, cells := 0, slots := 0, locals := 20 }) (va_Pc [.ref h0] (fun U => U.heap.size = sz ∧ va_P (dC, dI) vwCl [(h0, .inr (11, [.ref h1, .ref h2, .ref h3, .ref h4, .ref h5, .int 0, .int 0])), (h4, .inr (0, [.ref h6, .ref h7, .ref h8, .ref h9, .ref h10, .ref h11, .ref h12, .int 0, .int 0, .int 0, .int 0, .int 0, .int 0, .int 0, .int 0, .int 0, .int 0]))] U.heap ∧ va_K (dC, dI) vwCl [] U ∧ va_D (fun _ => True) [(h0, .inr (11, [.ref h1, .ref h2, .ref h3, .ref h4, .ref h5, .int 0, .int 0])), (h4, .inr (0, [.ref h6, .ref h7, .ref h8, .ref h9, .ref h10, .ref h11, .ref h12, .int 0, .int 0, .int 0, .int 0, .int 0, .int 0, .int 0, .int 0, .int 0, .int 0]))])) (va_Qi (fun (r : Int32) (u : Unit) => r = 0 ∧ True) (fun (u : Unit) (t : State) => va_P (dC, dI) vwCl [(h0, .inr (11, [.ref h1, .ref h2, .ref h3, .ref h4, .ref h5, .int 0, .int 0])), (h4, .inr (0, [.ref h6, .ref h7, .ref h8, .ref h9, .ref h10, .ref h11, .ref h12, .int 0, .int 0, .int 0, .int 0, .int 0, .int 0, .int 0, .int 0, .int 0, .int 0]))] t.heap ∧ va_K (dC, dI) vwCl [] t ∧ va_D (va_A [(h0, .inr (11, [.ref h1, .ref h2, .ref h3, .ref h4, .ref h5, .int 0, .int 0])), (h4, .inr (0, [.ref h6, .ref h7, .ref h8, .ref h9, .ref h10, .ref h11, .ref h12, .int 0, .int 0, .int 0, .int 0, .int 0, .int 0, .int 0, .int 0, .int 0, .int 0]))] sz) [(h0, .inr (11, [.ref h1, .ref h2, .ref h3, .ref h4, .ref h5, .int 0, .int 0])), (h4, .inr (0, [.ref h6, .ref h7, .ref h8, .ref h9, .ref h10, .ref h11, .ref h12, .int 0, .int 0, .int 0, .int 0, .int 0, .int 0, .int 0, .int 0, .int 0, .int 0]))]) (va_A [(h0, .inr (11, [.ref h1, .ref h2, .ref h3, .ref h4, .ref h5, .int 0, .int 0])), (h4, .inr (0, [.ref h6, .ref h7, .ref h8, .ref h9, .ref h10, .ref h11, .ref h12, .int 0, .int 0, .int 0, .int 0, .int 0, .int 0, .int 0, .int 0, .int 0, .int 0]))] sz)) 0 0 (va_A [(h0, .inr (11, [.ref h1, .ref h2, .ref h3, .ref h4, .ref h5, .int 0, .int 0])), (h4, .inr (0, [.ref h6, .ref h7, .ref h8, .ref h9, .ref h10, .ref h11, .ref h12, .int 0, .int 0, .int 0, .int 0, .int 0, .int 0, .int 0, .int 0, .int 0, .int 0]))] sz) := by
  refine Met.ofW (cc := cX11_fault) (maxL := 1) (ret := (some .int)) (by decide) rfl ?_
  intro p e s m args below meth c s₁ B hml hv
  obtain ⟨rfl, hsz, hP, hK, hD0⟩ := hv
  have hx := B.exec
  have hb := B.bytes
  have hr := B.returns
  have hts0 := atoms_spec (ws := Cond.code yX11_fault cX11_fault 1 (some .int) :: lw_G) B.pre
  have hG : ∀ w ∈ lw_G, w.before _ s = true := fun w h => hts0 w (List.mem_cons_of_mem _ h)
  have hown : s.vm.findClass RX11 = some m.cls := findClass_of_methodNamed B.named
  have hlocks := B.notSynchronized
  subst hsz
  have hD := hD0.self (sz := s.heap.size)
  generalize hAe : va_A [(h0, .inr (11, [.ref h1, .ref h2, .ref h3, .ref h4, .ref h5, .int 0, .int 0])), (h4, .inr (0, [.ref h6, .ref h7, .ref h8, .ref h9, .ref h10, .ref h11, .ref h12, .int 0, .int 0, .int 0, .int 0, .int 0, .int 0, .int 0, .int 0, .int 0, .int 0]))] s.heap.size = A at hD ⊢
  have hA : ∀ q : Nat, s.heap.size ≤ q → A q := fun q h => by rw [← hAe]; exact Or.inr h
  have hS : va_S A s.heap s.heap [] := va_S.rf
  have hP : va_P (dC, dI) vwCl [(h0, .inr (11, [.ref h1, .ref h2, .ref h3, .ref h4, .ref h5, .int 0, .int 0])), (h4, .inr (0, [.ref h6, .ref h7, .ref h8, .ref h9, .ref h10, .ref h11, .ref h12, .int 0, .int 0, .int 0, .int 0, .int 0, .int 0, .int 0, .int 0, .int 0, .int 0]))] s.heap := hP
  have hl := lv_entry ([.ref h0]) (n := 1) (Nat.le_of_ble_eq_true rfl)
  rw [lg_entry_eq]
  generalize (lg_sl ([.ref h0]) ++ List.replicate (1 - (lg_sl ([.ref h0])).length) Slot.unset).toArray = ls at hl ⊢
  have hl : lv_has ls 1 [(0, .ref h0)] := hl
  refine lv_aload_n hx hb dX11_fault_0 rfl (lv_at hl 0 rfl) ?_
  refine va_get (D := (dC, dI)) (ci := 11) (v := .ref h4) (C := RX11) (T := TX11) (N := 7) hx hb hG inGX11 hown hK hP 0 rfl rfl 3 (by decide) (hG _ wd_398) (fun _ h9 => h9) rfl dX11_fault_1 ?_
  have hPc := hP.sub (ws' := [(h4, .inr (0, [.ref h6, .ref h7, .ref h8, .ref h9, .ref h10, .ref h11, .ref h12, .int 0, .int 0, .int 0, .int 0, .int 0, .int 0, .int 0, .int 0, .int 0, .int 0]))]) [1] rfl
  have hDc := hD.sub (ws' := [(h4, .inr (0, [.ref h6, .ref h7, .ref h8, .ref h9, .ref h10, .ref h11, .ref h12, .int 0, .int 0, .int 0, .int 0, .int 0, .int 0, .int 0, .int 0, .int 0, .int 0]))]) [1] (by decide) rfl
  have hKc := hK.sub (tys' := []) [] rfl
  have hFc := va_free (wc := [(h4, .inr (0, [.ref h6, .ref h7, .ref h8, .ref h9, .ref h10, .ref h11, .ref h12, .int 0, .int 0, .int 0, .int 0, .int 0, .int 0, .int 0, .int 0, .int 0, .int 0]))]) hD hS hA [1] rfl
  refine va_calli (va_runV (As := []) (rest := []) ⟨hx, hb, hml, hown, hG⟩ (cX0_faultKind_1 l dC dI h4 h6 h7 h8 h9 h10 h11 h12 s.heap.size) (cwV 0 hG (gV wd_776 wd_777 wd_778 wd_8 wd_779) rfl rfl rfl (by decide +kernel) ⟨Nat.le_of_ble_eq_true rfl, Nat.le_of_ble_eq_true rfl⟩) ⟨fun a U g mk q => by obtain ⟨q0, q1, qP, qK, qD⟩ := q; exact ⟨q0, q1, qP, va_K.moved (u := U) (U := U.calling g mk a) (Vm.Alike.refl U.vm) qK, qD⟩, va_recv hKc hPc (ci := 0) (q0 := 0) rfl rfl, fun U hU hW => ⟨rfl, by rw [hU], by rw [hU]; exact hPc, va_K.moved hW.alike hKc, hDc.weaken (fun _ _ _ _ => trivial)⟩⟩ rfl rfl hl.1 rfl (lv_room (Nat.le_of_ble_eq_true rfl)) dX11_fault_4 ⟨by decide, by decide⟩) hS (fun q _ h => hFc q h) hFc (fun r1 u2 t H1 locs ht hvm hw hB hz1 hk1 hS => ?_)
  have hw : r1 = 0 ∧ True := hw
  obtain ⟨er1, -⟩ := hw
  obtain ⟨hP1, hK1, hD1⟩ := hB
  rw [ht] at hP1
  have hK1 := va_K.moved hvm.symm hK1
  obtain ⟨hP, hD⟩ := va_join (wr := [(h0, .inr (11, [.ref h1, .ref h2, .ref h3, .ref h4, .ref h5, .int 0, .int 0]))]) (w1 := [(h4, .inr (0, [.ref h6, .ref h7, .ref h8, .ref h9, .ref h10, .ref h11, .ref h12, .int 0, .int 0, .int 0, .int 0, .int 0, .int 0, .int 0, .int 0, .int 0, .int 0]))]) hP hD [1] [0] rfl rfl (by decide) (by decide) hk1 hFc hP1 hD1
  have hK := (hK.sub (tys' := []) [] rfl).app hK1
  generalize H1 = H at hP hS ⊢
  have hP : va_P (dC, dI) vwCl [(h0, .inr (11, [.ref h1, .ref h2, .ref h3, .ref h4, .ref h5, .int 0, .int 0])), (h4, .inr (0, [.ref h6, .ref h7, .ref h8, .ref h9, .ref h10, .ref h11, .ref h12, .int 0, .int 0, .int 0, .int 0, .int 0, .int 0, .int 0, .int 0, .int 0, .int 0]))] H := hP
  have hD : va_D A [(h0, .inr (11, [.ref h1, .ref h2, .ref h3, .ref h4, .ref h5, .int 0, .int 0])), (h4, .inr (0, [.ref h6, .ref h7, .ref h8, .ref h9, .ref h10, .ref h11, .ref h12, .int 0, .int 0, .int 0, .int 0, .int 0, .int 0, .int 0, .int 0, .int 0, .int 0]))] := hD
  have hK : va_K (dC, dI) vwCl [] s := hK
  subst er1
  have hP9 := hP.sub (ws' := [(h0, .inr (11, [.ref h1, .ref h2, .ref h3, .ref h4, .ref h5, .int 0, .int 0])), (h4, .inr (0, [.ref h6, .ref h7, .ref h8, .ref h9, .ref h10, .ref h11, .ref h12, .int 0, .int 0, .int 0, .int 0, .int 0, .int 0, .int 0, .int 0, .int 0, .int 0]))]) [0, 1] rfl
  have hD9 := hD.sub (ws' := [(h0, .inr (11, [.ref h1, .ref h2, .ref h3, .ref h4, .ref h5, .int 0, .int 0])), (h4, .inr (0, [.ref h6, .ref h7, .ref h8, .ref h9, .ref h10, .ref h11, .ref h12, .int 0, .int 0, .int 0, .int 0, .int 0, .int 0, .int 0, .int 0, .int 0, .int 0]))]) [0, 1] (by decide) rfl
  have hK9 := hK.sub (tys' := []) [] rfl
  exact W.iret (v := 0) hx hb hr (fun t ht hW => ⟨⟨0, (), rfl, ⟨rfl, trivial⟩, by rw [ht]; exact hP9, va_K.moved hW.alike hK9, hD9⟩, hS.F ht⟩) hS.2.2 dX11_fault_7
set_option maxHeartbeats 4000000 in
set_option maxRecDepth 100000 in
theorem cX4_valueOfLine_1 (l : Launch) (dC : Nat → ClassId) (dI : Nat → Nat → Nat) (h0 h1 h2 h3 : Nat) (sz : Nat) (x0 : Int32) : Met l yX4_valueOfLine (Cond.code yX4_valueOfLine cX4_valueOfLine 3 (some .int) :: lw_G) ({ frames := 0, cells := 0, slots := 0, locals := 0 }) (va_Pc [.ref h0, .int x0] (fun U => U.heap.size = sz ∧ va_P (dC, dI) vwCl [(h0, .inr (4, [.ref h1, .ref h2, .ref h3, .int 0]))] U.heap ∧ va_K (dC, dI) vwCl [] U ∧ va_D (fun _ => True) [(h0, .inr (4, [.ref h1, .ref h2, .ref h3, .int 0]))])) (va_Qi (fun (r : Int32) (u : Unit) => r = (-1) ∧ True) (fun (u : Unit) (t : State) => va_P (dC, dI) vwCl [(h0, .inr (4, [.ref h1, .ref h2, .ref h3, .int 0]))] t.heap ∧ va_K (dC, dI) vwCl [] t ∧ va_D (va_A [(h0, .inr (4, [.ref h1, .ref h2, .ref h3, .int 0]))] sz) [(h0, .inr (4, [.ref h1, .ref h2, .ref h3, .int 0]))]) (va_A [(h0, .inr (4, [.ref h1, .ref h2, .ref h3, .int 0]))] sz)) 0 0 (va_A [(h0, .inr (4, [.ref h1, .ref h2, .ref h3, .int 0]))] sz) := by
  refine Met.ofW (cc := cX4_valueOfLine) (maxL := 3) (ret := (some .int)) (by decide) rfl ?_
  intro p e s m args below meth c s₁ B hml hv
  obtain ⟨rfl, hsz, hP, hK, hD0⟩ := hv
  have hx := B.exec
  have hb := B.bytes
  have hr := B.returns
  have hts0 := atoms_spec (ws := Cond.code yX4_valueOfLine cX4_valueOfLine 3 (some .int) :: lw_G) B.pre
  have hG : ∀ w ∈ lw_G, w.before _ s = true := fun w h => hts0 w (List.mem_cons_of_mem _ h)
  have hown : s.vm.findClass RX4 = some m.cls := findClass_of_methodNamed B.named
  have hlocks := B.notSynchronized
  subst hsz
  have hD := hD0.self (sz := s.heap.size)
  generalize hAe : va_A [(h0, .inr (4, [.ref h1, .ref h2, .ref h3, .int 0]))] s.heap.size = A at hD ⊢
  have hA : ∀ q : Nat, s.heap.size ≤ q → A q := fun q h => by rw [← hAe]; exact Or.inr h
  have hS : va_S A s.heap s.heap [] := va_S.rf
  have hP : va_P (dC, dI) vwCl [(h0, .inr (4, [.ref h1, .ref h2, .ref h3, .int 0]))] s.heap := hP
  have hl := lv_entry ([.ref h0, .int x0]) (n := 3) (Nat.le_of_ble_eq_true rfl)
  rw [lg_entry_eq]
  generalize (lg_sl ([.ref h0, .int x0]) ++ List.replicate (3 - (lg_sl ([.ref h0, .int x0])).length) Slot.unset).toArray = ls at hl ⊢
  have hl : lv_has ls 3 [(0, .ref h0), (1, .int x0)] := hl
  refine lv_iconst (v := 0) hx hb dX4_valueOfLine_0 (by decide) ?_
  refine lv_istore_n (lv' := [(2, .int 0), (0, .ref h0), (1, .int x0)]) hx hb dX4_valueOfLine_1 rfl hl (by decide) rfl (fun ls hl => ?_)
  refine lv_iload_n hx hb dX4_valueOfLine_2 rfl (lv_at hl 0 rfl) ?_
  refine lv_aload_n hx hb dX4_valueOfLine_3 rfl (lv_at hl 1 rfl) ?_
  refine va_get (D := (dC, dI)) (ci := 4) (v := .int 0) (C := RX4) (T := TX4) (N := 4) hx hb hG inGX4 hown hK hP 0 rfl rfl 3 (by decide) (hG _ wd_211) (fun _ h9 => h9) rfl dX4_valueOfLine_4 ?_
  refine lv_icmp_ge (tgt := 39) hx hb dX4_valueOfLine_7 (by decide) (fun _ => ?_) (fun c => absurd (by decide) c)
  refine lv_iconst (v := (-1)) hx hb dX4_valueOfLine_39 (by decide) ?_
  have hP9 := hP.sub (ws' := [(h0, .inr (4, [.ref h1, .ref h2, .ref h3, .int 0]))]) [0] rfl
  have hD9 := hD.sub (ws' := [(h0, .inr (4, [.ref h1, .ref h2, .ref h3, .int 0]))]) [0] (by decide) rfl
  have hK9 := hK.sub (tys' := []) [] rfl
  exact W.iret (v := (-1)) hx hb hr (fun t ht hW => ⟨⟨(-1), (), rfl, ⟨rfl, trivial⟩, by rw [ht]; exact hP9, va_K.moved hW.alike hK9, hD9⟩, hS.F ht⟩) hS.2.2 dX4_valueOfLine_40
set_option maxHeartbeats 4000000 in
set_option maxRecDepth 100000 in
theorem cX0_labelOfLine_1 (l : Launch) (dC : Nat → ClassId) (dI : Nat → Nat → Nat) (h0 h1 h2 h3 h4 h5 h6 h7 h8 h9 h10 : Nat) (sz : Nat) (x0 : Int32) : Met l yX0_labelOfLine (Cond.code yX0_labelOfLine cX0_labelOfLine 2 (some .int) :: lw_G) ({ frames := 1, cells := 0, slots := 0, locals := 22 }) (va_Pc [.ref h0, .int x0] (fun U => U.heap.size = sz ∧ va_P (dC, dI) vwCl [(h0, .inr (0, [.ref h1, .ref h2, .ref h3, .ref h4, .ref h5, .ref h6, .ref h7, .int 0, .int 0, .int 0, .int 0, .int 0, .int 0, .int 0, .int 0, .int 0, .int 0])), (h7, .inr (4, [.ref h8, .ref h9, .ref h10, .int 0]))] U.heap ∧ va_K (dC, dI) vwCl [] U ∧ va_D (fun _ => True) [(h0, .inr (0, [.ref h1, .ref h2, .ref h3, .ref h4, .ref h5, .ref h6, .ref h7, .int 0, .int 0, .int 0, .int 0, .int 0, .int 0, .int 0, .int 0, .int 0, .int 0])), (h7, .inr (4, [.ref h8, .ref h9, .ref h10, .int 0]))])) (va_Qi (fun (r : Int32) (u : Unit) => r = (-1) ∧ True) (fun (u : Unit) (t : State) => va_P (dC, dI) vwCl [(h0, .inr (0, [.ref h1, .ref h2, .ref h3, .ref h4, .ref h5, .ref h6, .ref h7, .int 0, .int 0, .int 0, .int 0, .int 0, .int 0, .int 0, .int 0, .int 0, .int 0])), (h7, .inr (4, [.ref h8, .ref h9, .ref h10, .int 0]))] t.heap ∧ va_K (dC, dI) vwCl [] t ∧ va_D (va_A [(h0, .inr (0, [.ref h1, .ref h2, .ref h3, .ref h4, .ref h5, .ref h6, .ref h7, .int 0, .int 0, .int 0, .int 0, .int 0, .int 0, .int 0, .int 0, .int 0, .int 0])), (h7, .inr (4, [.ref h8, .ref h9, .ref h10, .int 0]))] sz) [(h0, .inr (0, [.ref h1, .ref h2, .ref h3, .ref h4, .ref h5, .ref h6, .ref h7, .int 0, .int 0, .int 0, .int 0, .int 0, .int 0, .int 0, .int 0, .int 0, .int 0])), (h7, .inr (4, [.ref h8, .ref h9, .ref h10, .int 0]))]) (va_A [(h0, .inr (0, [.ref h1, .ref h2, .ref h3, .ref h4, .ref h5, .ref h6, .ref h7, .int 0, .int 0, .int 0, .int 0, .int 0, .int 0, .int 0, .int 0, .int 0, .int 0])), (h7, .inr (4, [.ref h8, .ref h9, .ref h10, .int 0]))] sz)) 0 0 (va_A [(h0, .inr (0, [.ref h1, .ref h2, .ref h3, .ref h4, .ref h5, .ref h6, .ref h7, .int 0, .int 0, .int 0, .int 0, .int 0, .int 0, .int 0, .int 0, .int 0, .int 0])), (h7, .inr (4, [.ref h8, .ref h9, .ref h10, .int 0]))] sz) := by
  refine Met.ofW (cc := cX0_labelOfLine) (maxL := 2) (ret := (some .int)) (by decide) rfl ?_
  intro p e s m args below meth c s₁ B hml hv
  obtain ⟨rfl, hsz, hP, hK, hD0⟩ := hv
  have hx := B.exec
  have hb := B.bytes
  have hr := B.returns
  have hts0 := atoms_spec (ws := Cond.code yX0_labelOfLine cX0_labelOfLine 2 (some .int) :: lw_G) B.pre
  have hG : ∀ w ∈ lw_G, w.before _ s = true := fun w h => hts0 w (List.mem_cons_of_mem _ h)
  have hown : s.vm.findClass RX0 = some m.cls := findClass_of_methodNamed B.named
  have hlocks := B.notSynchronized
  subst hsz
  have hD := hD0.self (sz := s.heap.size)
  generalize hAe : va_A [(h0, .inr (0, [.ref h1, .ref h2, .ref h3, .ref h4, .ref h5, .ref h6, .ref h7, .int 0, .int 0, .int 0, .int 0, .int 0, .int 0, .int 0, .int 0, .int 0, .int 0])), (h7, .inr (4, [.ref h8, .ref h9, .ref h10, .int 0]))] s.heap.size = A at hD ⊢
  have hA : ∀ q : Nat, s.heap.size ≤ q → A q := fun q h => by rw [← hAe]; exact Or.inr h
  have hS : va_S A s.heap s.heap [] := va_S.rf
  have hP : va_P (dC, dI) vwCl [(h0, .inr (0, [.ref h1, .ref h2, .ref h3, .ref h4, .ref h5, .ref h6, .ref h7, .int 0, .int 0, .int 0, .int 0, .int 0, .int 0, .int 0, .int 0, .int 0, .int 0])), (h7, .inr (4, [.ref h8, .ref h9, .ref h10, .int 0]))] s.heap := hP
  have hl := lv_entry ([.ref h0, .int x0]) (n := 2) (Nat.le_of_ble_eq_true rfl)
  rw [lg_entry_eq]
  generalize (lg_sl ([.ref h0, .int x0]) ++ List.replicate (2 - (lg_sl ([.ref h0, .int x0])).length) Slot.unset).toArray = ls at hl ⊢
  have hl : lv_has ls 2 [(0, .ref h0), (1, .int x0)] := hl
  refine lv_aload_n hx hb dX0_labelOfLine_0 rfl (lv_at hl 0 rfl) ?_
  refine va_get (D := (dC, dI)) (ci := 0) (v := .ref h7) (C := RX0) (T := TX0) (N := 17) hx hb hG inGX0 hown hK hP 0 rfl rfl 6 (by decide) (hG _ wd_327) (fun _ h9 => h9) rfl dX0_labelOfLine_1 ?_
  refine lv_iload_n hx hb dX0_labelOfLine_4 rfl (lv_at hl 1 rfl) ?_
  have hPc := hP.sub (ws' := [(h7, .inr (4, [.ref h8, .ref h9, .ref h10, .int 0]))]) [1] rfl
  have hDc := hD.sub (ws' := [(h7, .inr (4, [.ref h8, .ref h9, .ref h10, .int 0]))]) [1] (by decide) rfl
  have hKc := hK.sub (tys' := []) [] rfl
  have hFc := va_free (wc := [(h7, .inr (4, [.ref h8, .ref h9, .ref h10, .int 0]))]) hD hS hA [1] rfl
  refine va_calli (va_runV (As := [.int x0]) (rest := []) ⟨hx, hb, hml, hown, hG⟩ (cX4_valueOfLine_1 l dC dI h7 h8 h9 h10 s.heap.size x0) (cwV 1 hG (gV wd_788 wd_789 wd_790 wd_10 wd_791) rfl rfl rfl (by decide +kernel) ⟨Nat.le_of_ble_eq_true rfl, Nat.le_of_ble_eq_true rfl⟩) ⟨fun a U g mk q => by obtain ⟨q0, q1, qP, qK, qD⟩ := q; exact ⟨q0, q1, qP, va_K.moved (u := U) (U := U.calling g mk a) (Vm.Alike.refl U.vm) qK, qD⟩, va_recv hKc hPc (ci := 4) (q0 := 0) rfl rfl, fun U hU hW => ⟨rfl, by rw [hU], by rw [hU]; exact hPc, va_K.moved hW.alike hKc, hDc.weaken (fun _ _ _ _ => trivial)⟩⟩ rfl rfl hl.1 rfl (lv_room (Nat.le_of_ble_eq_true rfl)) dX0_labelOfLine_5 ⟨by decide, by decide⟩) hS (fun q _ h => hFc q h) hFc (fun r1 u2 t H1 locs ht hvm hw hB hz1 hk1 hS => ?_)
  have hw : r1 = (-1) ∧ True := hw
  obtain ⟨er1, -⟩ := hw
  obtain ⟨hP1, hK1, hD1⟩ := hB
  rw [ht] at hP1
  have hK1 := va_K.moved hvm.symm hK1
  obtain ⟨hP, hD⟩ := va_join (wr := [(h0, .inr (0, [.ref h1, .ref h2, .ref h3, .ref h4, .ref h5, .ref h6, .ref h7, .int 0, .int 0, .int 0, .int 0, .int 0, .int 0, .int 0, .int 0, .int 0, .int 0]))]) (w1 := [(h7, .inr (4, [.ref h8, .ref h9, .ref h10, .int 0]))]) hP hD [1] [0] rfl rfl (by decide) (by decide) hk1 hFc hP1 hD1
  have hK := (hK.sub (tys' := []) [] rfl).app hK1
  generalize H1 = H at hP hS ⊢
  have hP : va_P (dC, dI) vwCl [(h0, .inr (0, [.ref h1, .ref h2, .ref h3, .ref h4, .ref h5, .ref h6, .ref h7, .int 0, .int 0, .int 0, .int 0, .int 0, .int 0, .int 0, .int 0, .int 0, .int 0])), (h7, .inr (4, [.ref h8, .ref h9, .ref h10, .int 0]))] H := hP
  have hD : va_D A [(h0, .inr (0, [.ref h1, .ref h2, .ref h3, .ref h4, .ref h5, .ref h6, .ref h7, .int 0, .int 0, .int 0, .int 0, .int 0, .int 0, .int 0, .int 0, .int 0, .int 0])), (h7, .inr (4, [.ref h8, .ref h9, .ref h10, .int 0]))] := hD
  have hK : va_K (dC, dI) vwCl [] s := hK
  subst er1
  have hP9 := hP.sub (ws' := [(h0, .inr (0, [.ref h1, .ref h2, .ref h3, .ref h4, .ref h5, .ref h6, .ref h7, .int 0, .int 0, .int 0, .int 0, .int 0, .int 0, .int 0, .int 0, .int 0, .int 0])), (h7, .inr (4, [.ref h8, .ref h9, .ref h10, .int 0]))]) [0, 1] rfl
  have hD9 := hD.sub (ws' := [(h0, .inr (0, [.ref h1, .ref h2, .ref h3, .ref h4, .ref h5, .ref h6, .ref h7, .int 0, .int 0, .int 0, .int 0, .int 0, .int 0, .int 0, .int 0, .int 0, .int 0])), (h7, .inr (4, [.ref h8, .ref h9, .ref h10, .int 0]))]) [0, 1] (by decide) rfl
  have hK9 := hK.sub (tys' := []) [] rfl
  exact W.iret (v := (-1)) hx hb hr (fun t ht hW => ⟨⟨(-1), (), rfl, ⟨rfl, trivial⟩, by rw [ht]; exact hP9, va_K.moved hW.alike hK9, hD9⟩, hS.F ht⟩) hS.2.2 dX0_labelOfLine_8
set_option maxHeartbeats 4000000 in
set_option maxRecDepth 100000 in
theorem cX11_label_1 (l : Launch) (dC : Nat → ClassId) (dI : Nat → Nat → Nat) (h0 h1 h2 h3 h4 h5 h6 h7 h8 h9 h10 h11 h12 h13 h14 h15 : Nat) (sz : Nat) (x0 : Int32) : Met l yX11_label (Cond.code yX11_label cX11_label 2 (some .int) :: lw_G) ({ frames := 2, cells := 0, slots := 0, locals := 43 }) (va_Pc [.ref h0, .int x0] (fun U => U.heap.size = sz ∧ va_P (dC, dI) vwCl [(h0, .inr (11, [.ref h1, .ref h2, .ref h3, .ref h4, .ref h5, .int 0, .int 0])), (h4, .inr (0, [.ref h6, .ref h7, .ref h8, .ref h9, .ref h10, .ref h11, .ref h12, .int 0, .int 0, .int 0, .int 0, .int 0, .int 0, .int 0, .int 0, .int 0, .int 0])), (h12, .inr (4, [.ref h13, .ref h14, .ref h15, .int 0]))] U.heap ∧ va_K (dC, dI) vwCl [] U ∧ va_D (fun _ => True) [(h0, .inr (11, [.ref h1, .ref h2, .ref h3, .ref h4, .ref h5, .int 0, .int 0])), (h4, .inr (0, [.ref h6, .ref h7, .ref h8, .ref h9, .ref h10, .ref h11, .ref h12, .int 0, .int 0, .int 0, .int 0, .int 0, .int 0, .int 0, .int 0, .int 0, .int 0])), (h12, .inr (4, [.ref h13, .ref h14, .ref h15, .int 0]))])) (va_Qi (fun (r : Int32) (u : Unit) => r = (-1) ∧ True) (fun (u : Unit) (t : State) => va_P (dC, dI) vwCl [(h0, .inr (11, [.ref h1, .ref h2, .ref h3, .ref h4, .ref h5, .int 0, .int 0])), (h4, .inr (0, [.ref h6, .ref h7, .ref h8, .ref h9, .ref h10, .ref h11, .ref h12, .int 0, .int 0, .int 0, .int 0, .int 0, .int 0, .int 0, .int 0, .int 0, .int 0])), (h12, .inr (4, [.ref h13, .ref h14, .ref h15, .int 0]))] t.heap ∧ va_K (dC, dI) vwCl [] t ∧ va_D (va_A [(h0, .inr (11, [.ref h1, .ref h2, .ref h3, .ref h4, .ref h5, .int 0, .int 0])), (h4, .inr (0, [.ref h6, .ref h7, .ref h8, .ref h9, .ref h10, .ref h11, .ref h12, .int 0, .int 0, .int 0, .int 0, .int 0, .int 0, .int 0, .int 0, .int 0, .int 0])), (h12, .inr (4, [.ref h13, .ref h14, .ref h15, .int 0]))] sz) [(h0, .inr (11, [.ref h1, .ref h2, .ref h3, .ref h4, .ref h5, .int 0, .int 0])), (h4, .inr (0, [.ref h6, .ref h7, .ref h8, .ref h9, .ref h10, .ref h11, .ref h12, .int 0, .int 0, .int 0, .int 0, .int 0, .int 0, .int 0, .int 0, .int 0, .int 0])), (h12, .inr (4, [.ref h13, .ref h14, .ref h15, .int 0]))]) (va_A [(h0, .inr (11, [.ref h1, .ref h2, .ref h3, .ref h4, .ref h5, .int 0, .int 0])), (h4, .inr (0, [.ref h6, .ref h7, .ref h8, .ref h9, .ref h10, .ref h11, .ref h12, .int 0, .int 0, .int 0, .int 0, .int 0, .int 0, .int 0, .int 0, .int 0, .int 0])), (h12, .inr (4, [.ref h13, .ref h14, .ref h15, .int 0]))] sz)) 0 0 (va_A [(h0, .inr (11, [.ref h1, .ref h2, .ref h3, .ref h4, .ref h5, .int 0, .int 0])), (h4, .inr (0, [.ref h6, .ref h7, .ref h8, .ref h9, .ref h10, .ref h11, .ref h12, .int 0, .int 0, .int 0, .int 0, .int 0, .int 0, .int 0, .int 0, .int 0, .int 0])), (h12, .inr (4, [.ref h13, .ref h14, .ref h15, .int 0]))] sz) := by
  refine Met.ofW (cc := cX11_label) (maxL := 2) (ret := (some .int)) (by decide) rfl ?_
  intro p e s m args below meth c s₁ B hml hv
  obtain ⟨rfl, hsz, hP, hK, hD0⟩ := hv
  have hx := B.exec
  have hb := B.bytes
  have hr := B.returns
  have hts0 := atoms_spec (ws := Cond.code yX11_label cX11_label 2 (some .int) :: lw_G) B.pre
  have hG : ∀ w ∈ lw_G, w.before _ s = true := fun w h => hts0 w (List.mem_cons_of_mem _ h)
  have hown : s.vm.findClass RX11 = some m.cls := findClass_of_methodNamed B.named
  have hlocks := B.notSynchronized
  subst hsz
  have hD := hD0.self (sz := s.heap.size)
  generalize hAe : va_A [(h0, .inr (11, [.ref h1, .ref h2, .ref h3, .ref h4, .ref h5, .int 0, .int 0])), (h4, .inr (0, [.ref h6, .ref h7, .ref h8, .ref h9, .ref h10, .ref h11, .ref h12, .int 0, .int 0, .int 0, .int 0, .int 0, .int 0, .int 0, .int 0, .int 0, .int 0])), (h12, .inr (4, [.ref h13, .ref h14, .ref h15, .int 0]))] s.heap.size = A at hD ⊢
  have hA : ∀ q : Nat, s.heap.size ≤ q → A q := fun q h => by rw [← hAe]; exact Or.inr h
  have hS : va_S A s.heap s.heap [] := va_S.rf
  have hP : va_P (dC, dI) vwCl [(h0, .inr (11, [.ref h1, .ref h2, .ref h3, .ref h4, .ref h5, .int 0, .int 0])), (h4, .inr (0, [.ref h6, .ref h7, .ref h8, .ref h9, .ref h10, .ref h11, .ref h12, .int 0, .int 0, .int 0, .int 0, .int 0, .int 0, .int 0, .int 0, .int 0, .int 0])), (h12, .inr (4, [.ref h13, .ref h14, .ref h15, .int 0]))] s.heap := hP
  have hl := lv_entry ([.ref h0, .int x0]) (n := 2) (Nat.le_of_ble_eq_true rfl)
  rw [lg_entry_eq]
  generalize (lg_sl ([.ref h0, .int x0]) ++ List.replicate (2 - (lg_sl ([.ref h0, .int x0])).length) Slot.unset).toArray = ls at hl ⊢
  have hl : lv_has ls 2 [(0, .ref h0), (1, .int x0)] := hl
  refine lv_aload_n hx hb dX11_label_0 rfl (lv_at hl 0 rfl) ?_
  refine va_get (D := (dC, dI)) (ci := 11) (v := .ref h4) (C := RX11) (T := TX11) (N := 7) hx hb hG inGX11 hown hK hP 0 rfl rfl 3 (by decide) (hG _ wd_398) (fun _ h9 => h9) rfl dX11_label_1 ?_
  refine lv_iload_n hx hb dX11_label_4 rfl (lv_at hl 1 rfl) ?_
  have hPc := hP.sub (ws' := [(h4, .inr (0, [.ref h6, .ref h7, .ref h8, .ref h9, .ref h10, .ref h11, .ref h12, .int 0, .int 0, .int 0, .int 0, .int 0, .int 0, .int 0, .int 0, .int 0, .int 0])), (h12, .inr (4, [.ref h13, .ref h14, .ref h15, .int 0]))]) [1, 2] rfl
  have hDc := hD.sub (ws' := [(h4, .inr (0, [.ref h6, .ref h7, .ref h8, .ref h9, .ref h10, .ref h11, .ref h12, .int 0, .int 0, .int 0, .int 0, .int 0, .int 0, .int 0, .int 0, .int 0, .int 0])), (h12, .inr (4, [.ref h13, .ref h14, .ref h15, .int 0]))]) [1, 2] (by decide) rfl
  have hKc := hK.sub (tys' := []) [] rfl
  have hFc := va_free (wc := [(h4, .inr (0, [.ref h6, .ref h7, .ref h8, .ref h9, .ref h10, .ref h11, .ref h12, .int 0, .int 0, .int 0, .int 0, .int 0, .int 0, .int 0, .int 0, .int 0, .int 0])), (h12, .inr (4, [.ref h13, .ref h14, .ref h15, .int 0]))]) hD hS hA [1, 2] rfl
  refine va_calli (va_runV (As := [.int x0]) (rest := []) ⟨hx, hb, hml, hown, hG⟩ (cX0_labelOfLine_1 l dC dI h4 h6 h7 h8 h9 h10 h11 h12 h13 h14 h15 s.heap.size x0) (cwV 1 hG (gV wd_784 wd_785 wd_786 wd_8 wd_787) rfl rfl rfl (by decide +kernel) ⟨Nat.le_of_ble_eq_true rfl, Nat.le_of_ble_eq_true rfl⟩) ⟨fun a U g mk q => by obtain ⟨q0, q1, qP, qK, qD⟩ := q; exact ⟨q0, q1, qP, va_K.moved (u := U) (U := U.calling g mk a) (Vm.Alike.refl U.vm) qK, qD⟩, va_recv hKc hPc (ci := 0) (q0 := 0) rfl rfl, fun U hU hW => ⟨rfl, by rw [hU], by rw [hU]; exact hPc, va_K.moved hW.alike hKc, hDc.weaken (fun _ _ _ _ => trivial)⟩⟩ rfl rfl hl.1 rfl (lv_room (Nat.le_of_ble_eq_true rfl)) dX11_label_5 ⟨by decide, by decide⟩) hS (fun q _ h => hFc q h) hFc (fun r1 u2 t H1 locs ht hvm hw hB hz1 hk1 hS => ?_)
  have hw : r1 = (-1) ∧ True := hw
  obtain ⟨er1, -⟩ := hw
  obtain ⟨hP1, hK1, hD1⟩ := hB
  rw [ht] at hP1
  have hK1 := va_K.moved hvm.symm hK1
  obtain ⟨hP, hD⟩ := va_join (wr := [(h0, .inr (11, [.ref h1, .ref h2, .ref h3, .ref h4, .ref h5, .int 0, .int 0]))]) (w1 := [(h4, .inr (0, [.ref h6, .ref h7, .ref h8, .ref h9, .ref h10, .ref h11, .ref h12, .int 0, .int 0, .int 0, .int 0, .int 0, .int 0, .int 0, .int 0, .int 0, .int 0])), (h12, .inr (4, [.ref h13, .ref h14, .ref h15, .int 0]))]) hP hD [1, 2] [0] rfl rfl (by decide) (by decide) hk1 hFc hP1 hD1
  have hK := (hK.sub (tys' := []) [] rfl).app hK1
  generalize H1 = H at hP hS ⊢
  have hP : va_P (dC, dI) vwCl [(h0, .inr (11, [.ref h1, .ref h2, .ref h3, .ref h4, .ref h5, .int 0, .int 0])), (h4, .inr (0, [.ref h6, .ref h7, .ref h8, .ref h9, .ref h10, .ref h11, .ref h12, .int 0, .int 0, .int 0, .int 0, .int 0, .int 0, .int 0, .int 0, .int 0, .int 0])), (h12, .inr (4, [.ref h13, .ref h14, .ref h15, .int 0]))] H := hP
  have hD : va_D A [(h0, .inr (11, [.ref h1, .ref h2, .ref h3, .ref h4, .ref h5, .int 0, .int 0])), (h4, .inr (0, [.ref h6, .ref h7, .ref h8, .ref h9, .ref h10, .ref h11, .ref h12, .int 0, .int 0, .int 0, .int 0, .int 0, .int 0, .int 0, .int 0, .int 0, .int 0])), (h12, .inr (4, [.ref h13, .ref h14, .ref h15, .int 0]))] := hD
  have hK : va_K (dC, dI) vwCl [] s := hK
  subst er1
  have hP9 := hP.sub (ws' := [(h0, .inr (11, [.ref h1, .ref h2, .ref h3, .ref h4, .ref h5, .int 0, .int 0])), (h4, .inr (0, [.ref h6, .ref h7, .ref h8, .ref h9, .ref h10, .ref h11, .ref h12, .int 0, .int 0, .int 0, .int 0, .int 0, .int 0, .int 0, .int 0, .int 0, .int 0])), (h12, .inr (4, [.ref h13, .ref h14, .ref h15, .int 0]))]) [0, 1, 2] rfl
  have hD9 := hD.sub (ws' := [(h0, .inr (11, [.ref h1, .ref h2, .ref h3, .ref h4, .ref h5, .int 0, .int 0])), (h4, .inr (0, [.ref h6, .ref h7, .ref h8, .ref h9, .ref h10, .ref h11, .ref h12, .int 0, .int 0, .int 0, .int 0, .int 0, .int 0, .int 0, .int 0, .int 0, .int 0])), (h12, .inr (4, [.ref h13, .ref h14, .ref h15, .int 0]))]) [0, 1, 2] (by decide) rfl
  have hK9 := hK.sub (tys' := []) [] rfl
  exact W.iret (v := (-1)) hx hb hr (fun t ht hW => ⟨⟨(-1), (), rfl, ⟨rfl, trivial⟩, by rw [ht]; exact hP9, va_K.moved hW.alike hK9, hD9⟩, hS.F ht⟩) hS.2.2 dX11_label_8
set_option maxHeartbeats 4000000 in
set_option maxRecDepth 100000 in
theorem cX7_clear_1 (l : Launch) (dC : Nat → ClassId) (dI : Nat → Nat → Nat) (h0 : Nat) (sz : Nat) : Met l yX7_clear (Cond.code yX7_clear cX7_clear 1 none :: lw_G) ({ frames := 0, cells := 0, slots := 0, locals := 0 }) (va_Pc [.ref h0] (fun U => U.heap.size = sz ∧ va_P (dC, dI) vwCl [(h0, .inr (7, [.int 0, .int 0, .int 0, .int 0, .int 0]))] U.heap ∧ va_K (dC, dI) vwCl [] U ∧ va_D (fun _ => True) [(h0, .inr (7, [.int 0, .int 0, .int 0, .int 0, .int 0]))])) (va_Qv (fun (u : Unit) => True) (fun (u : Unit) (t : State) => va_P (dC, dI) vwCl [(h0, .inr (7, [.int 0, .int 0, .int 0, .int 0, .int 0]))] t.heap ∧ va_K (dC, dI) vwCl [] t ∧ va_D (va_A [(h0, .inr (7, [.int 0, .int 0, .int 0, .int 0, .int 0]))] sz) [(h0, .inr (7, [.int 0, .int 0, .int 0, .int 0, .int 0]))]) (va_A [(h0, .inr (7, [.int 0, .int 0, .int 0, .int 0, .int 0]))] sz)) 0 0 (va_A [(h0, .inr (7, [.int 0, .int 0, .int 0, .int 0, .int 0]))] sz) := by
  refine Met.ofW (cc := cX7_clear) (maxL := 1) (ret := none) (by decide) rfl ?_
  intro p e s m args below meth c s₁ B hml hv
  obtain ⟨rfl, hsz, hP, hK, hD0⟩ := hv
  have hx := B.exec
  have hb := B.bytes
  have hr := B.returns
  have hts0 := atoms_spec (ws := Cond.code yX7_clear cX7_clear 1 none :: lw_G) B.pre
  have hG : ∀ w ∈ lw_G, w.before _ s = true := fun w h => hts0 w (List.mem_cons_of_mem _ h)
  have hown : s.vm.findClass RX7 = some m.cls := findClass_of_methodNamed B.named
  have hlocks := B.notSynchronized
  subst hsz
  have hD := hD0.self (sz := s.heap.size)
  generalize hAe : va_A [(h0, .inr (7, [.int 0, .int 0, .int 0, .int 0, .int 0]))] s.heap.size = A at hD ⊢
  have hA : ∀ q : Nat, s.heap.size ≤ q → A q := fun q h => by rw [← hAe]; exact Or.inr h
  have hS : va_S A s.heap s.heap [] := va_S.rf
  have hP : va_P (dC, dI) vwCl [(h0, .inr (7, [.int 0, .int 0, .int 0, .int 0, .int 0]))] s.heap := hP
  have hl := lv_entry ([.ref h0]) (n := 1) (Nat.le_of_ble_eq_true rfl)
  rw [lg_entry_eq]
  generalize (lg_sl ([.ref h0]) ++ List.replicate (1 - (lg_sl ([.ref h0])).length) Slot.unset).toArray = ls at hl ⊢
  have hl : lv_has ls 1 [(0, .ref h0)] := hl
  refine lv_aload_n hx hb dX7_clear_0 rfl (lv_at hl 0 rfl) ?_
  refine lv_iconst (v := 0) hx hb dX7_clear_1 (by decide) ?_
  refine va_put (D := (dC, dI)) (ci := 7) (v := .int 0) (ty := .int) (C := RX7) (T := TX7) (N := 5) hx hb hG inGX7 tyX7 tyX7_ok nmX7 hown hK hP hD hS 0 rfl rfl 0 (by decide) (hG _ wd_47) (fun _ h9 => h9) rfl (by decide +kernel) rfl rfl (Nat.le_of_ble_eq_true rfl) dX7_clear_2 (fun H locs hP hD hS => ?_)
  have hP : va_P (dC, dI) vwCl [(h0, .inr (7, [.int 0, .int 0, .int 0, .int 0, .int 0]))] H := hP
  have hD : va_D A [(h0, .inr (7, [.int 0, .int 0, .int 0, .int 0, .int 0]))] := hD
  refine lv_aload_n hx hb dX7_clear_5 rfl (lv_at hl 0 rfl) ?_
  refine lv_iconst (v := 0) hx hb dX7_clear_6 (by decide) ?_
  refine va_put (D := (dC, dI)) (ci := 7) (v := .int 0) (ty := .int) (C := RX7) (T := TX7) (N := 5) hx hb hG inGX7 tyX7 tyX7_ok nmX7 hown hK hP hD hS 0 rfl rfl 1 (by decide) (hG _ wd_48) (fun _ h9 => h9) rfl (by decide +kernel) rfl rfl (Nat.le_of_ble_eq_true rfl) dX7_clear_7 (fun H locs hP hD hS => ?_)
  have hP : va_P (dC, dI) vwCl [(h0, .inr (7, [.int 0, .int 0, .int 0, .int 0, .int 0]))] H := hP
  have hD : va_D A [(h0, .inr (7, [.int 0, .int 0, .int 0, .int 0, .int 0]))] := hD
  refine lv_aload_n hx hb dX7_clear_10 rfl (lv_at hl 0 rfl) ?_
  refine lv_iconst (v := 0) hx hb dX7_clear_11 (by decide) ?_
  refine va_put (D := (dC, dI)) (ci := 7) (v := .int 0) (ty := .int) (C := RX7) (T := TX7) (N := 5) hx hb hG inGX7 tyX7 tyX7_ok nmX7 hown hK hP hD hS 0 rfl rfl 2 (by decide) (hG _ wd_49) (fun _ h9 => h9) rfl (by decide +kernel) rfl rfl (Nat.le_of_ble_eq_true rfl) dX7_clear_12 (fun H locs hP hD hS => ?_)
  have hP : va_P (dC, dI) vwCl [(h0, .inr (7, [.int 0, .int 0, .int 0, .int 0, .int 0]))] H := hP
  have hD : va_D A [(h0, .inr (7, [.int 0, .int 0, .int 0, .int 0, .int 0]))] := hD
  refine lv_aload_n hx hb dX7_clear_15 rfl (lv_at hl 0 rfl) ?_
  refine lv_iconst (v := 0) hx hb dX7_clear_16 (by decide) ?_
  refine va_put (D := (dC, dI)) (ci := 7) (v := .int 0) (ty := .int) (C := RX7) (T := TX7) (N := 5) hx hb hG inGX7 tyX7 tyX7_ok nmX7 hown hK hP hD hS 0 rfl rfl 3 (by decide) (hG _ wd_50) (fun _ h9 => h9) rfl (by decide +kernel) rfl rfl (Nat.le_of_ble_eq_true rfl) dX7_clear_17 (fun H locs hP hD hS => ?_)
  have hP : va_P (dC, dI) vwCl [(h0, .inr (7, [.int 0, .int 0, .int 0, .int 0, .int 0]))] H := hP
  have hD : va_D A [(h0, .inr (7, [.int 0, .int 0, .int 0, .int 0, .int 0]))] := hD
  refine lv_aload_n hx hb dX7_clear_20 rfl (lv_at hl 0 rfl) ?_
  refine lv_iconst (v := 0) hx hb dX7_clear_21 (by decide) ?_
  refine va_put (D := (dC, dI)) (ci := 7) (v := .int 0) (ty := .int) (C := RX7) (T := TX7) (N := 5) hx hb hG inGX7 tyX7 tyX7_ok nmX7 hown hK hP hD hS 0 rfl rfl 4 (by decide) (hG _ wd_51) (fun _ h9 => h9) rfl (by decide +kernel) rfl rfl (Nat.le_of_ble_eq_true rfl) dX7_clear_22 (fun H locs hP hD hS => ?_)
  have hP : va_P (dC, dI) vwCl [(h0, .inr (7, [.int 0, .int 0, .int 0, .int 0, .int 0]))] H := hP
  have hD : va_D A [(h0, .inr (7, [.int 0, .int 0, .int 0, .int 0, .int 0]))] := hD
  have hP9 := hP.sub (ws' := [(h0, .inr (7, [.int 0, .int 0, .int 0, .int 0, .int 0]))]) [0] rfl
  have hD9 := hD.sub (ws' := [(h0, .inr (7, [.int 0, .int 0, .int 0, .int 0, .int 0]))]) [0] (by decide) rfl
  have hK9 := hK.sub (tys' := []) [] rfl
  exact W.vret hx hb hr (fun t ht hW => ⟨⟨(), rfl, trivial, by rw [ht]; exact hP9, va_K.moved hW.alike hK9, hD9⟩, hS.F ht⟩) hS.2.2 dX7_clear_25
set_option maxHeartbeats 4000000 in
set_option maxRecDepth 100000 in
theorem cX5_clear_1 (l : Launch) (dC : Nat → ClassId) (dI : Nat → Nat → Nat) (h0 : Nat) (sz : Nat) : Met l yX5_clear (Cond.code yX5_clear cX5_clear 1 none :: lw_G) ({ frames := 0, cells := 0, slots := 0, locals := 0 }) (va_Pc [.ref h0] (fun U => U.heap.size = sz ∧ va_P (dC, dI) vwCl [(h0, .inr (5, [.int 304, .int 0, .int 0, .int 0, .int 0, .int 0]))] U.heap ∧ va_K (dC, dI) vwCl [] U ∧ va_D (fun _ => True) [(h0, .inr (5, [.int 304, .int 0, .int 0, .int 0, .int 0, .int 0]))])) (va_Qv (fun (u : Unit) => True) (fun (u : Unit) (t : State) => va_P (dC, dI) vwCl [(h0, .inr (5, [.int 304, .int 0, .int 0, .int 0, .int 0, .int 0]))] t.heap ∧ va_K (dC, dI) vwCl [] t ∧ va_D (va_A [(h0, .inr (5, [.int 304, .int 0, .int 0, .int 0, .int 0, .int 0]))] sz) [(h0, .inr (5, [.int 304, .int 0, .int 0, .int 0, .int 0, .int 0]))]) (va_A [(h0, .inr (5, [.int 304, .int 0, .int 0, .int 0, .int 0, .int 0]))] sz)) 0 0 (va_A [(h0, .inr (5, [.int 304, .int 0, .int 0, .int 0, .int 0, .int 0]))] sz) := by
  refine Met.ofW (cc := cX5_clear) (maxL := 1) (ret := none) (by decide) rfl ?_
  intro p e s m args below meth c s₁ B hml hv
  obtain ⟨rfl, hsz, hP, hK, hD0⟩ := hv
  have hx := B.exec
  have hb := B.bytes
  have hr := B.returns
  have hts0 := atoms_spec (ws := Cond.code yX5_clear cX5_clear 1 none :: lw_G) B.pre
  have hG : ∀ w ∈ lw_G, w.before _ s = true := fun w h => hts0 w (List.mem_cons_of_mem _ h)
  have hown : s.vm.findClass RX5 = some m.cls := findClass_of_methodNamed B.named
  have hlocks := B.notSynchronized
  subst hsz
  have hD := hD0.self (sz := s.heap.size)
  generalize hAe : va_A [(h0, .inr (5, [.int 304, .int 0, .int 0, .int 0, .int 0, .int 0]))] s.heap.size = A at hD ⊢
  have hA : ∀ q : Nat, s.heap.size ≤ q → A q := fun q h => by rw [← hAe]; exact Or.inr h
  have hS : va_S A s.heap s.heap [] := va_S.rf
  have hP : va_P (dC, dI) vwCl [(h0, .inr (5, [.int 304, .int 0, .int 0, .int 0, .int 0, .int 0]))] s.heap := hP
  have hl := lv_entry ([.ref h0]) (n := 1) (Nat.le_of_ble_eq_true rfl)
  rw [lg_entry_eq]
  generalize (lg_sl ([.ref h0]) ++ List.replicate (1 - (lg_sl ([.ref h0])).length) Slot.unset).toArray = ls at hl ⊢
  have hl : lv_has ls 1 [(0, .ref h0)] := hl
  refine lv_aload_n hx hb dX5_clear_0 rfl (lv_at hl 0 rfl) ?_
  refine lv_sipush (v := 304) hx hb dX5_clear_1 (by decide) ?_
  refine va_put (D := (dC, dI)) (ci := 5) (v := .int 304) (ty := .int) (C := RX5) (T := TX5) (N := 6) hx hb hG inGX5 tyX5 tyX5_ok nmX5 hown hK hP hD hS 0 rfl rfl 0 (by decide) (hG _ wd_70) (fun _ h9 => h9) rfl (by decide +kernel) rfl rfl (Nat.le_of_ble_eq_true rfl) dX5_clear_4 (fun H locs hP hD hS => ?_)
  have hP : va_P (dC, dI) vwCl [(h0, .inr (5, [.int 304, .int 0, .int 0, .int 0, .int 0, .int 0]))] H := hP
  have hD : va_D A [(h0, .inr (5, [.int 304, .int 0, .int 0, .int 0, .int 0, .int 0]))] := hD
  refine lv_aload_n hx hb dX5_clear_7 rfl (lv_at hl 0 rfl) ?_
  refine lv_iconst (v := 0) hx hb dX5_clear_8 (by decide) ?_
  refine va_put (D := (dC, dI)) (ci := 5) (v := .int 0) (ty := .int) (C := RX5) (T := TX5) (N := 6) hx hb hG inGX5 tyX5 tyX5_ok nmX5 hown hK hP hD hS 0 rfl rfl 1 (by decide) (hG _ wd_71) (fun _ h9 => h9) rfl (by decide +kernel) rfl rfl (Nat.le_of_ble_eq_true rfl) dX5_clear_9 (fun H locs hP hD hS => ?_)
  have hP : va_P (dC, dI) vwCl [(h0, .inr (5, [.int 304, .int 0, .int 0, .int 0, .int 0, .int 0]))] H := hP
  have hD : va_D A [(h0, .inr (5, [.int 304, .int 0, .int 0, .int 0, .int 0, .int 0]))] := hD
  refine lv_aload_n hx hb dX5_clear_12 rfl (lv_at hl 0 rfl) ?_
  refine lv_iconst (v := 0) hx hb dX5_clear_13 (by decide) ?_
  refine va_put (D := (dC, dI)) (ci := 5) (v := .int 0) (ty := .int) (C := RX5) (T := TX5) (N := 6) hx hb hG inGX5 tyX5 tyX5_ok nmX5 hown hK hP hD hS 0 rfl rfl 2 (by decide) (hG _ wd_72) (fun _ h9 => h9) rfl (by decide +kernel) rfl rfl (Nat.le_of_ble_eq_true rfl) dX5_clear_14 (fun H locs hP hD hS => ?_)
  have hP : va_P (dC, dI) vwCl [(h0, .inr (5, [.int 304, .int 0, .int 0, .int 0, .int 0, .int 0]))] H := hP
  have hD : va_D A [(h0, .inr (5, [.int 304, .int 0, .int 0, .int 0, .int 0, .int 0]))] := hD
  refine lv_aload_n hx hb dX5_clear_17 rfl (lv_at hl 0 rfl) ?_
  refine lv_iconst (v := 0) hx hb dX5_clear_18 (by decide) ?_
  refine va_put (D := (dC, dI)) (ci := 5) (v := .int 0) (ty := .int) (C := RX5) (T := TX5) (N := 6) hx hb hG inGX5 tyX5 tyX5_ok nmX5 hown hK hP hD hS 0 rfl rfl 3 (by decide) (hG _ wd_73) (fun _ h9 => h9) rfl (by decide +kernel) rfl rfl (Nat.le_of_ble_eq_true rfl) dX5_clear_19 (fun H locs hP hD hS => ?_)
  have hP : va_P (dC, dI) vwCl [(h0, .inr (5, [.int 304, .int 0, .int 0, .int 0, .int 0, .int 0]))] H := hP
  have hD : va_D A [(h0, .inr (5, [.int 304, .int 0, .int 0, .int 0, .int 0, .int 0]))] := hD
  refine lv_aload_n hx hb dX5_clear_22 rfl (lv_at hl 0 rfl) ?_
  refine lv_iconst (v := 0) hx hb dX5_clear_23 (by decide) ?_
  refine va_put (D := (dC, dI)) (ci := 5) (v := .int 0) (ty := .int) (C := RX5) (T := TX5) (N := 6) hx hb hG inGX5 tyX5 tyX5_ok nmX5 hown hK hP hD hS 0 rfl rfl 4 (by decide) (hG _ wd_74) (fun _ h9 => h9) rfl (by decide +kernel) rfl rfl (Nat.le_of_ble_eq_true rfl) dX5_clear_24 (fun H locs hP hD hS => ?_)
  have hP : va_P (dC, dI) vwCl [(h0, .inr (5, [.int 304, .int 0, .int 0, .int 0, .int 0, .int 0]))] H := hP
  have hD : va_D A [(h0, .inr (5, [.int 304, .int 0, .int 0, .int 0, .int 0, .int 0]))] := hD
  refine lv_aload_n hx hb dX5_clear_27 rfl (lv_at hl 0 rfl) ?_
  refine lv_iconst (v := 0) hx hb dX5_clear_28 (by decide) ?_
  refine va_put (D := (dC, dI)) (ci := 5) (v := .int 0) (ty := .int) (C := RX5) (T := TX5) (N := 6) hx hb hG inGX5 tyX5 tyX5_ok nmX5 hown hK hP hD hS 0 rfl rfl 5 (by decide) (hG _ wd_75) (fun _ h9 => h9) rfl (by decide +kernel) rfl rfl (Nat.le_of_ble_eq_true rfl) dX5_clear_29 (fun H locs hP hD hS => ?_)
  have hP : va_P (dC, dI) vwCl [(h0, .inr (5, [.int 304, .int 0, .int 0, .int 0, .int 0, .int 0]))] H := hP
  have hD : va_D A [(h0, .inr (5, [.int 304, .int 0, .int 0, .int 0, .int 0, .int 0]))] := hD
  have hP9 := hP.sub (ws' := [(h0, .inr (5, [.int 304, .int 0, .int 0, .int 0, .int 0, .int 0]))]) [0] rfl
  have hD9 := hD.sub (ws' := [(h0, .inr (5, [.int 304, .int 0, .int 0, .int 0, .int 0, .int 0]))]) [0] (by decide) rfl
  have hK9 := hK.sub (tys' := []) [] rfl
  exact W.vret hx hb hr (fun t ht hW => ⟨⟨(), rfl, trivial, by rw [ht]; exact hP9, va_K.moved hW.alike hK9, hD9⟩, hS.F ht⟩) hS.2.2 dX5_clear_32
set_option maxHeartbeats 4000000 in
set_option maxRecDepth 100000 in
theorem cX9_startAnew_1 (l : Launch) (dC : Nat → ClassId) (dI : Nat → Nat → Nat) (h0 h1 h2 : Nat) (sz : Nat) : Met l yX9_startAnew (Cond.code yX9_startAnew cX9_startAnew 1 none :: lw_G) ({ frames := 0, cells := 0, slots := 0, locals := 0 }) (va_Pc [.ref h0] (fun U => U.heap.size = sz ∧ va_P (dC, dI) vwCl [(h0, .inr (9, [.ref h1, .ref h2, .int 0, .int 0, .int 0, .int 0]))] U.heap ∧ va_K (dC, dI) vwCl [] U ∧ va_D (fun _ => True) [(h0, .inr (9, [.ref h1, .ref h2, .int 0, .int 0, .int 0, .int 0]))])) (va_Qv (fun (u : Unit) => True) (fun (u : Unit) (t : State) => va_P (dC, dI) vwCl [(h0, .inr (9, [.ref h1, .ref h2, .int 0, .int 0, .int 0, .int 0]))] t.heap ∧ va_K (dC, dI) vwCl [] t ∧ va_D (va_A [(h0, .inr (9, [.ref h1, .ref h2, .int 0, .int 0, .int 0, .int 0]))] sz) [(h0, .inr (9, [.ref h1, .ref h2, .int 0, .int 0, .int 0, .int 0]))]) (va_A [(h0, .inr (9, [.ref h1, .ref h2, .int 0, .int 0, .int 0, .int 0]))] sz)) 0 0 (va_A [(h0, .inr (9, [.ref h1, .ref h2, .int 0, .int 0, .int 0, .int 0]))] sz) := by
  refine Met.ofW (cc := cX9_startAnew) (maxL := 1) (ret := none) (by decide) rfl ?_
  intro p e s m args below meth c s₁ B hml hv
  obtain ⟨rfl, hsz, hP, hK, hD0⟩ := hv
  have hx := B.exec
  have hb := B.bytes
  have hr := B.returns
  have hts0 := atoms_spec (ws := Cond.code yX9_startAnew cX9_startAnew 1 none :: lw_G) B.pre
  have hG : ∀ w ∈ lw_G, w.before _ s = true := fun w h => hts0 w (List.mem_cons_of_mem _ h)
  have hown : s.vm.findClass RX9 = some m.cls := findClass_of_methodNamed B.named
  have hlocks := B.notSynchronized
  subst hsz
  have hD := hD0.self (sz := s.heap.size)
  generalize hAe : va_A [(h0, .inr (9, [.ref h1, .ref h2, .int 0, .int 0, .int 0, .int 0]))] s.heap.size = A at hD ⊢
  have hA : ∀ q : Nat, s.heap.size ≤ q → A q := fun q h => by rw [← hAe]; exact Or.inr h
  have hS : va_S A s.heap s.heap [] := va_S.rf
  have hP : va_P (dC, dI) vwCl [(h0, .inr (9, [.ref h1, .ref h2, .int 0, .int 0, .int 0, .int 0]))] s.heap := hP
  have hl := lv_entry ([.ref h0]) (n := 1) (Nat.le_of_ble_eq_true rfl)
  rw [lg_entry_eq]
  generalize (lg_sl ([.ref h0]) ++ List.replicate (1 - (lg_sl ([.ref h0])).length) Slot.unset).toArray = ls at hl ⊢
  have hl : lv_has ls 1 [(0, .ref h0)] := hl
  refine lv_aload_n hx hb dX9_startAnew_0 rfl (lv_at hl 0 rfl) ?_
  refine lv_iconst (v := 0) hx hb dX9_startAnew_1 (by decide) ?_
  refine va_put (D := (dC, dI)) (ci := 9) (v := .int 0) (ty := .int) (C := RX9) (T := TX9) (N := 6) hx hb hG inGX9 tyX9 tyX9_ok nmX9 hown hK hP hD hS 0 rfl rfl 3 (by decide) (hG _ wd_98) (fun _ h9 => h9) rfl (by decide +kernel) rfl rfl (Nat.le_of_ble_eq_true rfl) dX9_startAnew_2 (fun H locs hP hD hS => ?_)
  have hP : va_P (dC, dI) vwCl [(h0, .inr (9, [.ref h1, .ref h2, .int 0, .int 0, .int 0, .int 0]))] H := hP
  have hD : va_D A [(h0, .inr (9, [.ref h1, .ref h2, .int 0, .int 0, .int 0, .int 0]))] := hD
  refine lv_aload_n hx hb dX9_startAnew_5 rfl (lv_at hl 0 rfl) ?_
  refine lv_iconst (v := 0) hx hb dX9_startAnew_6 (by decide) ?_
  refine va_put (D := (dC, dI)) (ci := 9) (v := .int 0) (ty := .int) (C := RX9) (T := TX9) (N := 6) hx hb hG inGX9 tyX9 tyX9_ok nmX9 hown hK hP hD hS 0 rfl rfl 4 (by decide) (hG _ wd_99) (fun _ h9 => h9) rfl (by decide +kernel) rfl rfl (Nat.le_of_ble_eq_true rfl) dX9_startAnew_7 (fun H locs hP hD hS => ?_)
  have hP : va_P (dC, dI) vwCl [(h0, .inr (9, [.ref h1, .ref h2, .int 0, .int 0, .int 0, .int 0]))] H := hP
  have hD : va_D A [(h0, .inr (9, [.ref h1, .ref h2, .int 0, .int 0, .int 0, .int 0]))] := hD
  refine lv_aload_n hx hb dX9_startAnew_10 rfl (lv_at hl 0 rfl) ?_
  refine lv_iconst (v := 0) hx hb dX9_startAnew_11 (by decide) ?_
  refine va_put (D := (dC, dI)) (ci := 9) (v := .int 0) (ty := .boolean) (C := RX9) (T := TX9) (N := 6) hx hb hG inGX9 tyX9 tyX9_ok nmX9 hown hK hP hD hS 0 rfl rfl 5 (by decide) (hG _ wd_100) (fun _ h9 => h9) rfl (by decide +kernel) rfl rfl (Nat.le_of_ble_eq_true rfl) dX9_startAnew_12 (fun H locs hP hD hS => ?_)
  have hP : va_P (dC, dI) vwCl [(h0, .inr (9, [.ref h1, .ref h2, .int 0, .int 0, .int 0, .int 0]))] H := hP
  have hD : va_D A [(h0, .inr (9, [.ref h1, .ref h2, .int 0, .int 0, .int 0, .int 0]))] := hD
  have hP9 := hP.sub (ws' := [(h0, .inr (9, [.ref h1, .ref h2, .int 0, .int 0, .int 0, .int 0]))]) [0] rfl
  have hD9 := hD.sub (ws' := [(h0, .inr (9, [.ref h1, .ref h2, .int 0, .int 0, .int 0, .int 0]))]) [0] (by decide) rfl
  have hK9 := hK.sub (tys' := []) [] rfl
  exact W.vret hx hb hr (fun t ht hW => ⟨⟨(), rfl, trivial, by rw [ht]; exact hP9, va_K.moved hW.alike hK9, hD9⟩, hS.F ht⟩) hS.2.2 dX9_startAnew_15
set_option maxHeartbeats 4000000 in
set_option maxRecDepth 100000 in
theorem cX9_clear_1 (l : Launch) (dC : Nat → ClassId) (dI : Nat → Nat → Nat) (h0 h1 h2 : Nat) (y0 y1 : ClassId) (sz : Nat) : Met l yX9_clear (Cond.code yX9_clear cX9_clear 2 none :: lw_G) ({ frames := 1, cells := 0, slots := 0, locals := 20 }) (va_Pc [.ref h0] (fun U => U.heap.size = sz ∧ va_P (dC, dI) vwCl [(h0, .inr (9, [.ref h1, .ref h2, .int 0, .int 0, .int 0, .int 0])), (h1, .inl (y0, 3, .inl (fun _ => 0))), (h2, .inl (y1, 3, .inl (fun _ => 0)))] U.heap ∧ va_K (dC, dI) vwCl [(y0, .int), (y1, .int)] U ∧ va_D (fun _ => True) [(h0, .inr (9, [.ref h1, .ref h2, .int 0, .int 0, .int 0, .int 0])), (h1, .inl (y0, 3, .inl (fun _ => 0))), (h2, .inl (y1, 3, .inl (fun _ => 0)))])) (va_Qv (fun (u : (Nat → Int32) × (Nat → Int32)) => (∀ j, iv (u.1 j) 0 0) ∧ u.1 0 = 0 ∧ u.1 1 = 0 ∧ u.1 2 = 0 ∧ (∀ j, iv (u.2 j) 0 0) ∧ u.2 0 = 0 ∧ u.2 1 = 0 ∧ u.2 2 = 0 ∧ True) (fun (u : (Nat → Int32) × (Nat → Int32)) (t : State) => va_P (dC, dI) vwCl [(h0, .inr (9, [.ref h1, .ref h2, .int 0, .int 0, .int 0, .int 0])), (h1, .inl (y0, 3, .inl u.1)), (h2, .inl (y1, 3, .inl u.2))] t.heap ∧ va_K (dC, dI) vwCl [(y0, .int), (y1, .int)] t ∧ va_D (va_A [(h0, .inr (9, [.ref h1, .ref h2, .int 0, .int 0, .int 0, .int 0])), (h1, .inl (y0, 3, .inl (fun _ => 0))), (h2, .inl (y1, 3, .inl (fun _ => 0)))] sz) [(h0, .inr (9, [.ref h1, .ref h2, .int 0, .int 0, .int 0, .int 0])), (h1, .inl (y0, 3, .inl u.1)), (h2, .inl (y1, 3, .inl u.2))]) (va_A [(h0, .inr (9, [.ref h1, .ref h2, .int 0, .int 0, .int 0, .int 0])), (h1, .inl (y0, 3, .inl (fun _ => 0))), (h2, .inl (y1, 3, .inl (fun _ => 0)))] sz)) 0 0 (va_A [(h0, .inr (9, [.ref h1, .ref h2, .int 0, .int 0, .int 0, .int 0])), (h1, .inl (y0, 3, .inl (fun _ => 0))), (h2, .inl (y1, 3, .inl (fun _ => 0)))] sz) := by
  refine Met.ofW (cc := cX9_clear) (maxL := 2) (ret := none) (by decide) rfl ?_
  intro p e s m args below meth c s₁ B hml hv
  obtain ⟨rfl, hsz, hP, hK, hD0⟩ := hv
  have hx := B.exec
  have hb := B.bytes
  have hr := B.returns
  have hts0 := atoms_spec (ws := Cond.code yX9_clear cX9_clear 2 none :: lw_G) B.pre
  have hG : ∀ w ∈ lw_G, w.before _ s = true := fun w h => hts0 w (List.mem_cons_of_mem _ h)
  have hown : s.vm.findClass RX9 = some m.cls := findClass_of_methodNamed B.named
  have hlocks := B.notSynchronized
  subst hsz
  have hD := hD0.self (sz := s.heap.size)
  generalize hAe : va_A [(h0, .inr (9, [.ref h1, .ref h2, .int 0, .int 0, .int 0, .int 0])), (h1, .inl (y0, 3, .inl (fun _ => 0))), (h2, .inl (y1, 3, .inl (fun _ => 0)))] s.heap.size = A at hD ⊢
  have hA : ∀ q : Nat, s.heap.size ≤ q → A q := fun q h => by rw [← hAe]; exact Or.inr h
  have hS : va_S A s.heap s.heap [] := va_S.rf
  have hP : va_P (dC, dI) vwCl [(h0, .inr (9, [.ref h1, .ref h2, .int 0, .int 0, .int 0, .int 0])), (h1, .inl (y0, 3, .inl (fun _ => 0))), (h2, .inl (y1, 3, .inl (fun _ => 0)))] s.heap := hP
  have hl := lv_entry ([.ref h0]) (n := 2) (Nat.le_of_ble_eq_true rfl)
  rw [lg_entry_eq]
  generalize (lg_sl ([.ref h0]) ++ List.replicate (2 - (lg_sl ([.ref h0])).length) Slot.unset).toArray = ls at hl ⊢
  have hl : lv_has ls 2 [(0, .ref h0)] := hl
  refine lv_iconst (v := 0) hx hb dX9_clear_0 (by decide) ?_
  refine lv_istore_n (lv' := [(1, .int 0), (0, .ref h0)]) hx hb dX9_clear_1 rfl hl (by decide) rfl (fun ls hl => ?_)
  refine lv_iload_n hx hb dX9_clear_2 rfl (lv_at hl 0 rfl) ?_
  refine lv_iconst (v := 3) hx hb dX9_clear_3 (by decide) ?_
  refine lv_icmp_ge (tgt := 27) hx hb dX9_clear_4 (by decide) (fun c => absurd c (by decide)) (fun _ => ?_)
  refine lv_aload_n hx hb dX9_clear_7 rfl (lv_at hl 1 rfl) ?_
  refine va_get (D := (dC, dI)) (ci := 9) (v := .ref h1) (C := RX9) (T := TX9) (N := 6) hx hb hG inGX9 hown hK hP 0 rfl rfl 0 (by decide) (hG _ wd_95) (fun _ h9 => h9) rfl dX9_clear_8 ?_
  refine lv_iload_n hx hb dX9_clear_11 rfl (lv_at hl 0 rfl) ?_
  refine lv_iconst (v := 0) hx hb dX9_clear_12 (by decide) ?_
  refine va_iast hx hb hK hP hD hS 1 0 rfl rfl (iv_in (by decide : iv 0 0 0) (by decide) (by decide) : vp_in 0 3) dX9_clear_13 (fun H locs hP hD hS => ?_)
  have hP : va_P (dC, dI) vwCl [(h0, .inr (9, [.ref h1, .ref h2, .int 0, .int 0, .int 0, .int 0])), (h1, .inl (y0, 3, .inl (upd (fun _ => 0) (0 : Int32).toNatClampNeg 0))), (h2, .inl (y1, 3, .inl (fun _ => 0)))] H := hP
  have hD : va_D A [(h0, .inr (9, [.ref h1, .ref h2, .int 0, .int 0, .int 0, .int 0])), (h1, .inl (y0, 3, .inl (upd (fun _ => 0) (0 : Int32).toNatClampNeg 0))), (h2, .inl (y1, 3, .inl (fun _ => 0)))] := hD
  obtain ⟨f1, ef1⟩ : ∃ z, z = upd (fun _ => 0) (0 : Int32).toNatClampNeg 0 := ⟨_, rfl⟩
  rw [← ef1] at hP hD
  have if1 : ∀ j, iv (f1 j) 0 0 := by rw [ef1]; exact iv_upd (fun _ => (by decide : iv 0 0 0)) (by decide : iv 0 0 0) (by decide) (by decide) (by decide) (by decide)
  refine lv_aload_n hx hb dX9_clear_14 rfl (lv_at hl 1 rfl) ?_
  refine va_get (D := (dC, dI)) (ci := 9) (v := .ref h2) (C := RX9) (T := TX9) (N := 6) hx hb hG inGX9 hown hK hP 0 rfl rfl 1 (by decide) (hG _ wd_96) (fun _ h9 => h9) rfl dX9_clear_15 ?_
  refine lv_iload_n hx hb dX9_clear_18 rfl (lv_at hl 0 rfl) ?_
  refine lv_iconst (v := 0) hx hb dX9_clear_19 (by decide) ?_
  refine va_iast hx hb hK hP hD hS 2 1 rfl rfl (iv_in (by decide : iv 0 0 0) (by decide) (by decide) : vp_in 0 3) dX9_clear_20 (fun H locs hP hD hS => ?_)
  have hP : va_P (dC, dI) vwCl [(h0, .inr (9, [.ref h1, .ref h2, .int 0, .int 0, .int 0, .int 0])), (h1, .inl (y0, 3, .inl f1)), (h2, .inl (y1, 3, .inl (upd (fun _ => 0) (0 : Int32).toNatClampNeg 0)))] H := hP
  have hD : va_D A [(h0, .inr (9, [.ref h1, .ref h2, .int 0, .int 0, .int 0, .int 0])), (h1, .inl (y0, 3, .inl f1)), (h2, .inl (y1, 3, .inl (upd (fun _ => 0) (0 : Int32).toNatClampNeg 0)))] := hD
  obtain ⟨f2, ef2⟩ : ∃ z, z = upd (fun _ => 0) (0 : Int32).toNatClampNeg 0 := ⟨_, rfl⟩
  rw [← ef2] at hP hD
  have if2 : ∀ j, iv (f2 j) 0 0 := by rw [ef2]; exact iv_upd (fun _ => (by decide : iv 0 0 0)) (by decide : iv 0 0 0) (by decide) (by decide) (by decide) (by decide)
  refine lv_iinc (v := 1) (lv' := [(1, .int 1), (0, .ref h0)]) hx hb dX9_clear_21 hl (k := 0) rfl (by decide) (by decide) rfl (fun ls hl => ?_)
  refine lv_goto (tgt := 2) hx hb dX9_clear_24 (by decide) ?_
  refine lv_iload_n hx hb dX9_clear_2 rfl (lv_at hl 0 rfl) ?_
  refine lv_iconst (v := 3) hx hb dX9_clear_3 (by decide) ?_
  refine lv_icmp_ge (tgt := 27) hx hb dX9_clear_4 (by decide) (fun c => absurd c (by decide)) (fun _ => ?_)
  refine lv_aload_n hx hb dX9_clear_7 rfl (lv_at hl 1 rfl) ?_
  refine va_get (D := (dC, dI)) (ci := 9) (v := .ref h1) (C := RX9) (T := TX9) (N := 6) hx hb hG inGX9 hown hK hP 0 rfl rfl 0 (by decide) (hG _ wd_95) (fun _ h9 => h9) rfl dX9_clear_8 ?_
  refine lv_iload_n hx hb dX9_clear_11 rfl (lv_at hl 0 rfl) ?_
  refine lv_iconst (v := 0) hx hb dX9_clear_12 (by decide) ?_
  refine va_iast hx hb hK hP hD hS 1 0 rfl rfl (iv_in (by decide : iv 1 1 1) (by decide) (by decide) : vp_in 1 3) dX9_clear_13 (fun H locs hP hD hS => ?_)
  have hP : va_P (dC, dI) vwCl [(h0, .inr (9, [.ref h1, .ref h2, .int 0, .int 0, .int 0, .int 0])), (h1, .inl (y0, 3, .inl (upd f1 (1 : Int32).toNatClampNeg 0))), (h2, .inl (y1, 3, .inl f2))] H := hP
  have hD : va_D A [(h0, .inr (9, [.ref h1, .ref h2, .int 0, .int 0, .int 0, .int 0])), (h1, .inl (y0, 3, .inl (upd f1 (1 : Int32).toNatClampNeg 0))), (h2, .inl (y1, 3, .inl f2))] := hD
  obtain ⟨f3, ef3⟩ : ∃ z, z = upd f1 (1 : Int32).toNatClampNeg 0 := ⟨_, rfl⟩
  rw [← ef3] at hP hD
  have if3 : ∀ j, iv (f3 j) 0 0 := by rw [ef3]; exact iv_upd if1 (by decide : iv 0 0 0) (by decide) (by decide) (by decide) (by decide)
  refine lv_aload_n hx hb dX9_clear_14 rfl (lv_at hl 1 rfl) ?_
  refine va_get (D := (dC, dI)) (ci := 9) (v := .ref h2) (C := RX9) (T := TX9) (N := 6) hx hb hG inGX9 hown hK hP 0 rfl rfl 1 (by decide) (hG _ wd_96) (fun _ h9 => h9) rfl dX9_clear_15 ?_
  refine lv_iload_n hx hb dX9_clear_18 rfl (lv_at hl 0 rfl) ?_
  refine lv_iconst (v := 0) hx hb dX9_clear_19 (by decide) ?_
  refine va_iast hx hb hK hP hD hS 2 1 rfl rfl (iv_in (by decide : iv 1 1 1) (by decide) (by decide) : vp_in 1 3) dX9_clear_20 (fun H locs hP hD hS => ?_)
  have hP : va_P (dC, dI) vwCl [(h0, .inr (9, [.ref h1, .ref h2, .int 0, .int 0, .int 0, .int 0])), (h1, .inl (y0, 3, .inl f3)), (h2, .inl (y1, 3, .inl (upd f2 (1 : Int32).toNatClampNeg 0)))] H := hP
  have hD : va_D A [(h0, .inr (9, [.ref h1, .ref h2, .int 0, .int 0, .int 0, .int 0])), (h1, .inl (y0, 3, .inl f3)), (h2, .inl (y1, 3, .inl (upd f2 (1 : Int32).toNatClampNeg 0)))] := hD
  obtain ⟨f4, ef4⟩ : ∃ z, z = upd f2 (1 : Int32).toNatClampNeg 0 := ⟨_, rfl⟩
  rw [← ef4] at hP hD
  have if4 : ∀ j, iv (f4 j) 0 0 := by rw [ef4]; exact iv_upd if2 (by decide : iv 0 0 0) (by decide) (by decide) (by decide) (by decide)
  refine lv_iinc (v := 2) (lv' := [(1, .int 2), (0, .ref h0)]) hx hb dX9_clear_21 hl (k := 0) rfl (by decide) (by decide) rfl (fun ls hl => ?_)
  refine lv_goto (tgt := 2) hx hb dX9_clear_24 (by decide) ?_
  refine lv_iload_n hx hb dX9_clear_2 rfl (lv_at hl 0 rfl) ?_
  refine lv_iconst (v := 3) hx hb dX9_clear_3 (by decide) ?_
  refine lv_icmp_ge (tgt := 27) hx hb dX9_clear_4 (by decide) (fun c => absurd c (by decide)) (fun _ => ?_)
  refine lv_aload_n hx hb dX9_clear_7 rfl (lv_at hl 1 rfl) ?_
  refine va_get (D := (dC, dI)) (ci := 9) (v := .ref h1) (C := RX9) (T := TX9) (N := 6) hx hb hG inGX9 hown hK hP 0 rfl rfl 0 (by decide) (hG _ wd_95) (fun _ h9 => h9) rfl dX9_clear_8 ?_
  refine lv_iload_n hx hb dX9_clear_11 rfl (lv_at hl 0 rfl) ?_
  refine lv_iconst (v := 0) hx hb dX9_clear_12 (by decide) ?_
  refine va_iast hx hb hK hP hD hS 1 0 rfl rfl (iv_in (by decide : iv 2 2 2) (by decide) (by decide) : vp_in 2 3) dX9_clear_13 (fun H locs hP hD hS => ?_)
  have hP : va_P (dC, dI) vwCl [(h0, .inr (9, [.ref h1, .ref h2, .int 0, .int 0, .int 0, .int 0])), (h1, .inl (y0, 3, .inl (upd f3 (2 : Int32).toNatClampNeg 0))), (h2, .inl (y1, 3, .inl f4))] H := hP
  have hD : va_D A [(h0, .inr (9, [.ref h1, .ref h2, .int 0, .int 0, .int 0, .int 0])), (h1, .inl (y0, 3, .inl (upd f3 (2 : Int32).toNatClampNeg 0))), (h2, .inl (y1, 3, .inl f4))] := hD
  obtain ⟨f5, ef5⟩ : ∃ z, z = upd f3 (2 : Int32).toNatClampNeg 0 := ⟨_, rfl⟩
  rw [← ef5] at hP hD
  have if5 : ∀ j, iv (f5 j) 0 0 := by rw [ef5]; exact iv_upd if3 (by decide : iv 0 0 0) (by decide) (by decide) (by decide) (by decide)
  refine lv_aload_n hx hb dX9_clear_14 rfl (lv_at hl 1 rfl) ?_
  refine va_get (D := (dC, dI)) (ci := 9) (v := .ref h2) (C := RX9) (T := TX9) (N := 6) hx hb hG inGX9 hown hK hP 0 rfl rfl 1 (by decide) (hG _ wd_96) (fun _ h9 => h9) rfl dX9_clear_15 ?_
  refine lv_iload_n hx hb dX9_clear_18 rfl (lv_at hl 0 rfl) ?_
  refine lv_iconst (v := 0) hx hb dX9_clear_19 (by decide) ?_
  refine va_iast hx hb hK hP hD hS 2 1 rfl rfl (iv_in (by decide : iv 2 2 2) (by decide) (by decide) : vp_in 2 3) dX9_clear_20 (fun H locs hP hD hS => ?_)
  have hP : va_P (dC, dI) vwCl [(h0, .inr (9, [.ref h1, .ref h2, .int 0, .int 0, .int 0, .int 0])), (h1, .inl (y0, 3, .inl f5)), (h2, .inl (y1, 3, .inl (upd f4 (2 : Int32).toNatClampNeg 0)))] H := hP
  have hD : va_D A [(h0, .inr (9, [.ref h1, .ref h2, .int 0, .int 0, .int 0, .int 0])), (h1, .inl (y0, 3, .inl f5)), (h2, .inl (y1, 3, .inl (upd f4 (2 : Int32).toNatClampNeg 0)))] := hD
  obtain ⟨f6, ef6⟩ : ∃ z, z = upd f4 (2 : Int32).toNatClampNeg 0 := ⟨_, rfl⟩
  rw [← ef6] at hP hD
  have if6 : ∀ j, iv (f6 j) 0 0 := by rw [ef6]; exact iv_upd if4 (by decide : iv 0 0 0) (by decide) (by decide) (by decide) (by decide)
  refine lv_iinc (v := 3) (lv' := [(1, .int 3), (0, .ref h0)]) hx hb dX9_clear_21 hl (k := 0) rfl (by decide) (by decide) rfl (fun ls hl => ?_)
  refine lv_goto (tgt := 2) hx hb dX9_clear_24 (by decide) ?_
  refine lv_iload_n hx hb dX9_clear_2 rfl (lv_at hl 0 rfl) ?_
  refine lv_iconst (v := 3) hx hb dX9_clear_3 (by decide) ?_
  refine lv_icmp_ge (tgt := 27) hx hb dX9_clear_4 (by decide) (fun _ => ?_) (fun c => absurd (by decide) c)
  refine lv_aload_n hx hb dX9_clear_27 rfl (lv_at hl 1 rfl) ?_
  refine lv_iconst (v := 0) hx hb dX9_clear_28 (by decide) ?_
  refine va_put (D := (dC, dI)) (ci := 9) (v := .int 0) (ty := .int) (C := RX9) (T := TX9) (N := 6) hx hb hG inGX9 tyX9 tyX9_ok nmX9 hown hK hP hD hS 0 rfl rfl 2 (by decide) (hG _ wd_97) (fun _ h9 => h9) rfl (by decide +kernel) rfl rfl (Nat.le_of_ble_eq_true rfl) dX9_clear_29 (fun H locs hP hD hS => ?_)
  have hP : va_P (dC, dI) vwCl [(h0, .inr (9, [.ref h1, .ref h2, .int 0, .int 0, .int 0, .int 0])), (h1, .inl (y0, 3, .inl f5)), (h2, .inl (y1, 3, .inl f6))] H := hP
  have hD : va_D A [(h0, .inr (9, [.ref h1, .ref h2, .int 0, .int 0, .int 0, .int 0])), (h1, .inl (y0, 3, .inl f5)), (h2, .inl (y1, 3, .inl f6))] := hD
  refine lv_aload_n hx hb dX9_clear_32 rfl (lv_at hl 1 rfl) ?_
  have hPc := hP.sub (ws' := [(h0, .inr (9, [.ref h1, .ref h2, .int 0, .int 0, .int 0, .int 0]))]) [0] rfl
  have hDc := hD.sub (ws' := [(h0, .inr (9, [.ref h1, .ref h2, .int 0, .int 0, .int 0, .int 0]))]) [0] (by decide) rfl
  have hKc := hK.sub (tys' := []) [] rfl
  have hFc := va_free (wc := [(h0, .inr (9, [.ref h1, .ref h2, .int 0, .int 0, .int 0, .int 0]))]) hD hS hA [0] rfl
  refine va_callv (va_runV (As := []) (rest := []) ⟨hx, hb, hml, hown, hG⟩ (cX9_startAnew_1 l dC dI h0 h1 h2 H.size) (cwV 0 hG (gV wd_764 wd_766 wp_30 wd_5 wd_767) rfl rfl rfl (by decide +kernel) ⟨Nat.le_of_ble_eq_true rfl, Nat.le_of_ble_eq_true rfl⟩) ⟨fun a U g mk q => by obtain ⟨q0, q1, qP, qK, qD⟩ := q; exact ⟨q0, q1, qP, va_K.moved (u := U) (U := U.calling g mk a) (Vm.Alike.refl U.vm) qK, qD⟩, va_recv hKc hPc (ci := 9) (q0 := 0) rfl rfl, fun U hU hW => ⟨rfl, by rw [hU], by rw [hU]; exact hPc, va_K.moved hW.alike hKc, hDc.weaken (fun _ _ _ _ => trivial)⟩⟩ rfl rfl hl.1 rfl (lv_room (Nat.le_of_ble_eq_true rfl)) dX9_clear_33 ⟨by decide, by decide⟩) hS (fun q _ h => hFc q h) hFc (fun u8 t H1 locs ht hvm hw hB hz1 hk1 hS => ?_)
  obtain ⟨hP1, hK1, hD1⟩ := hB
  rw [ht] at hP1
  have hK1 := va_K.moved hvm.symm hK1
  obtain ⟨hP, hD⟩ := va_join (wr := [(h1, .inl (y0, 3, .inl f5)), (h2, .inl (y1, 3, .inl f6))]) (w1 := [(h0, .inr (9, [.ref h1, .ref h2, .int 0, .int 0, .int 0, .int 0]))]) hP hD [0] [1, 2] rfl rfl (by decide) (by decide) hk1 hFc hP1 hD1
  have hK := (hK.sub (tys' := [(y0, .int), (y1, .int)]) [0, 1] rfl).app hK1
  generalize H1 = H at hP hS ⊢
  have hP : va_P (dC, dI) vwCl [(h1, .inl (y0, 3, .inl f5)), (h2, .inl (y1, 3, .inl f6)), (h0, .inr (9, [.ref h1, .ref h2, .int 0, .int 0, .int 0, .int 0]))] H := hP
  have hD : va_D A [(h1, .inl (y0, 3, .inl f5)), (h2, .inl (y1, 3, .inl f6)), (h0, .inr (9, [.ref h1, .ref h2, .int 0, .int 0, .int 0, .int 0]))] := hD
  have hK : va_K (dC, dI) vwCl [(y0, .int), (y1, .int)] s := hK
  have hP9 := hP.sub (ws' := [(h0, .inr (9, [.ref h1, .ref h2, .int 0, .int 0, .int 0, .int 0])), (h1, .inl (y0, 3, .inl f5)), (h2, .inl (y1, 3, .inl f6))]) [2, 0, 1] rfl
  have hD9 := hD.sub (ws' := [(h0, .inr (9, [.ref h1, .ref h2, .int 0, .int 0, .int 0, .int 0])), (h1, .inl (y0, 3, .inl f5)), (h2, .inl (y1, 3, .inl f6))]) [2, 0, 1] (by decide) rfl
  have hK9 := hK.sub (tys' := [(y0, .int), (y1, .int)]) [0, 1] rfl
  exact W.vret hx hb hr (fun t ht hW => ⟨⟨(f5, f6), rfl, ⟨(fun j => iv_w (if5 j) (by decide) (by decide)), (kn ef5 (by decide) (kn ef3 (by decide) (ku ef1 (by decide)))), (kn ef5 (by decide) (ku ef3 (by decide))), (ku ef5 (by decide)), (fun j => iv_w (if6 j) (by decide) (by decide)), (kn ef6 (by decide) (kn ef4 (by decide) (ku ef2 (by decide)))), (kn ef6 (by decide) (ku ef4 (by decide))), (ku ef6 (by decide)), trivial⟩, by rw [ht]; exact hP9, va_K.moved hW.alike hK9, hD9⟩, hS.F ht⟩) hS.2.2 dX9_clear_36
set_option maxHeartbeats 4000000 in
set_option maxRecDepth 100000 in
theorem cX1_clearThings_1 (l : Launch) (dC : Nat → ClassId) (dI : Nat → Nat → Nat) (h0 h1 h2 h3 h4 h5 h6 : Nat) (y0 y1 : ClassId) (sz : Nat) : Met l yX1_clearThings (Cond.code yX1_clearThings cX1_clearThings 1 none :: lw_G) ({ frames := 2, cells := 0, slots := 0, locals := 41 }) (va_Pc [.ref h0] (fun U => U.heap.size = sz ∧ va_P (dC, dI) vwCl [(h0, .inr (1, [.ref h1, .ref h2, .ref h3, .ref h4])), (h2, .inr (7, [.int 0, .int 0, .int 0, .int 0, .int 0])), (h3, .inr (5, [.int 304, .int 0, .int 0, .int 0, .int 0, .int 0])), (h4, .inr (9, [.ref h5, .ref h6, .int 0, .int 0, .int 0, .int 0])), (h5, .inl (y0, 3, .inl (fun _ => 0))), (h6, .inl (y1, 3, .inl (fun _ => 0)))] U.heap ∧ va_K (dC, dI) vwCl [(y0, .int), (y1, .int)] U ∧ va_D (fun _ => True) [(h0, .inr (1, [.ref h1, .ref h2, .ref h3, .ref h4])), (h2, .inr (7, [.int 0, .int 0, .int 0, .int 0, .int 0])), (h3, .inr (5, [.int 304, .int 0, .int 0, .int 0, .int 0, .int 0])), (h4, .inr (9, [.ref h5, .ref h6, .int 0, .int 0, .int 0, .int 0])), (h5, .inl (y0, 3, .inl (fun _ => 0))), (h6, .inl (y1, 3, .inl (fun _ => 0)))])) (va_Qv (fun (u : (Nat → Int32) × (Nat → Int32)) => (∀ j, iv (u.1 j) 0 0) ∧ u.1 0 = 0 ∧ u.1 1 = 0 ∧ u.1 2 = 0 ∧ (∀ j, iv (u.2 j) 0 0) ∧ u.2 0 = 0 ∧ u.2 1 = 0 ∧ u.2 2 = 0 ∧ True) (fun (u : (Nat → Int32) × (Nat → Int32)) (t : State) => va_P (dC, dI) vwCl [(h0, .inr (1, [.ref h1, .ref h2, .ref h3, .ref h4])), (h2, .inr (7, [.int 0, .int 0, .int 0, .int 0, .int 0])), (h3, .inr (5, [.int 304, .int 0, .int 0, .int 0, .int 0, .int 0])), (h4, .inr (9, [.ref h5, .ref h6, .int 0, .int 0, .int 0, .int 0])), (h5, .inl (y0, 3, .inl u.1)), (h6, .inl (y1, 3, .inl u.2))] t.heap ∧ va_K (dC, dI) vwCl [(y0, .int), (y1, .int)] t ∧ va_D (va_A [(h0, .inr (1, [.ref h1, .ref h2, .ref h3, .ref h4])), (h2, .inr (7, [.int 0, .int 0, .int 0, .int 0, .int 0])), (h3, .inr (5, [.int 304, .int 0, .int 0, .int 0, .int 0, .int 0])), (h4, .inr (9, [.ref h5, .ref h6, .int 0, .int 0, .int 0, .int 0])), (h5, .inl (y0, 3, .inl (fun _ => 0))), (h6, .inl (y1, 3, .inl (fun _ => 0)))] sz) [(h0, .inr (1, [.ref h1, .ref h2, .ref h3, .ref h4])), (h2, .inr (7, [.int 0, .int 0, .int 0, .int 0, .int 0])), (h3, .inr (5, [.int 304, .int 0, .int 0, .int 0, .int 0, .int 0])), (h4, .inr (9, [.ref h5, .ref h6, .int 0, .int 0, .int 0, .int 0])), (h5, .inl (y0, 3, .inl u.1)), (h6, .inl (y1, 3, .inl u.2))]) (va_A [(h0, .inr (1, [.ref h1, .ref h2, .ref h3, .ref h4])), (h2, .inr (7, [.int 0, .int 0, .int 0, .int 0, .int 0])), (h3, .inr (5, [.int 304, .int 0, .int 0, .int 0, .int 0, .int 0])), (h4, .inr (9, [.ref h5, .ref h6, .int 0, .int 0, .int 0, .int 0])), (h5, .inl (y0, 3, .inl (fun _ => 0))), (h6, .inl (y1, 3, .inl (fun _ => 0)))] sz)) 0 0 (va_A [(h0, .inr (1, [.ref h1, .ref h2, .ref h3, .ref h4])), (h2, .inr (7, [.int 0, .int 0, .int 0, .int 0, .int 0])), (h3, .inr (5, [.int 304, .int 0, .int 0, .int 0, .int 0, .int 0])), (h4, .inr (9, [.ref h5, .ref h6, .int 0, .int 0, .int 0, .int 0])), (h5, .inl (y0, 3, .inl (fun _ => 0))), (h6, .inl (y1, 3, .inl (fun _ => 0)))] sz) := by
  refine Met.ofW (cc := cX1_clearThings) (maxL := 1) (ret := none) (by decide) rfl ?_
  intro p e s m args below meth c s₁ B hml hv
  obtain ⟨rfl, hsz, hP, hK, hD0⟩ := hv
  have hx := B.exec
  have hb := B.bytes
  have hr := B.returns
  have hts0 := atoms_spec (ws := Cond.code yX1_clearThings cX1_clearThings 1 none :: lw_G) B.pre
  have hG : ∀ w ∈ lw_G, w.before _ s = true := fun w h => hts0 w (List.mem_cons_of_mem _ h)
  have hown : s.vm.findClass RX1 = some m.cls := findClass_of_methodNamed B.named
  have hlocks := B.notSynchronized
  subst hsz
  have hD := hD0.self (sz := s.heap.size)
  generalize hAe : va_A [(h0, .inr (1, [.ref h1, .ref h2, .ref h3, .ref h4])), (h2, .inr (7, [.int 0, .int 0, .int 0, .int 0, .int 0])), (h3, .inr (5, [.int 304, .int 0, .int 0, .int 0, .int 0, .int 0])), (h4, .inr (9, [.ref h5, .ref h6, .int 0, .int 0, .int 0, .int 0])), (h5, .inl (y0, 3, .inl (fun _ => 0))), (h6, .inl (y1, 3, .inl (fun _ => 0)))] s.heap.size = A at hD ⊢
  have hA : ∀ q : Nat, s.heap.size ≤ q → A q := fun q h => by rw [← hAe]; exact Or.inr h
  have hS : va_S A s.heap s.heap [] := va_S.rf
  have hP : va_P (dC, dI) vwCl [(h0, .inr (1, [.ref h1, .ref h2, .ref h3, .ref h4])), (h2, .inr (7, [.int 0, .int 0, .int 0, .int 0, .int 0])), (h3, .inr (5, [.int 304, .int 0, .int 0, .int 0, .int 0, .int 0])), (h4, .inr (9, [.ref h5, .ref h6, .int 0, .int 0, .int 0, .int 0])), (h5, .inl (y0, 3, .inl (fun _ => 0))), (h6, .inl (y1, 3, .inl (fun _ => 0)))] s.heap := hP
  have hl := lv_entry ([.ref h0]) (n := 1) (Nat.le_of_ble_eq_true rfl)
  rw [lg_entry_eq]
  generalize (lg_sl ([.ref h0]) ++ List.replicate (1 - (lg_sl ([.ref h0])).length) Slot.unset).toArray = ls at hl ⊢
  have hl : lv_has ls 1 [(0, .ref h0)] := hl
  refine lv_aload_n hx hb dX1_clearThings_0 rfl (lv_at hl 0 rfl) ?_
  refine va_get (D := (dC, dI)) (ci := 1) (v := .ref h2) (C := RX1) (T := TX1) (N := 4) hx hb hG inGX1 hown hK hP 0 rfl rfl 1 (by decide) (hG _ wd_115) (fun _ h9 => h9) rfl dX1_clearThings_1 ?_
  have hPc := hP.sub (ws' := [(h2, .inr (7, [.int 0, .int 0, .int 0, .int 0, .int 0]))]) [1] rfl
  have hDc := hD.sub (ws' := [(h2, .inr (7, [.int 0, .int 0, .int 0, .int 0, .int 0]))]) [1] (by decide) rfl
  have hKc := hK.sub (tys' := []) [] rfl
  have hFc := va_free (wc := [(h2, .inr (7, [.int 0, .int 0, .int 0, .int 0, .int 0]))]) hD hS hA [1] rfl
  refine va_callv (va_runV (As := []) (rest := []) ⟨hx, hb, hml, hown, hG⟩ (cX7_clear_1 l dC dI h2 s.heap.size) (cwV 0 hG (gV wd_800 wd_801 wd_802 wd_3 wd_803) rfl rfl rfl (by decide +kernel) ⟨Nat.le_of_ble_eq_true rfl, Nat.le_of_ble_eq_true rfl⟩) ⟨fun a U g mk q => by obtain ⟨q0, q1, qP, qK, qD⟩ := q; exact ⟨q0, q1, qP, va_K.moved (u := U) (U := U.calling g mk a) (Vm.Alike.refl U.vm) qK, qD⟩, va_recv hKc hPc (ci := 7) (q0 := 0) rfl rfl, fun U hU hW => ⟨rfl, by rw [hU], by rw [hU]; exact hPc, va_K.moved hW.alike hKc, hDc.weaken (fun _ _ _ _ => trivial)⟩⟩ rfl rfl hl.1 rfl (lv_room (Nat.le_of_ble_eq_true rfl)) dX1_clearThings_4 ⟨by decide, by decide⟩) hS (fun q _ h => hFc q h) hFc (fun u2 t H1 locs ht hvm hw hB hz1 hk1 hS => ?_)
  obtain ⟨hP1, hK1, hD1⟩ := hB
  rw [ht] at hP1
  have hK1 := va_K.moved hvm.symm hK1
  obtain ⟨hP, hD⟩ := va_join (wr := [(h0, .inr (1, [.ref h1, .ref h2, .ref h3, .ref h4])), (h3, .inr (5, [.int 304, .int 0, .int 0, .int 0, .int 0, .int 0])), (h4, .inr (9, [.ref h5, .ref h6, .int 0, .int 0, .int 0, .int 0])), (h5, .inl (y0, 3, .inl (fun _ => 0))), (h6, .inl (y1, 3, .inl (fun _ => 0)))]) (w1 := [(h2, .inr (7, [.int 0, .int 0, .int 0, .int 0, .int 0]))]) hP hD [1] [0, 2, 3, 4, 5] rfl rfl (by decide) (by decide) hk1 hFc hP1 hD1
  have hK := (hK.sub (tys' := [(y0, .int), (y1, .int)]) [0, 1] rfl).app hK1
  generalize H1 = H at hP hS ⊢
  have hP : va_P (dC, dI) vwCl [(h0, .inr (1, [.ref h1, .ref h2, .ref h3, .ref h4])), (h3, .inr (5, [.int 304, .int 0, .int 0, .int 0, .int 0, .int 0])), (h4, .inr (9, [.ref h5, .ref h6, .int 0, .int 0, .int 0, .int 0])), (h5, .inl (y0, 3, .inl (fun _ => 0))), (h6, .inl (y1, 3, .inl (fun _ => 0))), (h2, .inr (7, [.int 0, .int 0, .int 0, .int 0, .int 0]))] H := hP
  have hD : va_D A [(h0, .inr (1, [.ref h1, .ref h2, .ref h3, .ref h4])), (h3, .inr (5, [.int 304, .int 0, .int 0, .int 0, .int 0, .int 0])), (h4, .inr (9, [.ref h5, .ref h6, .int 0, .int 0, .int 0, .int 0])), (h5, .inl (y0, 3, .inl (fun _ => 0))), (h6, .inl (y1, 3, .inl (fun _ => 0))), (h2, .inr (7, [.int 0, .int 0, .int 0, .int 0, .int 0]))] := hD
  have hK : va_K (dC, dI) vwCl [(y0, .int), (y1, .int)] s := hK
  refine lv_aload_n hx hb dX1_clearThings_7 rfl (lv_at hl 0 rfl) ?_
  refine va_get (D := (dC, dI)) (ci := 1) (v := .ref h3) (C := RX1) (T := TX1) (N := 4) hx hb hG inGX1 hown hK hP 0 rfl rfl 2 (by decide) (hG _ wd_116) (fun _ h9 => h9) rfl dX1_clearThings_8 ?_
  have hPc := hP.sub (ws' := [(h3, .inr (5, [.int 304, .int 0, .int 0, .int 0, .int 0, .int 0]))]) [1] rfl
  have hDc := hD.sub (ws' := [(h3, .inr (5, [.int 304, .int 0, .int 0, .int 0, .int 0, .int 0]))]) [1] (by decide) rfl
  have hKc := hK.sub (tys' := []) [] rfl
  have hFc := va_free (wc := [(h3, .inr (5, [.int 304, .int 0, .int 0, .int 0, .int 0, .int 0]))]) hD hS hA [1] rfl
  refine va_callv (va_runV (As := []) (rest := []) ⟨hx, hb, hml, hown, hG⟩ (cX5_clear_1 l dC dI h3 H.size) (cwV 0 hG (gV wd_804 wd_805 wd_806 wd_4 wd_807) rfl rfl rfl (by decide +kernel) ⟨Nat.le_of_ble_eq_true rfl, Nat.le_of_ble_eq_true rfl⟩) ⟨fun a U g mk q => by obtain ⟨q0, q1, qP, qK, qD⟩ := q; exact ⟨q0, q1, qP, va_K.moved (u := U) (U := U.calling g mk a) (Vm.Alike.refl U.vm) qK, qD⟩, va_recv hKc hPc (ci := 5) (q0 := 0) rfl rfl, fun U hU hW => ⟨rfl, by rw [hU], by rw [hU]; exact hPc, va_K.moved hW.alike hKc, hDc.weaken (fun _ _ _ _ => trivial)⟩⟩ rfl rfl hl.1 rfl (lv_room (Nat.le_of_ble_eq_true rfl)) dX1_clearThings_11 ⟨by decide, by decide⟩) hS (fun q _ h => hFc q h) hFc (fun u4 t H1 locs ht hvm hw hB hz1 hk1 hS => ?_)
  obtain ⟨hP1, hK1, hD1⟩ := hB
  rw [ht] at hP1
  have hK1 := va_K.moved hvm.symm hK1
  obtain ⟨hP, hD⟩ := va_join (wr := [(h0, .inr (1, [.ref h1, .ref h2, .ref h3, .ref h4])), (h4, .inr (9, [.ref h5, .ref h6, .int 0, .int 0, .int 0, .int 0])), (h5, .inl (y0, 3, .inl (fun _ => 0))), (h6, .inl (y1, 3, .inl (fun _ => 0))), (h2, .inr (7, [.int 0, .int 0, .int 0, .int 0, .int 0]))]) (w1 := [(h3, .inr (5, [.int 304, .int 0, .int 0, .int 0, .int 0, .int 0]))]) hP hD [1] [0, 2, 3, 4, 5] rfl rfl (by decide) (by decide) hk1 hFc hP1 hD1
  have hK := (hK.sub (tys' := [(y0, .int), (y1, .int)]) [0, 1] rfl).app hK1
  generalize H1 = H at hP hS ⊢
  have hP : va_P (dC, dI) vwCl [(h0, .inr (1, [.ref h1, .ref h2, .ref h3, .ref h4])), (h4, .inr (9, [.ref h5, .ref h6, .int 0, .int 0, .int 0, .int 0])), (h5, .inl (y0, 3, .inl (fun _ => 0))), (h6, .inl (y1, 3, .inl (fun _ => 0))), (h2, .inr (7, [.int 0, .int 0, .int 0, .int 0, .int 0])), (h3, .inr (5, [.int 304, .int 0, .int 0, .int 0, .int 0, .int 0]))] H := hP
  have hD : va_D A [(h0, .inr (1, [.ref h1, .ref h2, .ref h3, .ref h4])), (h4, .inr (9, [.ref h5, .ref h6, .int 0, .int 0, .int 0, .int 0])), (h5, .inl (y0, 3, .inl (fun _ => 0))), (h6, .inl (y1, 3, .inl (fun _ => 0))), (h2, .inr (7, [.int 0, .int 0, .int 0, .int 0, .int 0])), (h3, .inr (5, [.int 304, .int 0, .int 0, .int 0, .int 0, .int 0]))] := hD
  have hK : va_K (dC, dI) vwCl [(y0, .int), (y1, .int)] s := hK
  refine lv_aload_n hx hb dX1_clearThings_14 rfl (lv_at hl 0 rfl) ?_
  refine va_get (D := (dC, dI)) (ci := 1) (v := .ref h4) (C := RX1) (T := TX1) (N := 4) hx hb hG inGX1 hown hK hP 0 rfl rfl 3 (by decide) (hG _ wd_117) (fun _ h9 => h9) rfl dX1_clearThings_15 ?_
  have hPc := hP.sub (ws' := [(h4, .inr (9, [.ref h5, .ref h6, .int 0, .int 0, .int 0, .int 0])), (h5, .inl (y0, 3, .inl (fun _ => 0))), (h6, .inl (y1, 3, .inl (fun _ => 0)))]) [1, 2, 3] rfl
  have hDc := hD.sub (ws' := [(h4, .inr (9, [.ref h5, .ref h6, .int 0, .int 0, .int 0, .int 0])), (h5, .inl (y0, 3, .inl (fun _ => 0))), (h6, .inl (y1, 3, .inl (fun _ => 0)))]) [1, 2, 3] (by decide) rfl
  have hKc := hK.sub (tys' := [(y0, .int), (y1, .int)]) [0, 1] rfl
  have hFc := va_free (wc := [(h4, .inr (9, [.ref h5, .ref h6, .int 0, .int 0, .int 0, .int 0])), (h5, .inl (y0, 3, .inl (fun _ => 0))), (h6, .inl (y1, 3, .inl (fun _ => 0)))]) hD hS hA [1, 2, 3] rfl
  refine va_callv (va_runV (As := []) (rest := []) ⟨hx, hb, hml, hown, hG⟩ (cX9_clear_1 l dC dI h4 h5 h6 y0 y1 H.size) (cwV 0 hG (gV wd_808 wd_809 wd_810 wd_5 wd_811) rfl rfl rfl (by decide +kernel) ⟨Nat.le_of_ble_eq_true rfl, Nat.le_of_ble_eq_true rfl⟩) ⟨fun a U g mk q => by obtain ⟨q0, q1, qP, qK, qD⟩ := q; exact ⟨q0, q1, qP, va_K.moved (u := U) (U := U.calling g mk a) (Vm.Alike.refl U.vm) qK, qD⟩, va_recv hKc hPc (ci := 9) (q0 := 0) rfl rfl, fun U hU hW => ⟨rfl, by rw [hU], by rw [hU]; exact hPc, va_K.moved hW.alike hKc, hDc.weaken (fun _ _ _ _ => trivial)⟩⟩ rfl rfl hl.1 rfl (lv_room (Nat.le_of_ble_eq_true rfl)) dX1_clearThings_18 ⟨by decide, by decide⟩) hS (fun q _ h => hFc q h) hFc (fun u6 t H1 locs ht hvm hw hB hz1 hk1 hS => ?_)
  obtain ⟨u6_0, u6_1⟩ := u6
  have hw : (∀ j, iv (u6_0 j) 0 0) ∧ u6_0 0 = 0 ∧ u6_0 1 = 0 ∧ u6_0 2 = 0 ∧ (∀ j, iv (u6_1 j) 0 0) ∧ u6_1 0 = 0 ∧ u6_1 1 = 0 ∧ u6_1 2 = 0 ∧ True := hw
  obtain ⟨iu6_0, ku6_0_0, ku6_0_1, ku6_0_2, iu6_1, ku6_1_0, ku6_1_1, ku6_1_2, -⟩ := hw
  obtain ⟨hP1, hK1, hD1⟩ := hB
  rw [ht] at hP1
  have hK1 := va_K.moved hvm.symm hK1
  obtain ⟨hP, hD⟩ := va_join (wr := [(h0, .inr (1, [.ref h1, .ref h2, .ref h3, .ref h4])), (h2, .inr (7, [.int 0, .int 0, .int 0, .int 0, .int 0])), (h3, .inr (5, [.int 304, .int 0, .int 0, .int 0, .int 0, .int 0]))]) (w1 := [(h4, .inr (9, [.ref h5, .ref h6, .int 0, .int 0, .int 0, .int 0])), (h5, .inl (y0, 3, .inl u6_0)), (h6, .inl (y1, 3, .inl u6_1))]) hP hD [1, 2, 3] [0, 4, 5] rfl rfl (by decide) (by decide) hk1 hFc hP1 hD1
  have hK := (hK.sub (tys' := []) [] rfl).app hK1
  generalize H1 = H at hP hS ⊢
  have hP : va_P (dC, dI) vwCl [(h0, .inr (1, [.ref h1, .ref h2, .ref h3, .ref h4])), (h2, .inr (7, [.int 0, .int 0, .int 0, .int 0, .int 0])), (h3, .inr (5, [.int 304, .int 0, .int 0, .int 0, .int 0, .int 0])), (h4, .inr (9, [.ref h5, .ref h6, .int 0, .int 0, .int 0, .int 0])), (h5, .inl (y0, 3, .inl u6_0)), (h6, .inl (y1, 3, .inl u6_1))] H := hP
  have hD : va_D A [(h0, .inr (1, [.ref h1, .ref h2, .ref h3, .ref h4])), (h2, .inr (7, [.int 0, .int 0, .int 0, .int 0, .int 0])), (h3, .inr (5, [.int 304, .int 0, .int 0, .int 0, .int 0, .int 0])), (h4, .inr (9, [.ref h5, .ref h6, .int 0, .int 0, .int 0, .int 0])), (h5, .inl (y0, 3, .inl u6_0)), (h6, .inl (y1, 3, .inl u6_1))] := hD
  have hK : va_K (dC, dI) vwCl [(y0, .int), (y1, .int)] s := hK
  have hP9 := hP.sub (ws' := [(h0, .inr (1, [.ref h1, .ref h2, .ref h3, .ref h4])), (h2, .inr (7, [.int 0, .int 0, .int 0, .int 0, .int 0])), (h3, .inr (5, [.int 304, .int 0, .int 0, .int 0, .int 0, .int 0])), (h4, .inr (9, [.ref h5, .ref h6, .int 0, .int 0, .int 0, .int 0])), (h5, .inl (y0, 3, .inl u6_0)), (h6, .inl (y1, 3, .inl u6_1))]) [0, 1, 2, 3, 4, 5] rfl
  have hD9 := hD.sub (ws' := [(h0, .inr (1, [.ref h1, .ref h2, .ref h3, .ref h4])), (h2, .inr (7, [.int 0, .int 0, .int 0, .int 0, .int 0])), (h3, .inr (5, [.int 304, .int 0, .int 0, .int 0, .int 0, .int 0])), (h4, .inr (9, [.ref h5, .ref h6, .int 0, .int 0, .int 0, .int 0])), (h5, .inl (y0, 3, .inl u6_0)), (h6, .inl (y1, 3, .inl u6_1))]) [0, 1, 2, 3, 4, 5] (by decide) rfl
  have hK9 := hK.sub (tys' := [(y0, .int), (y1, .int)]) [0, 1] rfl
  exact W.vret hx hb hr (fun t ht hW => ⟨⟨(u6_0, u6_1), rfl, ⟨(fun j => iv_w (iu6_0 j) (by decide) (by decide)), ku6_0_0, ku6_0_1, ku6_0_2, (fun j => iv_w (iu6_1 j) (by decide) (by decide)), ku6_1_0, ku6_1_1, ku6_1_2, trivial⟩, by rw [ht]; exact hP9, va_K.moved hW.alike hK9, hD9⟩, hS.F ht⟩) hS.2.2 dX1_clearThings_21
set_option maxHeartbeats 4000000 in
set_option maxRecDepth 100000 in
theorem cX3_clear_1 (l : Launch) (dC : Nat → ClassId) (dI : Nat → Nat → Nat) (h0 h1 h2 : Nat) (sz : Nat) : Met l yX3_clear (Cond.code yX3_clear cX3_clear 1 none :: lw_G) ({ frames := 0, cells := 0, slots := 0, locals := 0 }) (va_Pc [.ref h0] (fun U => U.heap.size = sz ∧ va_P (dC, dI) vwCl [(h0, .inr (3, [.ref h1, .ref h2, .int 0]))] U.heap ∧ va_K (dC, dI) vwCl [] U ∧ va_D (fun _ => True) [(h0, .inr (3, [.ref h1, .ref h2, .int 0]))])) (va_Qv (fun (u : Unit) => True) (fun (u : Unit) (t : State) => va_P (dC, dI) vwCl [(h0, .inr (3, [.ref h1, .ref h2, .int 0]))] t.heap ∧ va_K (dC, dI) vwCl [] t ∧ va_D (va_A [(h0, .inr (3, [.ref h1, .ref h2, .int 0]))] sz) [(h0, .inr (3, [.ref h1, .ref h2, .int 0]))]) (va_A [(h0, .inr (3, [.ref h1, .ref h2, .int 0]))] sz)) 0 0 (va_A [(h0, .inr (3, [.ref h1, .ref h2, .int 0]))] sz) := by
  refine Met.ofW (cc := cX3_clear) (maxL := 1) (ret := none) (by decide) rfl ?_
  intro p e s m args below meth c s₁ B hml hv
  obtain ⟨rfl, hsz, hP, hK, hD0⟩ := hv
  have hx := B.exec
  have hb := B.bytes
  have hr := B.returns
  have hts0 := atoms_spec (ws := Cond.code yX3_clear cX3_clear 1 none :: lw_G) B.pre
  have hG : ∀ w ∈ lw_G, w.before _ s = true := fun w h => hts0 w (List.mem_cons_of_mem _ h)
  have hown : s.vm.findClass RX3 = some m.cls := findClass_of_methodNamed B.named
  have hlocks := B.notSynchronized
  subst hsz
  have hD := hD0.self (sz := s.heap.size)
  generalize hAe : va_A [(h0, .inr (3, [.ref h1, .ref h2, .int 0]))] s.heap.size = A at hD ⊢
  have hA : ∀ q : Nat, s.heap.size ≤ q → A q := fun q h => by rw [← hAe]; exact Or.inr h
  have hS : va_S A s.heap s.heap [] := va_S.rf
  have hP : va_P (dC, dI) vwCl [(h0, .inr (3, [.ref h1, .ref h2, .int 0]))] s.heap := hP
  have hl := lv_entry ([.ref h0]) (n := 1) (Nat.le_of_ble_eq_true rfl)
  rw [lg_entry_eq]
  generalize (lg_sl ([.ref h0]) ++ List.replicate (1 - (lg_sl ([.ref h0])).length) Slot.unset).toArray = ls at hl ⊢
  have hl : lv_has ls 1 [(0, .ref h0)] := hl
  refine lv_aload_n hx hb dX3_clear_0 rfl (lv_at hl 0 rfl) ?_
  refine lv_iconst (v := 0) hx hb dX3_clear_1 (by decide) ?_
  refine va_put (D := (dC, dI)) (ci := 3) (v := .int 0) (ty := .int) (C := RX3) (T := TX3) (N := 3) hx hb hG inGX3 tyX3 tyX3_ok nmX3 hown hK hP hD hS 0 rfl rfl 2 (by decide) (hG _ wd_141) (fun _ h9 => h9) rfl (by decide +kernel) rfl rfl (Nat.le_of_ble_eq_true rfl) dX3_clear_2 (fun H locs hP hD hS => ?_)
  have hP : va_P (dC, dI) vwCl [(h0, .inr (3, [.ref h1, .ref h2, .int 0]))] H := hP
  have hD : va_D A [(h0, .inr (3, [.ref h1, .ref h2, .int 0]))] := hD
  have hP9 := hP.sub (ws' := [(h0, .inr (3, [.ref h1, .ref h2, .int 0]))]) [0] rfl
  have hD9 := hD.sub (ws' := [(h0, .inr (3, [.ref h1, .ref h2, .int 0]))]) [0] (by decide) rfl
  have hK9 := hK.sub (tys' := []) [] rfl
  exact W.vret hx hb hr (fun t ht hW => ⟨⟨(), rfl, trivial, by rw [ht]; exact hP9, va_K.moved hW.alike hK9, hD9⟩, hS.F ht⟩) hS.2.2 dX3_clear_5
set_option maxHeartbeats 4000000 in
set_option maxRecDepth 100000 in
theorem cX1_lookWord_1 (l : Launch) (dC : Nat → ClassId) (dI : Nat → Nat → Nat) (h0 h1 h2 h3 h4 : Nat) (y0 : ClassId) (sz : Nat) : Met l yX1_lookWord (Cond.code yX1_lookWord cX1_lookWord 3 (some .int) :: lw_G) ({ frames := 0, cells := 0, slots := 0, locals := 0 }) (va_Pc [.ref h0, .int 65534] (fun U => U.heap.size = sz ∧ va_P (dC, dI) vwCl [(h0, .inr (1, [.ref h1, .ref h2, .ref h3, .ref h4])), (h1, .inl (y0, 32768, .inl (fun _ => 0)))] U.heap ∧ va_K (dC, dI) vwCl [(y0, .int)] U ∧ va_D (fun _ => True) [(h0, .inr (1, [.ref h1, .ref h2, .ref h3, .ref h4])), (h1, .inl (y0, 32768, .inl (fun _ => 0)))])) (va_Qi (fun (r : Int32) (u : Unit) => r = 0 ∧ True) (fun (u : Unit) (t : State) => va_P (dC, dI) vwCl [(h0, .inr (1, [.ref h1, .ref h2, .ref h3, .ref h4])), (h1, .inl (y0, 32768, .inl (fun _ => 0)))] t.heap ∧ va_K (dC, dI) vwCl [(y0, .int)] t ∧ va_D (va_A [(h0, .inr (1, [.ref h1, .ref h2, .ref h3, .ref h4])), (h1, .inl (y0, 32768, .inl (fun _ => 0)))] sz) [(h0, .inr (1, [.ref h1, .ref h2, .ref h3, .ref h4])), (h1, .inl (y0, 32768, .inl (fun _ => 0)))]) (va_A [(h0, .inr (1, [.ref h1, .ref h2, .ref h3, .ref h4])), (h1, .inl (y0, 32768, .inl (fun _ => 0)))] sz)) 0 0 (va_A [(h0, .inr (1, [.ref h1, .ref h2, .ref h3, .ref h4])), (h1, .inl (y0, 32768, .inl (fun _ => 0)))] sz) := by
  refine Met.ofW (cc := cX1_lookWord) (maxL := 3) (ret := (some .int)) (by decide) rfl ?_
  intro p e s m args below meth c s₁ B hml hv
  obtain ⟨rfl, hsz, hP, hK, hD0⟩ := hv
  have hx := B.exec
  have hb := B.bytes
  have hr := B.returns
  have hts0 := atoms_spec (ws := Cond.code yX1_lookWord cX1_lookWord 3 (some .int) :: lw_G) B.pre
  have hG : ∀ w ∈ lw_G, w.before _ s = true := fun w h => hts0 w (List.mem_cons_of_mem _ h)
  have hown : s.vm.findClass RX1 = some m.cls := findClass_of_methodNamed B.named
  have hlocks := B.notSynchronized
  subst hsz
  have hD := hD0.self (sz := s.heap.size)
  generalize hAe : va_A [(h0, .inr (1, [.ref h1, .ref h2, .ref h3, .ref h4])), (h1, .inl (y0, 32768, .inl (fun _ => 0)))] s.heap.size = A at hD ⊢
  have hA : ∀ q : Nat, s.heap.size ≤ q → A q := fun q h => by rw [← hAe]; exact Or.inr h
  have hS : va_S A s.heap s.heap [] := va_S.rf
  have hP : va_P (dC, dI) vwCl [(h0, .inr (1, [.ref h1, .ref h2, .ref h3, .ref h4])), (h1, .inl (y0, 32768, .inl (fun _ => 0)))] s.heap := hP
  have hl := lv_entry ([.ref h0, .int 65534]) (n := 3) (Nat.le_of_ble_eq_true rfl)
  rw [lg_entry_eq]
  generalize (lg_sl ([.ref h0, .int 65534]) ++ List.replicate (3 - (lg_sl ([.ref h0, .int 65534])).length) Slot.unset).toArray = ls at hl ⊢
  have hl : lv_has ls 3 [(0, .ref h0), (1, .int 65534)] := hl
  refine lv_iload_n hx hb dX1_lookWord_0 rfl (lv_at hl 1 rfl) ?_
  refine lv_ldc hx hb hown (hG _ wd_719) dX1_lookWord_1 ?_
  refine lv_iand hx hb dX1_lookWord_3 ?_
  refine lv_val (y := 65534) (by decide +kernel) ?_
  refine lv_istore_n (lv' := [(2, .int 65534), (0, .ref h0), (1, .int 65534)]) hx hb dX1_lookWord_4 rfl hl (by decide) rfl (fun ls hl => ?_)
  refine lv_iload_n hx hb dX1_lookWord_5 rfl (lv_at hl 0 rfl) ?_
  refine lv_sipush (v := 512) hx hb dX1_lookWord_6 (by decide) ?_
  refine lv_icmp_ge (tgt := 20) hx hb dX1_lookWord_9 (by decide) (fun _ => ?_) (fun c => absurd (by decide) c)
  refine lv_aload_n hx hb dX1_lookWord_20 rfl (lv_at hl 1 rfl) ?_
  refine va_get (D := (dC, dI)) (ci := 1) (v := .ref h1) (C := RX1) (T := TX1) (N := 4) hx hb hG inGX1 hown hK hP 0 rfl rfl 0 (by decide) (hG _ wd_114) (fun _ h9 => h9) rfl dX1_lookWord_21 ?_
  refine lv_iload_n hx hb dX1_lookWord_24 rfl (lv_at hl 0 rfl) ?_
  refine lv_iconst (v := 1) hx hb dX1_lookWord_25 (by decide) ?_
  refine lv_ishr hx hb dX1_lookWord_26 ?_
  refine lv_val (y := 32767) (by decide +kernel) ?_
  refine va_iald hx hb hK hP 1 0 rfl rfl (iv_in (by decide : iv 32767 32767 32767) (by decide) (by decide) : vp_in 32767 32768) dX1_lookWord_27 ?_
  refine lv_val (y := 0) rfl ?_
  have hP9 := hP.sub (ws' := [(h0, .inr (1, [.ref h1, .ref h2, .ref h3, .ref h4])), (h1, .inl (y0, 32768, .inl (fun _ => 0)))]) [0, 1] rfl
  have hD9 := hD.sub (ws' := [(h0, .inr (1, [.ref h1, .ref h2, .ref h3, .ref h4])), (h1, .inl (y0, 32768, .inl (fun _ => 0)))]) [0, 1] (by decide) rfl
  have hK9 := hK.sub (tys' := [(y0, .int)]) [0] rfl
  exact W.iret (v := 0) hx hb hr (fun t ht hW => ⟨⟨0, (), rfl, ⟨rfl, trivial⟩, by rw [ht]; exact hP9, va_K.moved hW.alike hK9, hD9⟩, hS.F ht⟩) hS.2.2 dX1_lookWord_28
set_option maxHeartbeats 4000000 in
set_option maxRecDepth 100000 in
theorem cX2_writeRegister_1 (l : Launch) (dC : Nat → ClassId) (dI : Nat → Nat → Nat) (h0 h1 h2 h3 : Nat) (y0 : ClassId) (sz : Nat) (f0 : Nat → Int32) (if0 : ∀ j, iv (f0 j) 0 0) (kf0_0 : f0 0 = 0) (kf0_1 : f0 1 = 0) (kf0_2 : f0 2 = 0) (kf0_3 : f0 3 = 0) (kf0_4 : f0 4 = 0) (kf0_5 : f0 5 = 0) (kf0_6 : f0 6 = 0) (kf0_7 : f0 7 = 0) (kf0_8 : f0 8 = 0) (kf0_9 : f0 9 = 0) (kf0_10 : f0 10 = 0) (kf0_11 : f0 11 = 0) (kf0_12 : f0 12 = 0) (kf0_13 : f0 13 = 0) (kf0_14 : f0 14 = 0) (kf0_15 : f0 15 = 0) : Met l yX2_writeRegister (Cond.code yX2_writeRegister cX2_writeRegister 3 none :: lw_G) ({ frames := 0, cells := 0, slots := 0, locals := 0 }) (va_Pc [.ref h0, .int 0, .int 0] (fun U => U.heap.size = sz ∧ va_P (dC, dI) vwCl [(h0, .inr (2, [.ref h1, .ref h2, .ref h3, .int 0, .int 0, .int 0, .int 0, .int 0])), (h1, .inl (y0, 16, .inl f0))] U.heap ∧ va_K (dC, dI) vwCl [(y0, .int)] U ∧ va_D (fun _ => True) [(h0, .inr (2, [.ref h1, .ref h2, .ref h3, .int 0, .int 0, .int 0, .int 0, .int 0])), (h1, .inl (y0, 16, .inl f0))])) (va_Qv (fun (u : (Nat → Int32)) => (∀ j, iv (u j) 0 0) ∧ u 0 = 0 ∧ u 1 = 0 ∧ u 2 = 0 ∧ u 3 = 0 ∧ u 4 = 0 ∧ u 5 = 0 ∧ u 6 = 0 ∧ u 7 = 0 ∧ u 8 = 0 ∧ u 9 = 0 ∧ u 10 = 0 ∧ u 11 = 0 ∧ u 12 = 0 ∧ u 13 = 0 ∧ u 14 = 0 ∧ u 15 = 0 ∧ True) (fun (u : (Nat → Int32)) (t : State) => va_P (dC, dI) vwCl [(h0, .inr (2, [.ref h1, .ref h2, .ref h3, .int 0, .int 0, .int 0, .int 0, .int 0])), (h1, .inl (y0, 16, .inl u))] t.heap ∧ va_K (dC, dI) vwCl [(y0, .int)] t ∧ va_D (va_A [(h0, .inr (2, [.ref h1, .ref h2, .ref h3, .int 0, .int 0, .int 0, .int 0, .int 0])), (h1, .inl (y0, 16, .inl f0))] sz) [(h0, .inr (2, [.ref h1, .ref h2, .ref h3, .int 0, .int 0, .int 0, .int 0, .int 0])), (h1, .inl (y0, 16, .inl u))]) (va_A [(h0, .inr (2, [.ref h1, .ref h2, .ref h3, .int 0, .int 0, .int 0, .int 0, .int 0])), (h1, .inl (y0, 16, .inl f0))] sz)) 0 0 (va_A [(h0, .inr (2, [.ref h1, .ref h2, .ref h3, .int 0, .int 0, .int 0, .int 0, .int 0])), (h1, .inl (y0, 16, .inl f0))] sz) := by
  refine Met.ofW (cc := cX2_writeRegister) (maxL := 3) (ret := none) (by decide) rfl ?_
  intro p e s m args below meth c s₁ B hml hv
  obtain ⟨rfl, hsz, hP, hK, hD0⟩ := hv
  have hx := B.exec
  have hb := B.bytes
  have hr := B.returns
  have hts0 := atoms_spec (ws := Cond.code yX2_writeRegister cX2_writeRegister 3 none :: lw_G) B.pre
  have hG : ∀ w ∈ lw_G, w.before _ s = true := fun w h => hts0 w (List.mem_cons_of_mem _ h)
  have hown : s.vm.findClass RX2 = some m.cls := findClass_of_methodNamed B.named
  have hlocks := B.notSynchronized
  subst hsz
  have hD := hD0.self (sz := s.heap.size)
  generalize hAe : va_A [(h0, .inr (2, [.ref h1, .ref h2, .ref h3, .int 0, .int 0, .int 0, .int 0, .int 0])), (h1, .inl (y0, 16, .inl f0))] s.heap.size = A at hD ⊢
  have hA : ∀ q : Nat, s.heap.size ≤ q → A q := fun q h => by rw [← hAe]; exact Or.inr h
  have hS : va_S A s.heap s.heap [] := va_S.rf
  have hP : va_P (dC, dI) vwCl [(h0, .inr (2, [.ref h1, .ref h2, .ref h3, .int 0, .int 0, .int 0, .int 0, .int 0])), (h1, .inl (y0, 16, .inl f0))] s.heap := hP
  have hl := lv_entry ([.ref h0, .int 0, .int 0]) (n := 3) (Nat.le_of_ble_eq_true rfl)
  rw [lg_entry_eq]
  generalize (lg_sl ([.ref h0, .int 0, .int 0]) ++ List.replicate (3 - (lg_sl ([.ref h0, .int 0, .int 0])).length) Slot.unset).toArray = ls at hl ⊢
  have hl : lv_has ls 3 [(0, .ref h0), (1, .int 0), (2, .int 0)] := hl
  refine lv_iload_n hx hb dX2_writeRegister_0 rfl (lv_at hl 1 rfl) ?_
  refine lv_if_eq (tgt := 9) hx hb dX2_writeRegister_1 (by decide) (fun _ => ?_) (fun c => absurd (by decide) c)
  refine lv_aload_n hx hb dX2_writeRegister_9 rfl (lv_at hl 0 rfl) ?_
  refine va_get (D := (dC, dI)) (ci := 2) (v := .ref h1) (C := RX2) (T := TX2) (N := 8) hx hb hG inGX2 hown hK hP 0 rfl rfl 0 (by decide) (hG _ wd_149) (fun _ h9 => h9) rfl dX2_writeRegister_10 ?_
  refine lv_iload_n hx hb dX2_writeRegister_13 rfl (lv_at hl 1 rfl) ?_
  refine lv_iload_n hx hb dX2_writeRegister_14 rfl (lv_at hl 2 rfl) ?_
  refine lv_ldc hx hb hown (hG _ wd_820) dX2_writeRegister_15 ?_
  refine lv_iand hx hb dX2_writeRegister_17 ?_
  refine lv_val (y := 0) (by decide +kernel) ?_
  refine va_iast hx hb hK hP hD hS 1 0 rfl rfl (iv_in (by decide : iv 0 0 0) (by decide) (by decide) : vp_in 0 16) dX2_writeRegister_18 (fun H locs hP hD hS => ?_)
  have hP : va_P (dC, dI) vwCl [(h0, .inr (2, [.ref h1, .ref h2, .ref h3, .int 0, .int 0, .int 0, .int 0, .int 0])), (h1, .inl (y0, 16, .inl (upd f0 (0 : Int32).toNatClampNeg 0)))] H := hP
  have hD : va_D A [(h0, .inr (2, [.ref h1, .ref h2, .ref h3, .int 0, .int 0, .int 0, .int 0, .int 0])), (h1, .inl (y0, 16, .inl (upd f0 (0 : Int32).toNatClampNeg 0)))] := hD
  obtain ⟨f1, ef1⟩ : ∃ z, z = upd f0 (0 : Int32).toNatClampNeg 0 := ⟨_, rfl⟩
  rw [← ef1] at hP hD
  have if1 : ∀ j, iv (f1 j) 0 0 := by rw [ef1]; exact iv_upd if0 (by decide : iv 0 0 0) (by decide) (by decide) (by decide) (by decide)
  refine lv_goto (tgt := 59) hx hb dX2_writeRegister_19 (by decide) ?_
  have hP9 := hP.sub (ws' := [(h0, .inr (2, [.ref h1, .ref h2, .ref h3, .int 0, .int 0, .int 0, .int 0, .int 0])), (h1, .inl (y0, 16, .inl f1))]) [0, 1] rfl
  have hD9 := hD.sub (ws' := [(h0, .inr (2, [.ref h1, .ref h2, .ref h3, .int 0, .int 0, .int 0, .int 0, .int 0])), (h1, .inl (y0, 16, .inl f1))]) [0, 1] (by decide) rfl
  have hK9 := hK.sub (tys' := [(y0, .int)]) [0] rfl
  exact W.vret hx hb hr (fun t ht hW => ⟨⟨f1, rfl, ⟨(fun j => iv_w (if1 j) (by decide) (by decide)), (ku ef1 (by decide)), (kn ef1 (by decide) kf0_1), (kn ef1 (by decide) kf0_2), (kn ef1 (by decide) kf0_3), (kn ef1 (by decide) kf0_4), (kn ef1 (by decide) kf0_5), (kn ef1 (by decide) kf0_6), (kn ef1 (by decide) kf0_7), (kn ef1 (by decide) kf0_8), (kn ef1 (by decide) kf0_9), (kn ef1 (by decide) kf0_10), (kn ef1 (by decide) kf0_11), (kn ef1 (by decide) kf0_12), (kn ef1 (by decide) kf0_13), (kn ef1 (by decide) kf0_14), (kn ef1 (by decide) kf0_15), trivial⟩, by rw [ht]; exact hP9, va_K.moved hW.alike hK9, hD9⟩, hS.F ht⟩) hS.2.2 dX2_writeRegister_59
