set_option maxHeartbeats 100000000 in
set_option maxRecDepth 100000 in
theorem cX0_putTwo_1 (l : Launch) (dC : Nat → ClassId) (dI : Nat → Nat → Nat) (h0 h1 h2 h3 h4 h5 h6 h7 : Nat) (y0 y1 : ClassId) (sz : Nat) (x0 x1 x2 x3 x4 x5 x6 x7 x8 x9 x10 x11 x12 x13 x14 x15 x16 x17 x18 x19 x20 x21 : Int32) (f0 f1 : Nat → Int32) (ix2 : iv x2 0 2600) (ix3 : iv x3 0 1) (ix9 : iv x9 0 1) (ix15 : iv x15 0 1) (ix16 : iv x16 0 1) (ix20 : iv x20 0 1) (ix21 : iv x21 0 1) : Met l yX0_putTwo (Cond.code yX0_putTwo cX0_putTwo 3 (some .boolean) :: lw_G) ({ frames := 2, cells := 0, slots := 0, locals := 42 }) (va_Pc [.ref h0, .int x0, .int x1] (fun U => U.heap.size = sz ∧ va_P (dC, dI) vwCl [(h0, .inr (0, [.ref h1, .ref h2, .ref h3, .ref h4, .ref h5, .ref h6, .ref h7, .int x2, .int x3, .int x4, .int x5, .int x6, .int x7, .int x8, .int x9, .int x10, .int x11])), (h2, .inr (6, [.int x12, .int x13, .int x14, .int x15, .int x16])), (h3, .inr (6, [.int x17, .int x18, .int x19, .int x20, .int x21])), (h4, .inl (y0, 2600, .inl f0)), (h5, .inl (y1, 2600, .inl f1))] U.heap ∧ va_K (dC, dI) vwCl [(y0, .int), (y1, .int)] U ∧ va_D (fun _ => True) [(h0, .inr (0, [.ref h1, .ref h2, .ref h3, .ref h4, .ref h5, .ref h6, .ref h7, .int x2, .int x3, .int x4, .int x5, .int x6, .int x7, .int x8, .int x9, .int x10, .int x11])), (h2, .inr (6, [.int x12, .int x13, .int x14, .int x15, .int x16])), (h3, .inr (6, [.int x17, .int x18, .int x19, .int x20, .int x21])), (h4, .inl (y0, 2600, .inl f0)), (h5, .inl (y1, 2600, .inl f1))])) (va_Qi (fun (r : Int32) (u : Int32 × Int32 × Int32 × Int32 × Int32 × (Nat → Int32) × (Nat → Int32)) => r = 1 ∧ iv u.1 0 2600 ∧ iv u.2.1 0 1 ∧ iv u.2.2.2.1 0 1 ∧ iv u.2.2.2.2.1 0 1 ∧ True) (fun (u : Int32 × Int32 × Int32 × Int32 × Int32 × (Nat → Int32) × (Nat → Int32)) (t : State) => va_P (dC, dI) vwCl [(h0, .inr (0, [.ref h1, .ref h2, .ref h3, .ref h4, .ref h5, .ref h6, .ref h7, .int u.1, .int u.2.1, .int x4, .int u.2.2.1, .int x6, .int x7, .int x8, .int x9, .int x10, .int x11])), (h2, .inr (6, [.int x12, .int x13, .int x14, .int x15, .int u.2.2.2.1])), (h3, .inr (6, [.int x17, .int x18, .int x19, .int x20, .int u.2.2.2.2.1])), (h4, .inl (y0, 2600, .inl u.2.2.2.2.2.1)), (h5, .inl (y1, 2600, .inl u.2.2.2.2.2.2))] t.heap ∧ va_K (dC, dI) vwCl [(y0, .int), (y1, .int)] t ∧ va_D (va_A [(h0, .inr (0, [.ref h1, .ref h2, .ref h3, .ref h4, .ref h5, .ref h6, .ref h7, .int x2, .int x3, .int x4, .int x5, .int x6, .int x7, .int x8, .int x9, .int x10, .int x11])), (h2, .inr (6, [.int x12, .int x13, .int x14, .int x15, .int x16])), (h3, .inr (6, [.int x17, .int x18, .int x19, .int x20, .int x21])), (h4, .inl (y0, 2600, .inl f0)), (h5, .inl (y1, 2600, .inl f1))] sz) [(h0, .inr (0, [.ref h1, .ref h2, .ref h3, .ref h4, .ref h5, .ref h6, .ref h7, .int u.1, .int u.2.1, .int x4, .int u.2.2.1, .int x6, .int x7, .int x8, .int x9, .int x10, .int x11])), (h2, .inr (6, [.int x12, .int x13, .int x14, .int x15, .int u.2.2.2.1])), (h3, .inr (6, [.int x17, .int x18, .int x19, .int x20, .int u.2.2.2.2.1])), (h4, .inl (y0, 2600, .inl u.2.2.2.2.2.1)), (h5, .inl (y1, 2600, .inl u.2.2.2.2.2.2))]) (va_A [(h0, .inr (0, [.ref h1, .ref h2, .ref h3, .ref h4, .ref h5, .ref h6, .ref h7, .int x2, .int x3, .int x4, .int x5, .int x6, .int x7, .int x8, .int x9, .int x10, .int x11])), (h2, .inr (6, [.int x12, .int x13, .int x14, .int x15, .int x16])), (h3, .inr (6, [.int x17, .int x18, .int x19, .int x20, .int x21])), (h4, .inl (y0, 2600, .inl f0)), (h5, .inl (y1, 2600, .inl f1))] sz)) 0 0 (va_A [(h0, .inr (0, [.ref h1, .ref h2, .ref h3, .ref h4, .ref h5, .ref h6, .ref h7, .int x2, .int x3, .int x4, .int x5, .int x6, .int x7, .int x8, .int x9, .int x10, .int x11])), (h2, .inr (6, [.int x12, .int x13, .int x14, .int x15, .int x16])), (h3, .inr (6, [.int x17, .int x18, .int x19, .int x20, .int x21])), (h4, .inl (y0, 2600, .inl f0)), (h5, .inl (y1, 2600, .inl f1))] sz) := by
  refine Met.ofW (cc := cX0_putTwo) (maxL := 3) (ret := (some .boolean)) (by decide) rfl ?_
  intro p e s m args below meth c s₁ B hml hv
  obtain ⟨rfl, hsz, hP, hK, hD0⟩ := hv
  have hx := B.exec
  have hb := B.bytes
  have hr := B.returns
  have hts0 := atoms_spec (ws := Cond.code yX0_putTwo cX0_putTwo 3 (some .boolean) :: lw_G) B.pre
  have hG : ∀ w ∈ lw_G, w.before _ s = true := fun w h => hts0 w (List.mem_cons_of_mem _ h)
  have hown : s.vm.findClass RX0 = some m.cls := findClass_of_methodNamed B.named
  have hlocks := B.notSynchronized
  subst hsz
  have hD := hD0.self (sz := s.heap.size)
  generalize hAe : va_A [(h0, .inr (0, [.ref h1, .ref h2, .ref h3, .ref h4, .ref h5, .ref h6, .ref h7, .int x2, .int x3, .int x4, .int x5, .int x6, .int x7, .int x8, .int x9, .int x10, .int x11])), (h2, .inr (6, [.int x12, .int x13, .int x14, .int x15, .int x16])), (h3, .inr (6, [.int x17, .int x18, .int x19, .int x20, .int x21])), (h4, .inl (y0, 2600, .inl f0)), (h5, .inl (y1, 2600, .inl f1))] s.heap.size = A at hD ⊢
  have hA : ∀ q : Nat, s.heap.size ≤ q → A q := fun q h => by rw [← hAe]; exact Or.inr h
  have hS : va_S A s.heap s.heap [] := va_S.rf
  have hP : va_P (dC, dI) vwCl [(h0, .inr (0, [.ref h1, .ref h2, .ref h3, .ref h4, .ref h5, .ref h6, .ref h7, .int x2, .int x3, .int x4, .int x5, .int x6, .int x7, .int x8, .int x9, .int x10, .int x11])), (h2, .inr (6, [.int x12, .int x13, .int x14, .int x15, .int x16])), (h3, .inr (6, [.int x17, .int x18, .int x19, .int x20, .int x21])), (h4, .inl (y0, 2600, .inl f0)), (h5, .inl (y1, 2600, .inl f1))] s.heap := hP
  have hl := lv_entry ([.ref h0, .int x0, .int x1]) (n := 3) (Nat.le_of_ble_eq_true rfl)
  rw [lg_entry_eq]
  generalize (lg_sl ([.ref h0, .int x0, .int x1]) ++ List.replicate (3 - (lg_sl ([.ref h0, .int x0, .int x1])).length) Slot.unset).toArray = ls at hl ⊢
  have hl : lv_has ls 3 [(0, .ref h0), (1, .int x0), (2, .int x1)] := hl
  generalize ([.ref h0, .int x0, .int x1] : List Value).toArray = ar at hG ⊢
  refine wq (fun Q hQ => ?_)
  refine lv_aload_n hx hb dX0_putTwo_0 rfl (lv_at hl 0 rfl) ?_
  refine lv_iload_n hx hb dX0_putTwo_1 rfl (lv_at hl 1 rfl) ?_
  refine lv_bipush (v := 12) hx hb dX0_putTwo_2 (by decide) ?_
  refine lv_ishl hx hb dX0_putTwo_4 ?_
  refine lv_topi (fun v1 ev1 => ?_)
  refine lv_aload_n hx hb dX0_putTwo_5 rfl (lv_at hl 0 rfl) ?_
  refine va_get (D := (dC, dI)) (ci := 0) (v := .ref h2) (C := RX0) (T := TX0) (N := 17) hx hb hG inGX0 hown hK hP 0 rfl rfl 1 (by decide) (hG _ wd_322) (fun _ h9 => h9) rfl dX0_putTwo_6 ?_
  obtain ⟨hPc, hDc, hFc⟩ := nv_sub3 (wc := [(h2, .inr (6, [.int x12, .int x13, .int x14, .int x15, .int x16]))]) hP hD hS hA [1] (by decide) rfl
  have hKc := hK.sub (tys' := []) [] rfl
  refine va_calli (va_runV (As := []) (rest := [.int v1, .ref h0]) ⟨hx, hb, hml, hown, hG⟩ (cX6_base_1 l dC dI h2 s.heap.size x12 x13 x14 x15 x16 ix15 ix16) (cwV 0 hG (gV wd_661 wd_662 wd_663 wd_9 wd_664) rfl rfl rfl (by decide +kernel) ⟨Nat.le_of_ble_eq_true rfl, Nat.le_of_ble_eq_true rfl⟩) ⟨fun a U g mk q => by obtain ⟨q0, q1, qP, qK, qD⟩ := q; exact ⟨q0, q1, qP, va_K.moved (u := U) (U := U.calling g mk a) (Vm.Alike.refl U.vm) qK, qD⟩, va_recv hKc hPc (ci := 6) (q0 := 0) rfl rfl, fun U hU hW => ⟨rfl, by rw [hU], by rw [hU]; exact hPc, va_K.moved hW.alike hKc, hDc.weaken (fun _ _ _ _ => trivial)⟩⟩ rfl rfl hl.1 rfl (lv_room (Nat.le_of_ble_eq_true rfl)) dX0_putTwo_9 ⟨by decide, by decide⟩) hS (fun q _ h => hFc q h) hFc (fun r2 u3 t H1 locs ht hvm hw hB hz1 hk1 hS => ?_)
  obtain ⟨hP1, hK1, hD1⟩ := hB
  rw [ht] at hP1
  have hK1 := va_K.moved hvm.symm hK1
  obtain ⟨hP, hD⟩ := nv_join (wf := [(h0, .inr (0, [.ref h1, .ref h2, .ref h3, .ref h4, .ref h5, .ref h6, .ref h7, .int x2, .int x3, .int x4, .int x5, .int x6, .int x7, .int x8, .int x9, .int x10, .int x11])), (h3, .inr (6, [.int x17, .int x18, .int x19, .int x20, .int x21])), (h4, .inl (y0, 2600, .inl f0)), (h5, .inl (y1, 2600, .inl f1)), (h2, .inr (6, [.int x12, .int x13, .int x14, .int x15, .int x16]))]) hP hD [1] [0, 2, 3, 4] rfl rfl (by decide) (by decide) hk1 hFc hP1 hD1 rfl
  have hK := (hK.sub (tys' := [(y0, .int), (y1, .int)]) [0, 1] rfl).app hK1
  generalize H1 = H at hP hS ⊢
  have hK : va_K (dC, dI) vwCl [(y0, .int), (y1, .int)] s := hK
  refine lv_bipush (v := 8) hx hb dX0_putTwo_12 (by decide) ?_
  refine lv_ishl hx hb dX0_putTwo_14 ?_
  refine lv_topi (fun v4 ev4 => ?_)
  refine lv_ior hx hb dX0_putTwo_15 ?_
  refine lv_topi (fun v5 ev5 => ?_)
  refine lv_aload_n hx hb dX0_putTwo_16 rfl (lv_at hl 0 rfl) ?_
  refine va_get (D := (dC, dI)) (ci := 0) (v := .ref h3) (C := RX0) (T := TX0) (N := 17) hx hb hG inGX0 hown hK hP 0 rfl rfl 2 (by decide) (hG _ wd_323) (fun _ h9 => h9) rfl dX0_putTwo_17 ?_
  obtain ⟨hPc, hDc, hFc⟩ := nv_sub3 (wc := [(h3, .inr (6, [.int x17, .int x18, .int x19, .int x20, .int x21]))]) hP hD hS hA [1] (by decide) rfl
  have hKc := hK.sub (tys' := []) [] rfl
  refine va_calli (va_runV (As := []) (rest := [.int v5, .ref h0]) ⟨hx, hb, hml, hown, hG⟩ (cX6_mode_1 l dC dI h3 H.size x17 x18 x19 x20 x21 ix20 ix21) (cwV 0 hG (gV wd_665 wd_666 wd_667 wd_9 wd_668) rfl rfl rfl (by decide +kernel) ⟨Nat.le_of_ble_eq_true rfl, Nat.le_of_ble_eq_true rfl⟩) ⟨fun a U g mk q => by obtain ⟨q0, q1, qP, qK, qD⟩ := q; exact ⟨q0, q1, qP, va_K.moved (u := U) (U := U.calling g mk a) (Vm.Alike.refl U.vm) qK, qD⟩, va_recv hKc hPc (ci := 6) (q0 := 0) rfl rfl, fun U hU hW => ⟨rfl, by rw [hU], by rw [hU]; exact hPc, va_K.moved hW.alike hKc, hDc.weaken (fun _ _ _ _ => trivial)⟩⟩ rfl rfl hl.1 rfl (lv_room (Nat.le_of_ble_eq_true rfl)) dX0_putTwo_20 ⟨by decide, by decide⟩) hS (fun q _ h => hFc q h) hFc (fun r6 u7 t H1 locs ht hvm hw hB hz1 hk1 hS => ?_)
  obtain ⟨hP1, hK1, hD1⟩ := hB
  rw [ht] at hP1
  have hK1 := va_K.moved hvm.symm hK1
  obtain ⟨hP, hD⟩ := nv_join (wf := [(h0, .inr (0, [.ref h1, .ref h2, .ref h3, .ref h4, .ref h5, .ref h6, .ref h7, .int x2, .int x3, .int x4, .int x5, .int x6, .int x7, .int x8, .int x9, .int x10, .int x11])), (h4, .inl (y0, 2600, .inl f0)), (h5, .inl (y1, 2600, .inl f1)), (h2, .inr (6, [.int x12, .int x13, .int x14, .int x15, .int x16])), (h3, .inr (6, [.int x17, .int x18, .int x19, .int x20, .int x21]))]) hP hD [1] [0, 2, 3, 4] rfl rfl (by decide) (by decide) hk1 hFc hP1 hD1 rfl
  have hK := (hK.sub (tys' := [(y0, .int), (y1, .int)]) [0, 1] rfl).app hK1
  generalize H1 = H at hP hS ⊢
  have hK : va_K (dC, dI) vwCl [(y0, .int), (y1, .int)] s := hK
  refine lv_bipush (v := 7) hx hb dX0_putTwo_23 (by decide) ?_
  refine lv_ishl hx hb dX0_putTwo_25 ?_
  refine lv_topi (fun v8 ev8 => ?_)
  refine lv_ior hx hb dX0_putTwo_26 ?_
  refine lv_topi (fun v9 ev9 => ?_)
  refine lv_iload_n hx hb dX0_putTwo_27 rfl (lv_at hl 2 rfl) ?_
  refine lv_ior hx hb dX0_putTwo_28 ?_
  refine lv_topi (fun v10 ev10 => ?_)
  refine lv_aload_n hx hb dX0_putTwo_29 rfl (lv_at hl 0 rfl) ?_
  refine va_get (D := (dC, dI)) (ci := 0) (v := .ref h2) (C := RX0) (T := TX0) (N := 17) hx hb hG inGX0 hown hK hP 0 rfl rfl 1 (by decide) (hG _ wd_322) (fun _ h9 => h9) rfl dX0_putTwo_30 ?_
  obtain ⟨hPc, hDc, hFc⟩ := nv_sub3 (wc := [(h2, .inr (6, [.int x12, .int x13, .int x14, .int x15, .int x16]))]) hP hD hS hA [3] (by decide) rfl
  have hKc := hK.sub (tys' := []) [] rfl
  refine va_calli (va_runV (As := []) (rest := [.int v10, .ref h0]) ⟨hx, hb, hml, hown, hG⟩ (cX6_mode_1 l dC dI h2 H.size x12 x13 x14 x15 x16 ix15 ix16) (cwV 0 hG (gV wd_665 wd_666 wd_667 wd_9 wd_668) rfl rfl rfl (by decide +kernel) ⟨Nat.le_of_ble_eq_true rfl, Nat.le_of_ble_eq_true rfl⟩) ⟨fun a U g mk q => by obtain ⟨q0, q1, qP, qK, qD⟩ := q; exact ⟨q0, q1, qP, va_K.moved (u := U) (U := U.calling g mk a) (Vm.Alike.refl U.vm) qK, qD⟩, va_recv hKc hPc (ci := 6) (q0 := 0) rfl rfl, fun U hU hW => ⟨rfl, by rw [hU], by rw [hU]; exact hPc, va_K.moved hW.alike hKc, hDc.weaken (fun _ _ _ _ => trivial)⟩⟩ rfl rfl hl.1 rfl (lv_room (Nat.le_of_ble_eq_true rfl)) dX0_putTwo_33 ⟨by decide, by decide⟩) hS (fun q _ h => hFc q h) hFc (fun r11 u12 t H1 locs ht hvm hw hB hz1 hk1 hS => ?_)
  obtain ⟨hP1, hK1, hD1⟩ := hB
  rw [ht] at hP1
  have hK1 := va_K.moved hvm.symm hK1
  obtain ⟨hP, hD⟩ := nv_join (wf := [(h0, .inr (0, [.ref h1, .ref h2, .ref h3, .ref h4, .ref h5, .ref h6, .ref h7, .int x2, .int x3, .int x4, .int x5, .int x6, .int x7, .int x8, .int x9, .int x10, .int x11])), (h4, .inl (y0, 2600, .inl f0)), (h5, .inl (y1, 2600, .inl f1)), (h3, .inr (6, [.int x17, .int x18, .int x19, .int x20, .int x21])), (h2, .inr (6, [.int x12, .int x13, .int x14, .int x15, .int x16]))]) hP hD [3] [0, 1, 2, 4] rfl rfl (by decide) (by decide) hk1 hFc hP1 hD1 rfl
  have hK := (hK.sub (tys' := [(y0, .int), (y1, .int)]) [0, 1] rfl).app hK1
  generalize H1 = H at hP hS ⊢
  have hK : va_K (dC, dI) vwCl [(y0, .int), (y1, .int)] s := hK
  refine lv_iconst (v := 4) hx hb dX0_putTwo_36 (by decide) ?_
  refine lv_ishl hx hb dX0_putTwo_37 ?_
  refine lv_topi (fun v13 ev13 => ?_)
  refine lv_ior hx hb dX0_putTwo_38 ?_
  refine lv_topi (fun v14 ev14 => ?_)
  refine lv_aload_n hx hb dX0_putTwo_39 rfl (lv_at hl 0 rfl) ?_
  refine va_get (D := (dC, dI)) (ci := 0) (v := .ref h3) (C := RX0) (T := TX0) (N := 17) hx hb hG inGX0 hown hK hP 0 rfl rfl 2 (by decide) (hG _ wd_323) (fun _ h9 => h9) rfl dX0_putTwo_40 ?_
  obtain ⟨hPc, hDc, hFc⟩ := nv_sub3 (wc := [(h3, .inr (6, [.int x17, .int x18, .int x19, .int x20, .int x21]))]) hP hD hS hA [3] (by decide) rfl
  have hKc := hK.sub (tys' := []) [] rfl
  refine va_calli (va_runV (As := []) (rest := [.int v14, .ref h0]) ⟨hx, hb, hml, hown, hG⟩ (cX6_base_1 l dC dI h3 H.size x17 x18 x19 x20 x21 ix20 ix21) (cwV 0 hG (gV wd_661 wd_662 wd_663 wd_9 wd_664) rfl rfl rfl (by decide +kernel) ⟨Nat.le_of_ble_eq_true rfl, Nat.le_of_ble_eq_true rfl⟩) ⟨fun a U g mk q => by obtain ⟨q0, q1, qP, qK, qD⟩ := q; exact ⟨q0, q1, qP, va_K.moved (u := U) (U := U.calling g mk a) (Vm.Alike.refl U.vm) qK, qD⟩, va_recv hKc hPc (ci := 6) (q0 := 0) rfl rfl, fun U hU hW => ⟨rfl, by rw [hU], by rw [hU]; exact hPc, va_K.moved hW.alike hKc, hDc.weaken (fun _ _ _ _ => trivial)⟩⟩ rfl rfl hl.1 rfl (lv_room (Nat.le_of_ble_eq_true rfl)) dX0_putTwo_43 ⟨by decide, by decide⟩) hS (fun q _ h => hFc q h) hFc (fun r15 u16 t H1 locs ht hvm hw hB hz1 hk1 hS => ?_)
  obtain ⟨hP1, hK1, hD1⟩ := hB
  rw [ht] at hP1
  have hK1 := va_K.moved hvm.symm hK1
  obtain ⟨hP, hD⟩ := nv_join (wf := [(h0, .inr (0, [.ref h1, .ref h2, .ref h3, .ref h4, .ref h5, .ref h6, .ref h7, .int x2, .int x3, .int x4, .int x5, .int x6, .int x7, .int x8, .int x9, .int x10, .int x11])), (h4, .inl (y0, 2600, .inl f0)), (h5, .inl (y1, 2600, .inl f1)), (h2, .inr (6, [.int x12, .int x13, .int x14, .int x15, .int x16])), (h3, .inr (6, [.int x17, .int x18, .int x19, .int x20, .int x21]))]) hP hD [3] [0, 1, 2, 4] rfl rfl (by decide) (by decide) hk1 hFc hP1 hD1 rfl
  have hK := (hK.sub (tys' := [(y0, .int), (y1, .int)]) [0, 1] rfl).app hK1
  generalize H1 = H at hP hS ⊢
  have hK : va_K (dC, dI) vwCl [(y0, .int), (y1, .int)] s := hK
  refine lv_ior hx hb dX0_putTwo_46 ?_
  refine lv_topi (fun v17 ev17 => ?_)
  obtain ⟨hPc, hDc, hFc⟩ := nv_sub3 (wc := [(h0, .inr (0, [.ref h1, .ref h2, .ref h3, .ref h4, .ref h5, .ref h6, .ref h7, .int x2, .int x3, .int x4, .int x5, .int x6, .int x7, .int x8, .int x9, .int x10, .int x11])), (h4, .inl (y0, 2600, .inl f0)), (h5, .inl (y1, 2600, .inl f1))]) hP hD hS hA [0, 1, 2] (by decide) rfl
  have hKc := hK.sub (tys' := [(y0, .int), (y1, .int)]) [0, 1] rfl
  refine va_callv (va_runV (As := [.int v17]) (rest := []) ⟨hx, hb, hml, hown, hG⟩ (cX0_putWord_1 l dC dI h0 h1 h2 h3 h4 h5 h6 h7 y0 y1 H.size v17 x2 x3 x4 x5 x6 x7 x8 x9 x10 x11 f0 f1 ix2 ix3 ix9) (cwV 1 hG (gV wd_610 wd_612 wp_16 wd_8 wd_613) rfl rfl rfl (by decide +kernel) ⟨Nat.le_of_ble_eq_true rfl, Nat.le_of_ble_eq_true rfl⟩) ⟨fun a U g mk q => by obtain ⟨q0, q1, qP, qK, qD⟩ := q; exact ⟨q0, q1, qP, va_K.moved (u := U) (U := U.calling g mk a) (Vm.Alike.refl U.vm) qK, qD⟩, va_recv hKc hPc (ci := 0) (q0 := 0) rfl rfl, fun U hU hW => ⟨rfl, by rw [hU], by rw [hU]; exact hPc, va_K.moved hW.alike hKc, hDc.weaken (fun _ _ _ _ => trivial)⟩⟩ rfl rfl hl.1 rfl (lv_room (Nat.le_of_ble_eq_true rfl)) dX0_putTwo_47 ⟨by decide, by decide⟩) hS (fun q _ h => hFc q h) hFc (fun u19 t H1 locs ht hvm hw hB hz1 hk1 hS => ?_)
  obtain ⟨u19_0, u19_1, u19_2, u19_3, u19_4⟩ := u19
  have hw : iv u19_0 0 2600 ∧ iv u19_1 0 1 ∧ True := hw
  obtain ⟨iu19_0, iu19_1, -⟩ := hw
  obtain ⟨hP1, hK1, hD1⟩ := hB
  rw [ht] at hP1
  have hK1 := va_K.moved hvm.symm hK1
  obtain ⟨hP, hD⟩ := nv_join (wf := [(h2, .inr (6, [.int x12, .int x13, .int x14, .int x15, .int x16])), (h3, .inr (6, [.int x17, .int x18, .int x19, .int x20, .int x21])), (h0, .inr (0, [.ref h1, .ref h2, .ref h3, .ref h4, .ref h5, .ref h6, .ref h7, .int u19_0, .int u19_1, .int x4, .int u19_2, .int x6, .int x7, .int x8, .int x9, .int x10, .int x11])), (h4, .inl (y0, 2600, .inl u19_3)), (h5, .inl (y1, 2600, .inl u19_4))]) hP hD [0, 1, 2] [3, 4] rfl rfl (by decide) (by decide) hk1 hFc hP1 hD1 rfl
  have hK := (hK.sub (tys' := []) [] rfl).app hK1
  generalize H1 = H at hP hS ⊢
  have hK : va_K (dC, dI) vwCl [(y0, .int), (y1, .int)] s := hK
  refine lv_aload_n hx hb dX0_putTwo_50 rfl (lv_at hl 0 rfl) ?_
  refine lv_aload_n hx hb dX0_putTwo_51 rfl (lv_at hl 0 rfl) ?_
  refine va_get (D := (dC, dI)) (ci := 0) (v := .ref h2) (C := RX0) (T := TX0) (N := 17) hx hb hG inGX0 hown hK hP 2 rfl rfl 1 (by decide) (hG _ wd_322) (fun _ h9 => h9) rfl dX0_putTwo_52 ?_
  obtain ⟨hPc, hDc, hFc⟩ := nv_sub3 (wc := [(h2, .inr (6, [.int x12, .int x13, .int x14, .int x15, .int x16])), (h0, .inr (0, [.ref h1, .ref h2, .ref h3, .ref h4, .ref h5, .ref h6, .ref h7, .int u19_0, .int u19_1, .int x4, .int u19_2, .int x6, .int x7, .int x8, .int x9, .int x10, .int x11])), (h4, .inl (y0, 2600, .inl u19_3)), (h5, .inl (y1, 2600, .inl u19_4))]) hP hD hS hA [0, 2, 3, 4] (by decide) rfl
  have hKc := hK.sub (tys' := [(y0, .int), (y1, .int)]) [0, 1] rfl
  refine va_callv (va_runV (As := [.ref h2]) (rest := []) ⟨hx, hb, hml, hown, hG⟩ (cX0_putNext_1 l dC dI h0 h2 h1 h3 h4 h5 h6 h7 y0 y1 H.size x12 x13 x14 x15 x16 u19_0 u19_1 x4 u19_2 x6 x7 x8 x9 x10 x11 u19_3 u19_4 ix15 ix16 iu19_0 iu19_1 ix9) (cwV 1 hG (gV wd_669 wd_671 wp_23 wd_8 wd_672) rfl rfl rfl (by decide +kernel) ⟨Nat.le_of_ble_eq_true rfl, Nat.le_of_ble_eq_true rfl⟩) ⟨fun a U g mk q => by obtain ⟨q0, q1, qP, qK, qD⟩ := q; exact ⟨q0, q1, qP, va_K.moved (u := U) (U := U.calling g mk a) (Vm.Alike.refl U.vm) qK, qD⟩, va_recv hKc hPc (ci := 0) (q0 := 1) rfl rfl, fun U hU hW => ⟨rfl, by rw [hU], by rw [hU]; exact hPc, va_K.moved hW.alike hKc, hDc.weaken (fun _ _ _ _ => trivial)⟩⟩ rfl rfl hl.1 rfl (lv_room (Nat.le_of_ble_eq_true rfl)) dX0_putTwo_55 ⟨by decide, by decide⟩) hS (fun q _ h => hFc q h) hFc (fun u21 t H1 locs ht hvm hw hB hz1 hk1 hS => ?_)
  obtain ⟨u21_0, u21_1, u21_2, u21_3, u21_4, u21_5⟩ := u21
  have hw : iv u21_0 0 1 ∧ iv u21_1 0 2600 ∧ iv u21_2 0 1 ∧ True := hw
  obtain ⟨iu21_0, iu21_1, iu21_2, -⟩ := hw
  obtain ⟨hP1, hK1, hD1⟩ := hB
  rw [ht] at hP1
  have hK1 := va_K.moved hvm.symm hK1
  obtain ⟨hP, hD⟩ := nv_join (wf := [(h3, .inr (6, [.int x17, .int x18, .int x19, .int x20, .int x21])), (h2, .inr (6, [.int x12, .int x13, .int x14, .int x15, .int u21_0])), (h0, .inr (0, [.ref h1, .ref h2, .ref h3, .ref h4, .ref h5, .ref h6, .ref h7, .int u21_1, .int u21_2, .int x4, .int u21_3, .int x6, .int x7, .int x8, .int x9, .int x10, .int x11])), (h4, .inl (y0, 2600, .inl u21_4)), (h5, .inl (y1, 2600, .inl u21_5))]) hP hD [0, 2, 3, 4] [1] rfl rfl (by decide) (by decide) hk1 hFc hP1 hD1 rfl
  have hK := (hK.sub (tys' := []) [] rfl).app hK1
  generalize H1 = H at hP hS ⊢
  have hK : va_K (dC, dI) vwCl [(y0, .int), (y1, .int)] s := hK
  refine lv_aload_n hx hb dX0_putTwo_58 rfl (lv_at hl 0 rfl) ?_
  refine lv_aload_n hx hb dX0_putTwo_59 rfl (lv_at hl 0 rfl) ?_
  refine va_get (D := (dC, dI)) (ci := 0) (v := .ref h3) (C := RX0) (T := TX0) (N := 17) hx hb hG inGX0 hown hK hP 2 rfl rfl 2 (by decide) (hG _ wd_323) (fun _ h9 => h9) rfl dX0_putTwo_60 ?_
  obtain ⟨hPc, hDc, hFc⟩ := nv_sub3 (wc := [(h3, .inr (6, [.int x17, .int x18, .int x19, .int x20, .int x21])), (h0, .inr (0, [.ref h1, .ref h2, .ref h3, .ref h4, .ref h5, .ref h6, .ref h7, .int u21_1, .int u21_2, .int x4, .int u21_3, .int x6, .int x7, .int x8, .int x9, .int x10, .int x11])), (h4, .inl (y0, 2600, .inl u21_4)), (h5, .inl (y1, 2600, .inl u21_5))]) hP hD hS hA [0, 2, 3, 4] (by decide) rfl
  have hKc := hK.sub (tys' := [(y0, .int), (y1, .int)]) [0, 1] rfl
  refine va_callv (va_runV (As := [.ref h3]) (rest := []) ⟨hx, hb, hml, hown, hG⟩ (cX0_putNext_2 l dC dI h0 h3 h1 h2 h4 h5 h6 h7 y0 y1 H.size x17 x18 x19 x20 x21 u21_1 u21_2 x4 u21_3 x6 x7 x8 x9 x10 x11 u21_4 u21_5 ix20 ix21 iu21_1 iu21_2 ix9) (cwV 1 hG (gV wd_669 wd_671 wp_23 wd_8 wd_672) rfl rfl rfl (by decide +kernel) ⟨Nat.le_of_ble_eq_true rfl, Nat.le_of_ble_eq_true rfl⟩) ⟨fun a U g mk q => by obtain ⟨q0, q1, qP, qK, qD⟩ := q; exact ⟨q0, q1, qP, va_K.moved (u := U) (U := U.calling g mk a) (Vm.Alike.refl U.vm) qK, qD⟩, va_recv hKc hPc (ci := 0) (q0 := 1) rfl rfl, fun U hU hW => ⟨rfl, by rw [hU], by rw [hU]; exact hPc, va_K.moved hW.alike hKc, hDc.weaken (fun _ _ _ _ => trivial)⟩⟩ rfl rfl hl.1 rfl (lv_room (Nat.le_of_ble_eq_true rfl)) dX0_putTwo_63 ⟨by decide, by decide⟩) hS (fun q _ h => hFc q h) hFc (fun u23 t H1 locs ht hvm hw hB hz1 hk1 hS => ?_)
  obtain ⟨u23_0, u23_1, u23_2, u23_3, u23_4, u23_5⟩ := u23
  have hw : iv u23_0 0 1 ∧ iv u23_1 0 2600 ∧ iv u23_2 0 1 ∧ True := hw
  obtain ⟨iu23_0, iu23_1, iu23_2, -⟩ := hw
  obtain ⟨hP1, hK1, hD1⟩ := hB
  rw [ht] at hP1
  have hK1 := va_K.moved hvm.symm hK1
  obtain ⟨hP, hD⟩ := nv_join (wf := [(h2, .inr (6, [.int x12, .int x13, .int x14, .int x15, .int u21_0])), (h3, .inr (6, [.int x17, .int x18, .int x19, .int x20, .int u23_0])), (h0, .inr (0, [.ref h1, .ref h2, .ref h3, .ref h4, .ref h5, .ref h6, .ref h7, .int u23_1, .int u23_2, .int x4, .int u23_3, .int x6, .int x7, .int x8, .int x9, .int x10, .int x11])), (h4, .inl (y0, 2600, .inl u23_4)), (h5, .inl (y1, 2600, .inl u23_5))]) hP hD [0, 2, 3, 4] [1] rfl rfl (by decide) (by decide) hk1 hFc hP1 hD1 rfl
  have hK := (hK.sub (tys' := []) [] rfl).app hK1
  generalize H1 = H at hP hS ⊢
  have hK : va_K (dC, dI) vwCl [(y0, .int), (y1, .int)] s := hK
  refine lv_iconst (v := 1) hx hb dX0_putTwo_66 (by decide) ?_
  rw [hQ]
  obtain ⟨hP9, hD9⟩ := nv_sub2 (wc := [(h0, .inr (0, [.ref h1, .ref h2, .ref h3, .ref h4, .ref h5, .ref h6, .ref h7, .int u23_1, .int u23_2, .int x4, .int u23_3, .int x6, .int x7, .int x8, .int x9, .int x10, .int x11])), (h2, .inr (6, [.int x12, .int x13, .int x14, .int x15, .int u21_0])), (h3, .inr (6, [.int x17, .int x18, .int x19, .int x20, .int u23_0])), (h4, .inl (y0, 2600, .inl u23_4)), (h5, .inl (y1, 2600, .inl u23_5))]) hP hD [2, 0, 1, 3, 4] (by decide) rfl
  have hK9 := hK.sub (tys' := [(y0, .int), (y1, .int)]) [0, 1] rfl
  exact W.zret (v := 1) hx hb hr rfl (fun t ht hW => ⟨⟨1, (u23_1, u23_2, u23_3, u21_0, u23_0, u23_4, u23_5), rfl, ⟨rfl, iv_w iu23_1 (by decide) (by decide), iv_w iu23_2 (by decide) (by decide), iv_w iu21_0 (by decide) (by decide), iv_w iu23_0 (by decide) (by decide), trivial⟩, by rw [ht]; exact hP9, va_K.moved hW.alike hK9, hD9⟩, hS.F ht⟩) hS.2.2 dX0_putTwo_67
set_option maxHeartbeats 100000000 in
set_option maxRecDepth 100000 in
theorem cX4_valueOf_1 (l : Launch) (dC : Nat → ClassId) (dI : Nat → Nat → Nat) (h0 h1 h2 h3 : Nat) (y0 y1 : ClassId) (sz : Nat) (x0 : Int32) (z0 : Int64) (f0 : Nat → Int32) (g0 : Nat → Int64) (ix0 : iv x0 0 60) : Met l yX4_valueOf (Cond.code yX4_valueOf cX4_valueOf 4 (some .int) :: lw_G) ({ frames := 0, cells := 0, slots := 0, locals := 0 }) (va_Pc [.ref h0, .long z0] (fun U => U.heap.size = sz ∧ va_P (dC, dI) vwCl [(h0, .inr (4, [.ref h1, .ref h2, .ref h3, .int x0])), (h1, .inl (y0, 60, .inr (.inl g0))), (h2, .inl (y1, 60, .inl f0))] U.heap ∧ va_K (dC, dI) vwCl [(y0, .long), (y1, .int)] U ∧ va_D (fun _ => True) [(h0, .inr (4, [.ref h1, .ref h2, .ref h3, .int x0])), (h1, .inl (y0, 60, .inr (.inl g0))), (h2, .inl (y1, 60, .inl f0))])) (va_Qi (fun (r : Int32) (u : Unit) => True) (fun (u : Unit) (t : State) => va_P (dC, dI) vwCl [(h0, .inr (4, [.ref h1, .ref h2, .ref h3, .int x0])), (h1, .inl (y0, 60, .inr (.inl g0))), (h2, .inl (y1, 60, .inl f0))] t.heap ∧ va_K (dC, dI) vwCl [(y0, .long), (y1, .int)] t ∧ va_D (va_A [(h0, .inr (4, [.ref h1, .ref h2, .ref h3, .int x0])), (h1, .inl (y0, 60, .inr (.inl g0))), (h2, .inl (y1, 60, .inl f0))] sz) [(h0, .inr (4, [.ref h1, .ref h2, .ref h3, .int x0])), (h1, .inl (y0, 60, .inr (.inl g0))), (h2, .inl (y1, 60, .inl f0))]) (va_A [(h0, .inr (4, [.ref h1, .ref h2, .ref h3, .int x0])), (h1, .inl (y0, 60, .inr (.inl g0))), (h2, .inl (y1, 60, .inl f0))] sz)) 0 0 (va_A [(h0, .inr (4, [.ref h1, .ref h2, .ref h3, .int x0])), (h1, .inl (y0, 60, .inr (.inl g0))), (h2, .inl (y1, 60, .inl f0))] sz) := by
  refine Met.ofW (cc := cX4_valueOf) (maxL := 4) (ret := (some .int)) (by decide) rfl ?_
  intro p e s m args below meth c s₁ B hml hv
  obtain ⟨rfl, hsz, hP, hK, hD0⟩ := hv
  have hx := B.exec
  have hb := B.bytes
  have hr := B.returns
  have hts0 := atoms_spec (ws := Cond.code yX4_valueOf cX4_valueOf 4 (some .int) :: lw_G) B.pre
  have hG : ∀ w ∈ lw_G, w.before _ s = true := fun w h => hts0 w (List.mem_cons_of_mem _ h)
  have hown : s.vm.findClass RX4 = some m.cls := findClass_of_methodNamed B.named
  have hlocks := B.notSynchronized
  subst hsz
  have hD := hD0.self (sz := s.heap.size)
  generalize hAe : va_A [(h0, .inr (4, [.ref h1, .ref h2, .ref h3, .int x0])), (h1, .inl (y0, 60, .inr (.inl g0))), (h2, .inl (y1, 60, .inl f0))] s.heap.size = A at hD ⊢
  have hA : ∀ q : Nat, s.heap.size ≤ q → A q := fun q h => by rw [← hAe]; exact Or.inr h
  have hS : va_S A s.heap s.heap [] := va_S.rf
  have hP : va_P (dC, dI) vwCl [(h0, .inr (4, [.ref h1, .ref h2, .ref h3, .int x0])), (h1, .inl (y0, 60, .inr (.inl g0))), (h2, .inl (y1, 60, .inl f0))] s.heap := hP
  have hl := lv_entry ([.ref h0, .long z0]) (n := 4) (Nat.le_of_ble_eq_true rfl)
  rw [lg_entry_eq]
  generalize (lg_sl ([.ref h0, .long z0]) ++ List.replicate (4 - (lg_sl ([.ref h0, .long z0])).length) Slot.unset).toArray = ls at hl ⊢
  have hl : lv_has ls 4 [(0, .ref h0), (1, .long z0)] := hl
  generalize ([.ref h0, .long z0] : List Value).toArray = ar at hG ⊢
  refine wq (fun Q hQ => ?_)
  refine lv_iconst (v := 0) hx hb dX4_valueOf_0 (by decide) ?_
  refine lv_istore_n (lv' := [(3, .int 0), (0, .ref h0), (1, .long z0)]) hx hb dX4_valueOf_1 rfl hl (by decide) rfl (fun ls hl => ?_)
  refine jcut (a := ∀ (n : Nat) (b195 : Int32) (ib195 : iv b195 0 60) (hm : (60 - b195.toInt).toNat < n) (H : Heap) (locs : List Loc) (hK : va_K (dC, dI) vwCl [(y0, .long), (y1, .int)] s) (hP : va_P (dC, dI) vwCl [(h0, .inr (4, [.ref h1, .ref h2, .ref h3, .int x0])), (h1, .inl (y0, 60, .inr (.inl g0))), (h2, .inl (y1, 60, .inl f0))] H) (hD : va_D A [(h0, .inr (4, [.ref h1, .ref h2, .ref h3, .int x0])), (h1, .inl (y0, 60, .inr (.inl g0))), (h2, .inl (y1, 60, .inl f0))]) (hS : va_S A s.heap H locs) (ls : Array Slot) (hl : lv_has ls 4 [(3, .int b195), (0, .ref h0), (1, .long z0)]), W p l e (headSpec (Cond.code yX4_valueOf cX4_valueOf 4 (some .int) :: lw_G) ({ frames := 0, cells := 0, slots := 0, locals := 0 })).room s m ar below meth c H locs 0 0 Q (F0 m 2 ls [])) ?_ (fun lp207 => ?_)
  · skip
    intro n
    induction n with
    | zero => intro b195 ib195 hm H locs hK hP hD hS ls hl; exact absurd hm (Nat.not_lt_zero _)
    | succ n ih =>
      intro b195 ib195 hm H locs hK hP hD hS ls hl
      refine lv_iload_n hx hb dX4_valueOf_2 rfl (lv_at hl 0 rfl) ?_
      refine lv_aload_n hx hb dX4_valueOf_3 rfl (lv_at hl 1 rfl) ?_
      refine va_get (D := (dC, dI)) (ci := 4) (v := .int x0) (C := RX4) (T := TX4) (N := 4) hx hb hG inGX4 hown hK hP 0 rfl rfl 3 (by decide) (hG _ wd_211) (fun _ h9 => h9) rfl dX4_valueOf_4 ?_
      refine lv_icmp_ge (tgt := 40) hx hb dX4_valueOf_7 (by decide) (fun c208 => ?_) (fun c208 => ?_)
      · skip
        have rl209 : x0.toInt ≤ b195.toInt := Int32.le_iff_toInt_le.mp c208
        refine lv_iconst (v := (-1)) hx hb dX4_valueOf_40 (by decide) ?_
        rw [hQ]
        obtain ⟨hP9, hD9⟩ := nv_sub2 (wc := [(h0, .inr (4, [.ref h1, .ref h2, .ref h3, .int x0])), (h1, .inl (y0, 60, .inr (.inl g0))), (h2, .inl (y1, 60, .inl f0))]) hP hD [0, 1, 2] (by decide) rfl
        have hK9 := hK.sub (tys' := [(y0, .long), (y1, .int)]) [0, 1] rfl
        exact W.iret (v := (-1)) hx hb hr (fun t ht hW => ⟨⟨(-1), (), rfl, trivial, by rw [ht]; exact hP9, va_K.moved hW.alike hK9, hD9⟩, hS.F ht⟩) hS.2.2 dX4_valueOf_41
      · skip
        have rl210 : b195.toInt < x0.toInt := iv_nle2 c208
        have j211 : iv x0 1 60 := iv_nleL ix0 ib195 c208 (by decide)
        have j212 : iv b195 0 59 := iv_nleR ix0 ib195 c208 (by decide)
        refine lv_iload_n hx hb dX4_valueOf_10 rfl (lv_at hl 0 rfl) ?_
        refine lv_bipush (v := 60) hx hb dX4_valueOf_11 (by decide) ?_
        refine lv_icmp_ge (tgt := 40) hx hb dX4_valueOf_13 (by decide) (fun c => absurd c (iv_nle (by decide : iv 60 60 60) j212 (by decide))) (fun _ => ?_)
        refine lv_aload_n hx hb dX4_valueOf_16 rfl (lv_at hl 1 rfl) ?_
        refine va_get (D := (dC, dI)) (ci := 4) (v := .ref h1) (C := RX4) (T := TX4) (N := 4) hx hb hG inGX4 hown hK hP 0 rfl rfl 0 (by decide) (hG _ wd_208) (fun _ h9 => h9) rfl dX4_valueOf_17 ?_
        refine lv_iload_n hx hb dX4_valueOf_20 rfl (lv_at hl 0 rfl) ?_
        refine va_lald hx hb hK hP 1 0 rfl rfl (iv_in j212 (by decide) (by decide) : vp_in b195 60) dX4_valueOf_21 ?_
        refine lv_topl (fun w213 ew213 => ?_)
        refine lv_lload_n hx hb dX4_valueOf_22 rfl (lv_at hl 2 rfl) ?_
        refine W.lcmp hx hb dX4_valueOf_23 ?_
        refine lv_topi (fun v214 ev214 => ?_)
        refine lv_if_ne (tgt := 34) hx hb dX4_valueOf_24 (by decide) (fun c215 => ?_) (fun c215 => ?_)
        · skip
          obtain ⟨v216, ev216⟩ : ∃ y : Int32, y = b195 + Int32.ofInt 1 := ⟨_, rfl⟩
          have iv216 : iv v216 1 60 := iv_eq ev216 (iv_add j212 (by decide : iv (Int32.ofInt 1) 1 1) (by decide) (by decide))
          have tv216 : v216.toInt = b195.toInt + 1 := iv_addT ev216 j212 (by decide) (by decide) (by decide)
          refine lv_iinc (v := v216) (lv' := [(3, .int v216), (0, .ref h0), (1, .long z0)]) hx hb dX4_valueOf_34 hl (k := 0) rfl ev216.symm (by decide) rfl (fun ls hl => ?_)
          refine lv_goto (tgt := 2) hx hb dX4_valueOf_37 (by decide) ?_
          exact ih v216 (iv_w iv216 (by decide) (by decide)) (by omega) _ _ hK hP hD hS ls hl
        · skip
          subst c215
          refine lv_aload_n hx hb dX4_valueOf_27 rfl (lv_at hl 1 rfl) ?_
          refine va_get (D := (dC, dI)) (ci := 4) (v := .ref h2) (C := RX4) (T := TX4) (N := 4) hx hb hG inGX4 hown hK hP 0 rfl rfl 1 (by decide) (hG _ wd_209) (fun _ h9 => h9) rfl dX4_valueOf_28 ?_
          refine lv_iload_n hx hb dX4_valueOf_31 rfl (lv_at hl 0 rfl) ?_
          refine va_iald hx hb hK hP 2 1 rfl rfl (iv_in j212 (by decide) (by decide) : vp_in b195 60) dX4_valueOf_32 ?_
          refine lv_topi (fun v217 ev217 => ?_)
          rw [hQ]
          obtain ⟨hP9, hD9⟩ := nv_sub2 (wc := [(h0, .inr (4, [.ref h1, .ref h2, .ref h3, .int x0])), (h1, .inl (y0, 60, .inr (.inl g0))), (h2, .inl (y1, 60, .inl f0))]) hP hD [0, 1, 2] (by decide) rfl
          have hK9 := hK.sub (tys' := [(y0, .long), (y1, .int)]) [0, 1] rfl
          exact W.iret (v := v217) hx hb hr (fun t ht hW => ⟨⟨v217, (), rfl, trivial, by rw [ht]; exact hP9, va_K.moved hW.alike hK9, hD9⟩, hS.F ht⟩) hS.2.2 dX4_valueOf_33
  exact lp207 _ 0 (iv_w (by decide : iv 0 0 0) (by decide) (by decide)) (Nat.lt_succ_self _) _ _ hK hP hD hS ls hl
set_option maxHeartbeats 100000000 in
set_option maxRecDepth 100000 in
theorem cX0_expression_1 (l : Launch) (dC : Nat → ClassId) (dI : Nat → Nat → Nat) (h0 h1 h2 h3 h4 h5 h6 h7 h8 h9 h10 h11 h12 h13 h14 h15 h16 : Nat) (y0 y1 y2 y3 y4 y5 : ClassId) (sz : Nat) (x0 x1 x2 x3 x4 x5 x6 x7 x8 x9 x10 x11 x12 x13 x14 x15 : Int32) (z0 : Int64) (f0 f1 f2 f3 : Nat → Int32) (g0 g1 : Nat → Int64) (ix0 : iv x0 0 2600) (ix1 : iv x1 0 1) (ix7 : iv x7 0 1) (ix10 : iv x10 0 2600) (ix11 : iv x11 0 2501) (ix12 : iv x12 0 2500) (ix15 : iv x15 0 60) : Met l yX0_expression (Cond.code yX0_expression cX0_expression 4 (some .boolean) :: lw_G) ({ frames := 1, cells := 0, slots := 0, locals := 23 }) (va_Pc [.ref h0] (fun U => U.heap.size = sz ∧ va_P (dC, dI) vwCl [(h0, .inr (0, [.ref h1, .ref h2, .ref h3, .ref h4, .ref h5, .ref h6, .ref h7, .int x0, .int x1, .int x2, .int x3, .int x4, .int x5, .int x6, .int x7, .int x8, .int x9])), (h1, .inr (10, [.ref h8, .ref h9, .ref h10, .ref h11, .ref h12, .ref h13, .int x10, .int x11, .int x12, .int x13, .int x14, .long z0])), (h9, .inl (y0, 2501, .inl f0)), (h8, .inl (y1, 2501, .inl f1)), (h10, .inl (y2, 2501, .inl f2)), (h11, .inl (y3, 2501, .inr (.inl g0))), (h6, .inr (4, [.ref h14, .ref h15, .ref h16, .int x15])), (h14, .inl (y4, 60, .inr (.inl g1))), (h15, .inl (y5, 60, .inl f3))] U.heap ∧ va_K (dC, dI) vwCl [(y0, .int), (y1, .int), (y2, .int), (y3, .long), (y4, .long), (y5, .int)] U ∧ va_D (fun _ => True) [(h0, .inr (0, [.ref h1, .ref h2, .ref h3, .ref h4, .ref h5, .ref h6, .ref h7, .int x0, .int x1, .int x2, .int x3, .int x4, .int x5, .int x6, .int x7, .int x8, .int x9])), (h1, .inr (10, [.ref h8, .ref h9, .ref h10, .ref h11, .ref h12, .ref h13, .int x10, .int x11, .int x12, .int x13, .int x14, .long z0])), (h9, .inl (y0, 2501, .inl f0)), (h8, .inl (y1, 2501, .inl f1)), (h10, .inl (y2, 2501, .inl f2)), (h11, .inl (y3, 2501, .inr (.inl g0))), (h6, .inr (4, [.ref h14, .ref h15, .ref h16, .int x15])), (h14, .inl (y4, 60, .inr (.inl g1))), (h15, .inl (y5, 60, .inl f3))])) (va_Qi (fun (r : Int32) (u : Int32 × Int32 × Int32 × Int32 × Int32 × Int32 × Int32) => iv r 0 1 ∧ iv u.1 0 1 ∧ iv u.2.2.2.1 0 1 ∧ iv u.2.2.2.2.2.2 0 2500 ∧ True) (fun (u : Int32 × Int32 × Int32 × Int32 × Int32 × Int32 × Int32) (t : State) => va_P (dC, dI) vwCl [(h0, .inr (0, [.ref h1, .ref h2, .ref h3, .ref h4, .ref h5, .ref h6, .ref h7, .int x0, .int u.1, .int x2, .int x3, .int x4, .int u.2.1, .int u.2.2.1, .int u.2.2.2.1, .int u.2.2.2.2.1, .int u.2.2.2.2.2.1])), (h1, .inr (10, [.ref h8, .ref h9, .ref h10, .ref h11, .ref h12, .ref h13, .int x10, .int x11, .int u.2.2.2.2.2.2, .int x13, .int x14, .long z0])), (h9, .inl (y0, 2501, .inl f0)), (h8, .inl (y1, 2501, .inl f1)), (h10, .inl (y2, 2501, .inl f2)), (h11, .inl (y3, 2501, .inr (.inl g0))), (h6, .inr (4, [.ref h14, .ref h15, .ref h16, .int x15])), (h14, .inl (y4, 60, .inr (.inl g1))), (h15, .inl (y5, 60, .inl f3))] t.heap ∧ va_K (dC, dI) vwCl [(y0, .int), (y1, .int), (y2, .int), (y3, .long), (y4, .long), (y5, .int)] t ∧ va_D (va_A [(h0, .inr (0, [.ref h1, .ref h2, .ref h3, .ref h4, .ref h5, .ref h6, .ref h7, .int x0, .int x1, .int x2, .int x3, .int x4, .int x5, .int x6, .int x7, .int x8, .int x9])), (h1, .inr (10, [.ref h8, .ref h9, .ref h10, .ref h11, .ref h12, .ref h13, .int x10, .int x11, .int x12, .int x13, .int x14, .long z0])), (h9, .inl (y0, 2501, .inl f0)), (h8, .inl (y1, 2501, .inl f1)), (h10, .inl (y2, 2501, .inl f2)), (h11, .inl (y3, 2501, .inr (.inl g0))), (h6, .inr (4, [.ref h14, .ref h15, .ref h16, .int x15])), (h14, .inl (y4, 60, .inr (.inl g1))), (h15, .inl (y5, 60, .inl f3))] sz) [(h0, .inr (0, [.ref h1, .ref h2, .ref h3, .ref h4, .ref h5, .ref h6, .ref h7, .int x0, .int u.1, .int x2, .int x3, .int x4, .int u.2.1, .int u.2.2.1, .int u.2.2.2.1, .int u.2.2.2.2.1, .int u.2.2.2.2.2.1])), (h1, .inr (10, [.ref h8, .ref h9, .ref h10, .ref h11, .ref h12, .ref h13, .int x10, .int x11, .int u.2.2.2.2.2.2, .int x13, .int x14, .long z0])), (h9, .inl (y0, 2501, .inl f0)), (h8, .inl (y1, 2501, .inl f1)), (h10, .inl (y2, 2501, .inl f2)), (h11, .inl (y3, 2501, .inr (.inl g0))), (h6, .inr (4, [.ref h14, .ref h15, .ref h16, .int x15])), (h14, .inl (y4, 60, .inr (.inl g1))), (h15, .inl (y5, 60, .inl f3))]) (va_A [(h0, .inr (0, [.ref h1, .ref h2, .ref h3, .ref h4, .ref h5, .ref h6, .ref h7, .int x0, .int x1, .int x2, .int x3, .int x4, .int x5, .int x6, .int x7, .int x8, .int x9])), (h1, .inr (10, [.ref h8, .ref h9, .ref h10, .ref h11, .ref h12, .ref h13, .int x10, .int x11, .int x12, .int x13, .int x14, .long z0])), (h9, .inl (y0, 2501, .inl f0)), (h8, .inl (y1, 2501, .inl f1)), (h10, .inl (y2, 2501, .inl f2)), (h11, .inl (y3, 2501, .inr (.inl g0))), (h6, .inr (4, [.ref h14, .ref h15, .ref h16, .int x15])), (h14, .inl (y4, 60, .inr (.inl g1))), (h15, .inl (y5, 60, .inl f3))] sz)) 0 0 (va_A [(h0, .inr (0, [.ref h1, .ref h2, .ref h3, .ref h4, .ref h5, .ref h6, .ref h7, .int x0, .int x1, .int x2, .int x3, .int x4, .int x5, .int x6, .int x7, .int x8, .int x9])), (h1, .inr (10, [.ref h8, .ref h9, .ref h10, .ref h11, .ref h12, .ref h13, .int x10, .int x11, .int x12, .int x13, .int x14, .long z0])), (h9, .inl (y0, 2501, .inl f0)), (h8, .inl (y1, 2501, .inl f1)), (h10, .inl (y2, 2501, .inl f2)), (h11, .inl (y3, 2501, .inr (.inl g0))), (h6, .inr (4, [.ref h14, .ref h15, .ref h16, .int x15])), (h14, .inl (y4, 60, .inr (.inl g1))), (h15, .inl (y5, 60, .inl f3))] sz) := by
  refine Met.ofW (cc := cX0_expression) (maxL := 4) (ret := (some .boolean)) (by decide) rfl ?_
  intro p e s m args below meth c s₁ B hml hv
  obtain ⟨rfl, hsz, hP, hK, hD0⟩ := hv
  have hx := B.exec
  have hb := B.bytes
  have hr := B.returns
  have hts0 := atoms_spec (ws := Cond.code yX0_expression cX0_expression 4 (some .boolean) :: lw_G) B.pre
  have hG : ∀ w ∈ lw_G, w.before _ s = true := fun w h => hts0 w (List.mem_cons_of_mem _ h)
  have hown : s.vm.findClass RX0 = some m.cls := findClass_of_methodNamed B.named
  have hlocks := B.notSynchronized
  subst hsz
  have hD := hD0.self (sz := s.heap.size)
  generalize hAe : va_A [(h0, .inr (0, [.ref h1, .ref h2, .ref h3, .ref h4, .ref h5, .ref h6, .ref h7, .int x0, .int x1, .int x2, .int x3, .int x4, .int x5, .int x6, .int x7, .int x8, .int x9])), (h1, .inr (10, [.ref h8, .ref h9, .ref h10, .ref h11, .ref h12, .ref h13, .int x10, .int x11, .int x12, .int x13, .int x14, .long z0])), (h9, .inl (y0, 2501, .inl f0)), (h8, .inl (y1, 2501, .inl f1)), (h10, .inl (y2, 2501, .inl f2)), (h11, .inl (y3, 2501, .inr (.inl g0))), (h6, .inr (4, [.ref h14, .ref h15, .ref h16, .int x15])), (h14, .inl (y4, 60, .inr (.inl g1))), (h15, .inl (y5, 60, .inl f3))] s.heap.size = A at hD ⊢
  have hA : ∀ q : Nat, s.heap.size ≤ q → A q := fun q h => by rw [← hAe]; exact Or.inr h
  have hS : va_S A s.heap s.heap [] := va_S.rf
  have hP : va_P (dC, dI) vwCl [(h0, .inr (0, [.ref h1, .ref h2, .ref h3, .ref h4, .ref h5, .ref h6, .ref h7, .int x0, .int x1, .int x2, .int x3, .int x4, .int x5, .int x6, .int x7, .int x8, .int x9])), (h1, .inr (10, [.ref h8, .ref h9, .ref h10, .ref h11, .ref h12, .ref h13, .int x10, .int x11, .int x12, .int x13, .int x14, .long z0])), (h9, .inl (y0, 2501, .inl f0)), (h8, .inl (y1, 2501, .inl f1)), (h10, .inl (y2, 2501, .inl f2)), (h11, .inl (y3, 2501, .inr (.inl g0))), (h6, .inr (4, [.ref h14, .ref h15, .ref h16, .int x15])), (h14, .inl (y4, 60, .inr (.inl g1))), (h15, .inl (y5, 60, .inl f3))] s.heap := hP
  have hl := lv_entry ([.ref h0]) (n := 4) (Nat.le_of_ble_eq_true rfl)
  rw [lg_entry_eq]
  generalize (lg_sl ([.ref h0]) ++ List.replicate (4 - (lg_sl ([.ref h0])).length) Slot.unset).toArray = ls at hl ⊢
  have hl : lv_has ls 4 [(0, .ref h0)] := hl
  generalize ([.ref h0] : List Value).toArray = ar at hG ⊢
  refine wq (fun Q hQ => ?_)
  refine lv_aload_n hx hb dX0_expression_0 rfl (lv_at hl 0 rfl) ?_
  refine lv_aload_n hx hb dX0_expression_1 rfl (lv_at hl 0 rfl) ?_
  refine va_get (D := (dC, dI)) (ci := 0) (v := .ref h1) (C := RX0) (T := TX0) (N := 17) hx hb hG inGX0 hown hK hP 0 rfl rfl 0 (by decide) (hG _ wd_321) (fun _ h9 => h9) rfl dX0_expression_2 ?_
  obtain ⟨hPc, hDc, hFc⟩ := nv_sub3 (wc := [(h1, .inr (10, [.ref h8, .ref h9, .ref h10, .ref h11, .ref h12, .ref h13, .int x10, .int x11, .int x12, .int x13, .int x14, .long z0])), (h9, .inl (y0, 2501, .inl f0))]) hP hD hS hA [1, 2] (by decide) rfl
  have hKc := hK.sub (tys' := [(y0, .int)]) [0] rfl
  refine va_calli (va_runV (As := []) (rest := [.ref h0]) ⟨hx, hb, hml, hown, hG⟩ (cX10_place_1 l dC dI h1 h8 h9 h10 h11 h12 h13 y0 s.heap.size x10 x11 x12 x13 x14 z0 f0 ix10 ix11 ix12) (cwV 0 hG (gV wd_572 wd_573 wd_574 wd_11 wd_575) rfl rfl rfl (by decide +kernel) ⟨Nat.le_of_ble_eq_true rfl, Nat.le_of_ble_eq_true rfl⟩) ⟨fun a U g mk q => by obtain ⟨q0, q1, qP, qK, qD⟩ := q; exact ⟨q0, q1, qP, va_K.moved (u := U) (U := U.calling g mk a) (Vm.Alike.refl U.vm) qK, qD⟩, va_recv hKc hPc (ci := 10) (q0 := 0) rfl rfl, fun U hU hW => ⟨rfl, by rw [hU], by rw [hU]; exact hPc, va_K.moved hW.alike hKc, hDc.weaken (fun _ _ _ _ => trivial)⟩⟩ rfl rfl hl.1 rfl (lv_room (Nat.le_of_ble_eq_true rfl)) dX0_expression_5 ⟨by decide, by decide⟩) hS (fun q _ h => hFc q h) hFc (fun r1 u2 t H1 locs ht hvm hw hB hz1 hk1 hS => ?_)
  obtain ⟨hP1, hK1, hD1⟩ := hB
  rw [ht] at hP1
  have hK1 := va_K.moved hvm.symm hK1
  obtain ⟨hP, hD⟩ := nv_join (wf := [(h0, .inr (0, [.ref h1, .ref h2, .ref h3, .ref h4, .ref h5, .ref h6, .ref h7, .int x0, .int x1, .int x2, .int x3, .int x4, .int x5, .int x6, .int x7, .int x8, .int x9])), (h8, .inl (y1, 2501, .inl f1)), (h10, .inl (y2, 2501, .inl f2)), (h11, .inl (y3, 2501, .inr (.inl g0))), (h6, .inr (4, [.ref h14, .ref h15, .ref h16, .int x15])), (h14, .inl (y4, 60, .inr (.inl g1))), (h15, .inl (y5, 60, .inl f3)), (h1, .inr (10, [.ref h8, .ref h9, .ref h10, .ref h11, .ref h12, .ref h13, .int x10, .int x11, .int x12, .int x13, .int x14, .long z0])), (h9, .inl (y0, 2501, .inl f0))]) hP hD [1, 2] [0, 3, 4, 5, 6, 7, 8] rfl rfl (by decide) (by decide) hk1 hFc hP1 hD1 rfl
  have hK := (hK.sub (tys' := [(y1, .int), (y2, .int), (y3, .long), (y4, .long), (y5, .int)]) [1, 2, 3, 4, 5] rfl).app hK1
  generalize H1 = H at hP hS ⊢
  have hK : va_K (dC, dI) vwCl [(y1, .int), (y2, .int), (y3, .long), (y4, .long), (y5, .int), (y0, .int)] s := hK
  refine va_put (D := (dC, dI)) (ci := 0) (v := .int r1) (ty := .int) (C := RX0) (T := TX0) (N := 17) hx hb hG inGX0 tyX0 tyX0_ok nmX0 hown hK hP hD hS 0 rfl rfl 13 (by decide) (hG _ wd_334) (fun _ h9 => h9) rfl (by decide +kernel) rfl rfl (Nat.le_of_ble_eq_true rfl) dX0_expression_8 (fun H locs hP hD hS => ?_)
  obtain ⟨hP, hD⟩ := nv_eq (ws' := [(h0, .inr (0, [.ref h1, .ref h2, .ref h3, .ref h4, .ref h5, .ref h6, .ref h7, .int x0, .int x1, .int x2, .int x3, .int x4, .int x5, .int r1, .int x7, .int x8, .int x9])), (h8, .inl (y1, 2501, .inl f1)), (h10, .inl (y2, 2501, .inl f2)), (h11, .inl (y3, 2501, .inr (.inl g0))), (h6, .inr (4, [.ref h14, .ref h15, .ref h16, .int x15])), (h14, .inl (y4, 60, .inr (.inl g1))), (h15, .inl (y5, 60, .inl f3)), (h1, .inr (10, [.ref h8, .ref h9, .ref h10, .ref h11, .ref h12, .ref h13, .int x10, .int x11, .int x12, .int x13, .int x14, .long z0])), (h9, .inl (y0, 2501, .inl f0))]) hP hD rfl
  refine lv_aload_n hx hb dX0_expression_11 rfl (lv_at hl 0 rfl) ?_
  refine lv_iconst (v := 0) hx hb dX0_expression_12 (by decide) ?_
  refine va_put (D := (dC, dI)) (ci := 0) (v := .int 0) (ty := .int) (C := RX0) (T := TX0) (N := 17) hx hb hG inGX0 tyX0 tyX0_ok nmX0 hown hK hP hD hS 0 rfl rfl 12 (by decide) (hG _ wd_333) (fun _ h9 => h9) rfl (by decide +kernel) rfl rfl (Nat.le_of_ble_eq_true rfl) dX0_expression_13 (fun H locs hP hD hS => ?_)
  obtain ⟨hP, hD⟩ := nv_eq (ws' := [(h0, .inr (0, [.ref h1, .ref h2, .ref h3, .ref h4, .ref h5, .ref h6, .ref h7, .int x0, .int x1, .int x2, .int x3, .int x4, .int 0, .int r1, .int x7, .int x8, .int x9])), (h8, .inl (y1, 2501, .inl f1)), (h10, .inl (y2, 2501, .inl f2)), (h11, .inl (y3, 2501, .inr (.inl g0))), (h6, .inr (4, [.ref h14, .ref h15, .ref h16, .int x15])), (h14, .inl (y4, 60, .inr (.inl g1))), (h15, .inl (y5, 60, .inl f3)), (h1, .inr (10, [.ref h8, .ref h9, .ref h10, .ref h11, .ref h12, .ref h13, .int x10, .int x11, .int x12, .int x13, .int x14, .long z0])), (h9, .inl (y0, 2501, .inl f0))]) hP hD rfl
  refine lv_aload_n hx hb dX0_expression_16 rfl (lv_at hl 0 rfl) ?_
  refine lv_aload_n hx hb dX0_expression_17 rfl (lv_at hl 0 rfl) ?_
  refine va_get (D := (dC, dI)) (ci := 0) (v := .ref h1) (C := RX0) (T := TX0) (N := 17) hx hb hG inGX0 hown hK hP 0 rfl rfl 0 (by decide) (hG _ wd_321) (fun _ h9 => h9) rfl dX0_expression_18 ?_
  obtain ⟨hPc, hDc, hFc⟩ := nv_sub3 (wc := [(h1, .inr (10, [.ref h8, .ref h9, .ref h10, .ref h11, .ref h12, .ref h13, .int x10, .int x11, .int x12, .int x13, .int x14, .long z0])), (h8, .inl (y1, 2501, .inl f1))]) hP hD hS hA [7, 1] (by decide) rfl
  have hKc := hK.sub (tys' := [(y1, .int)]) [0] rfl
  refine va_calli (va_runV (As := []) (rest := [.ref h0]) ⟨hx, hb, hml, hown, hG⟩ (cX10_kind_1 l dC dI h1 h8 h9 h10 h11 h12 h13 y1 H.size x10 x11 x12 x13 x14 z0 f1 ix10 ix11 ix12) (cwV 0 hG (gV wd_556 wd_557 wd_558 wd_11 wd_559) rfl rfl rfl (by decide +kernel) ⟨Nat.le_of_ble_eq_true rfl, Nat.le_of_ble_eq_true rfl⟩) ⟨fun a U g mk q => by obtain ⟨q0, q1, qP, qK, qD⟩ := q; exact ⟨q0, q1, qP, va_K.moved (u := U) (U := U.calling g mk a) (Vm.Alike.refl U.vm) qK, qD⟩, va_recv hKc hPc (ci := 10) (q0 := 0) rfl rfl, fun U hU hW => ⟨rfl, by rw [hU], by rw [hU]; exact hPc, va_K.moved hW.alike hKc, hDc.weaken (fun _ _ _ _ => trivial)⟩⟩ rfl rfl hl.1 rfl (lv_room (Nat.le_of_ble_eq_true rfl)) dX0_expression_21 ⟨by decide, by decide⟩) hS (fun q _ h => hFc q h) hFc (fun r3 u4 t H1 locs ht hvm hw hB hz1 hk1 hS => ?_)
  obtain ⟨hP1, hK1, hD1⟩ := hB
  rw [ht] at hP1
  have hK1 := va_K.moved hvm.symm hK1
  obtain ⟨hP, hD⟩ := nv_join (wf := [(h0, .inr (0, [.ref h1, .ref h2, .ref h3, .ref h4, .ref h5, .ref h6, .ref h7, .int x0, .int x1, .int x2, .int x3, .int x4, .int 0, .int r1, .int x7, .int x8, .int x9])), (h10, .inl (y2, 2501, .inl f2)), (h11, .inl (y3, 2501, .inr (.inl g0))), (h6, .inr (4, [.ref h14, .ref h15, .ref h16, .int x15])), (h14, .inl (y4, 60, .inr (.inl g1))), (h15, .inl (y5, 60, .inl f3)), (h9, .inl (y0, 2501, .inl f0)), (h1, .inr (10, [.ref h8, .ref h9, .ref h10, .ref h11, .ref h12, .ref h13, .int x10, .int x11, .int x12, .int x13, .int x14, .long z0])), (h8, .inl (y1, 2501, .inl f1))]) hP hD [7, 1] [0, 2, 3, 4, 5, 6, 8] rfl rfl (by decide) (by decide) hk1 hFc hP1 hD1 rfl
  have hK := (hK.sub (tys' := [(y2, .int), (y3, .long), (y4, .long), (y5, .int), (y0, .int)]) [1, 2, 3, 4, 5] rfl).app hK1
  generalize H1 = H at hP hS ⊢
  have hK : va_K (dC, dI) vwCl [(y2, .int), (y3, .long), (y4, .long), (y5, .int), (y0, .int), (y1, .int)] s := hK
  refine lv_iconst (v := 2) hx hb dX0_expression_24 (by decide) ?_
  refine jcut (a := ∀ (b6 : Int32) (ib6 : iv b6 0 1) (H : Heap) (locs : List Loc) (hK : va_K (dC, dI) vwCl [(y2, .int), (y3, .long), (y4, .long), (y5, .int), (y0, .int), (y1, .int)] s) (hP : va_P (dC, dI) vwCl [(h0, .inr (0, [.ref h1, .ref h2, .ref h3, .ref h4, .ref h5, .ref h6, .ref h7, .int x0, .int x1, .int x2, .int x3, .int x4, .int 0, .int r1, .int x7, .int x8, .int x9])), (h10, .inl (y2, 2501, .inl f2)), (h11, .inl (y3, 2501, .inr (.inl g0))), (h6, .inr (4, [.ref h14, .ref h15, .ref h16, .int x15])), (h14, .inl (y4, 60, .inr (.inl g1))), (h15, .inl (y5, 60, .inl f3)), (h9, .inl (y0, 2501, .inl f0)), (h1, .inr (10, [.ref h8, .ref h9, .ref h10, .ref h11, .ref h12, .ref h13, .int x10, .int x11, .int x12, .int x13, .int x14, .long z0])), (h8, .inl (y1, 2501, .inl f1))] H) (hD : va_D A [(h0, .inr (0, [.ref h1, .ref h2, .ref h3, .ref h4, .ref h5, .ref h6, .ref h7, .int x0, .int x1, .int x2, .int x3, .int x4, .int 0, .int r1, .int x7, .int x8, .int x9])), (h10, .inl (y2, 2501, .inl f2)), (h11, .inl (y3, 2501, .inr (.inl g0))), (h6, .inr (4, [.ref h14, .ref h15, .ref h16, .int x15])), (h14, .inl (y4, 60, .inr (.inl g1))), (h15, .inl (y5, 60, .inl f3)), (h9, .inl (y0, 2501, .inl f0)), (h1, .inr (10, [.ref h8, .ref h9, .ref h10, .ref h11, .ref h12, .ref h13, .int x10, .int x11, .int x12, .int x13, .int x14, .long z0])), (h8, .inl (y1, 2501, .inl f1))]) (hS : va_S A s.heap H locs) (ls : Array Slot) (hl : lv_has ls 4 [(0, .ref h0)]), W p l e (headSpec (Cond.code yX0_expression cX0_expression 4 (some .boolean) :: lw_G) ({ frames := 1, cells := 0, slots := 0, locals := 23 })).room s m ar below meth c H locs 0 0 Q (F0 m 33 ls [.int b6, .ref h0])) ?_ (fun j7 => ?_)
  · skip
    intro b6 ib6 H locs hK hP hD hS ls hl
    refine va_put (D := (dC, dI)) (ci := 0) (v := .int b6) (ty := .boolean) (C := RX0) (T := TX0) (N := 17) hx hb hG inGX0 tyX0 tyX0_ok nmX0 hown hK hP hD hS 0 rfl rfl 14 (by decide) (hG _ wd_335) (fun _ h9 => h9) rfl (by decide +kernel) (iv_z (iv_w ib6 (by decide) (by decide))).1 (iv_z (iv_w ib6 (by decide) (by decide))).2 (Nat.le_of_ble_eq_true rfl) dX0_expression_33 (fun H locs hP hD hS => ?_)
    obtain ⟨hP, hD⟩ := nv_eq (ws' := [(h0, .inr (0, [.ref h1, .ref h2, .ref h3, .ref h4, .ref h5, .ref h6, .ref h7, .int x0, .int x1, .int x2, .int x3, .int x4, .int 0, .int r1, .int b6, .int x8, .int x9])), (h10, .inl (y2, 2501, .inl f2)), (h11, .inl (y3, 2501, .inr (.inl g0))), (h6, .inr (4, [.ref h14, .ref h15, .ref h16, .int x15])), (h14, .inl (y4, 60, .inr (.inl g1))), (h15, .inl (y5, 60, .inl f3)), (h9, .inl (y0, 2501, .inl f0)), (h1, .inr (10, [.ref h8, .ref h9, .ref h10, .ref h11, .ref h12, .ref h13, .int x10, .int x11, .int x12, .int x13, .int x14, .long z0])), (h8, .inl (y1, 2501, .inl f1))]) hP hD rfl
    refine lv_aload_n hx hb dX0_expression_36 rfl (lv_at hl 0 rfl) ?_
    refine va_get (D := (dC, dI)) (ci := 0) (v := .int b6) (C := RX0) (T := TX0) (N := 17) hx hb hG inGX0 hown hK hP 0 rfl rfl 14 (by decide) (hG _ wd_335) (fun _ h9 => h9) rfl dX0_expression_37 ?_
    refine lv_if_ne (tgt := 92) hx hb dX0_expression_40 (by decide) (fun c8 => ?_) (fun c8 => ?_)
    · skip
      have j9 : iv b6 1 1 := iv_neLo ib6 (by decide : iv 0 0 0) c8 (by decide)
      refine lv_aload_n hx hb dX0_expression_92 rfl (lv_at hl 0 rfl) ?_
      refine va_get (D := (dC, dI)) (ci := 0) (v := .ref h1) (C := RX0) (T := TX0) (N := 17) hx hb hG inGX0 hown hK hP 0 rfl rfl 0 (by decide) (hG _ wd_321) (fun _ h9 => h9) rfl dX0_expression_93 ?_
      obtain ⟨hPc, hDc, hFc⟩ := nv_sub3 (wc := [(h1, .inr (10, [.ref h8, .ref h9, .ref h10, .ref h11, .ref h12, .ref h13, .int x10, .int x11, .int x12, .int x13, .int x14, .long z0])), (h8, .inl (y1, 2501, .inl f1))]) hP hD hS hA [7, 8] (by decide) rfl
      have hKc := hK.sub (tys' := [(y1, .int)]) [5] rfl
      refine va_calli (va_runV (As := []) (rest := []) ⟨hx, hb, hml, hown, hG⟩ (cX10_kind_1 l dC dI h1 h8 h9 h10 h11 h12 h13 y1 H.size x10 x11 x12 x13 x14 z0 f1 ix10 ix11 ix12) (cwV 0 hG (gV wd_556 wd_557 wd_558 wd_11 wd_559) rfl rfl rfl (by decide +kernel) ⟨Nat.le_of_ble_eq_true rfl, Nat.le_of_ble_eq_true rfl⟩) ⟨fun a U g mk q => by obtain ⟨q0, q1, qP, qK, qD⟩ := q; exact ⟨q0, q1, qP, va_K.moved (u := U) (U := U.calling g mk a) (Vm.Alike.refl U.vm) qK, qD⟩, va_recv hKc hPc (ci := 10) (q0 := 0) rfl rfl, fun U hU hW => ⟨rfl, by rw [hU], by rw [hU]; exact hPc, va_K.moved hW.alike hKc, hDc.weaken (fun _ _ _ _ => trivial)⟩⟩ rfl rfl hl.1 rfl (lv_room (Nat.le_of_ble_eq_true rfl)) dX0_expression_96 ⟨by decide, by decide⟩) hS (fun q _ h => hFc q h) hFc (fun r10 u11 t H1 locs ht hvm hw hB hz1 hk1 hS => ?_)
      obtain ⟨hP1, hK1, hD1⟩ := hB
      rw [ht] at hP1
      have hK1 := va_K.moved hvm.symm hK1
      obtain ⟨hP, hD⟩ := nv_join (wf := [(h0, .inr (0, [.ref h1, .ref h2, .ref h3, .ref h4, .ref h5, .ref h6, .ref h7, .int x0, .int x1, .int x2, .int x3, .int x4, .int 0, .int r1, .int b6, .int x8, .int x9])), (h10, .inl (y2, 2501, .inl f2)), (h11, .inl (y3, 2501, .inr (.inl g0))), (h6, .inr (4, [.ref h14, .ref h15, .ref h16, .int x15])), (h14, .inl (y4, 60, .inr (.inl g1))), (h15, .inl (y5, 60, .inl f3)), (h9, .inl (y0, 2501, .inl f0)), (h1, .inr (10, [.ref h8, .ref h9, .ref h10, .ref h11, .ref h12, .ref h13, .int x10, .int x11, .int x12, .int x13, .int x14, .long z0])), (h8, .inl (y1, 2501, .inl f1))]) hP hD [7, 8] [0, 1, 2, 3, 4, 5, 6] rfl rfl (by decide) (by decide) hk1 hFc hP1 hD1 rfl
      have hK := (hK.sub (tys' := [(y2, .int), (y3, .long), (y4, .long), (y5, .int), (y0, .int)]) [0, 1, 2, 3, 4] rfl).app hK1
      generalize H1 = H at hP hS ⊢
      have hK : va_K (dC, dI) vwCl [(y2, .int), (y3, .long), (y4, .long), (y5, .int), (y0, .int), (y1, .int)] s := hK
      refine lv_istore_n (lv' := [(1, .int r10), (0, .ref h0)]) hx hb dX0_expression_99 rfl hl (by decide) rfl (fun ls hl => ?_)
      refine lv_iload_n hx hb dX0_expression_100 rfl (lv_at hl 0 rfl) ?_
      refine lv_bipush (v := 45) hx hb dX0_expression_101 (by decide) ?_
      refine jcut (a := ∀ (b14 : Int32) (b15 : Int32) (ib14 : iv b14 0 1) (H : Heap) (locs : List Loc) (hK : va_K (dC, dI) vwCl [(y2, .int), (y3, .long), (y4, .long), (y5, .int), (y0, .int), (y1, .int)] s) (hP : va_P (dC, dI) vwCl [(h0, .inr (0, [.ref h1, .ref h2, .ref h3, .ref h4, .ref h5, .ref h6, .ref h7, .int x0, .int x1, .int x2, .int x3, .int x4, .int 0, .int r1, .int b6, .int x8, .int x9])), (h10, .inl (y2, 2501, .inl f2)), (h11, .inl (y3, 2501, .inr (.inl g0))), (h6, .inr (4, [.ref h14, .ref h15, .ref h16, .int x15])), (h14, .inl (y4, 60, .inr (.inl g1))), (h15, .inl (y5, 60, .inl f3)), (h9, .inl (y0, 2501, .inl f0)), (h1, .inr (10, [.ref h8, .ref h9, .ref h10, .ref h11, .ref h12, .ref h13, .int x10, .int x11, .int x12, .int x13, .int x14, .long z0])), (h8, .inl (y1, 2501, .inl f1))] H) (hD : va_D A [(h0, .inr (0, [.ref h1, .ref h2, .ref h3, .ref h4, .ref h5, .ref h6, .ref h7, .int x0, .int x1, .int x2, .int x3, .int x4, .int 0, .int r1, .int b6, .int x8, .int x9])), (h10, .inl (y2, 2501, .inl f2)), (h11, .inl (y3, 2501, .inr (.inl g0))), (h6, .inr (4, [.ref h14, .ref h15, .ref h16, .int x15])), (h14, .inl (y4, 60, .inr (.inl g1))), (h15, .inl (y5, 60, .inl f3)), (h9, .inl (y0, 2501, .inl f0)), (h1, .inr (10, [.ref h8, .ref h9, .ref h10, .ref h11, .ref h12, .ref h13, .int x10, .int x11, .int x12, .int x13, .int x14, .long z0])), (h8, .inl (y1, 2501, .inl f1))]) (hS : va_S A s.heap H locs) (ls : Array Slot) (hl : lv_has ls 4 [(1, .int b15), (0, .ref h0)]), W p l e (headSpec (Cond.code yX0_expression cX0_expression 4 (some .boolean) :: lw_G) ({ frames := 1, cells := 0, slots := 0, locals := 23 })).room s m ar below meth c H locs 0 0 Q (F0 m 124 ls [.int b14])) ?_ (fun j16 => ?_)
      · skip
        intro b14 b15 ib14 H locs hK hP hD hS ls hl
        refine lv_istore_n (lv' := [(2, .int b14), (1, .int b15), (0, .ref h0)]) hx hb dX0_expression_124 rfl hl (by decide) rfl (fun ls hl => ?_)
        refine lv_aload_n hx hb dX0_expression_125 rfl (lv_at hl 2 rfl) ?_
        refine va_get (D := (dC, dI)) (ci := 0) (v := .int b6) (C := RX0) (T := TX0) (N := 17) hx hb hG inGX0 hown hK hP 0 rfl rfl 14 (by decide) (hG _ wd_335) (fun _ h9 => h9) rfl dX0_expression_126 ?_
        refine lv_if_ne (tgt := 138) hx hb dX0_expression_129 (by decide) (fun _ => ?_) (fun c => absurd c c8)
        refine lv_iload_n hx hb dX0_expression_138 rfl (lv_at hl 0 rfl) ?_
        refine jcut (a := ∀ (b21 : Int32) (ib21 : iv b21 0 2500) (H : Heap) (locs : List Loc) (hK : va_K (dC, dI) vwCl [(y2, .int), (y3, .long), (y4, .long), (y5, .int), (y0, .int), (y1, .int)] s) (hP : va_P (dC, dI) vwCl [(h0, .inr (0, [.ref h1, .ref h2, .ref h3, .ref h4, .ref h5, .ref h6, .ref h7, .int x0, .int x1, .int x2, .int x3, .int x4, .int 0, .int r1, .int b6, .int x8, .int x9])), (h10, .inl (y2, 2501, .inl f2)), (h11, .inl (y3, 2501, .inr (.inl g0))), (h6, .inr (4, [.ref h14, .ref h15, .ref h16, .int x15])), (h14, .inl (y4, 60, .inr (.inl g1))), (h15, .inl (y5, 60, .inl f3)), (h9, .inl (y0, 2501, .inl f0)), (h1, .inr (10, [.ref h8, .ref h9, .ref h10, .ref h11, .ref h12, .ref h13, .int x10, .int x11, .int b21, .int x13, .int x14, .long z0])), (h8, .inl (y1, 2501, .inl f1))] H) (hD : va_D A [(h0, .inr (0, [.ref h1, .ref h2, .ref h3, .ref h4, .ref h5, .ref h6, .ref h7, .int x0, .int x1, .int x2, .int x3, .int x4, .int 0, .int r1, .int b6, .int x8, .int x9])), (h10, .inl (y2, 2501, .inl f2)), (h11, .inl (y3, 2501, .inr (.inl g0))), (h6, .inr (4, [.ref h14, .ref h15, .ref h16, .int x15])), (h14, .inl (y4, 60, .inr (.inl g1))), (h15, .inl (y5, 60, .inl f3)), (h9, .inl (y0, 2501, .inl f0)), (h1, .inr (10, [.ref h8, .ref h9, .ref h10, .ref h11, .ref h12, .ref h13, .int x10, .int x11, .int b21, .int x13, .int x14, .long z0])), (h8, .inl (y1, 2501, .inl f1))]) (hS : va_S A s.heap H locs) (ls : Array Slot) (hl : lv_has ls 4 [(1, .int b15), (0, .ref h0)]), W p l e (headSpec (Cond.code yX0_expression cX0_expression 4 (some .boolean) :: lw_G) ({ frames := 1, cells := 0, slots := 0, locals := 23 })).room s m ar below meth c H locs 0 0 Q (F0 m 149 ls [])) ?_ (fun j22 => ?_)
        · skip
          intro b21 ib21 H locs hK hP hD hS ls hl
          refine lv_aload_n hx hb dX0_expression_149 rfl (lv_at hl 1 rfl) ?_
          refine va_get (D := (dC, dI)) (ci := 0) (v := .ref h1) (C := RX0) (T := TX0) (N := 17) hx hb hG inGX0 hown hK hP 0 rfl rfl 0 (by decide) (hG _ wd_321) (fun _ h9 => h9) rfl dX0_expression_150 ?_
          obtain ⟨hPc, hDc, hFc⟩ := nv_sub3 (wc := [(h1, .inr (10, [.ref h8, .ref h9, .ref h10, .ref h11, .ref h12, .ref h13, .int x10, .int x11, .int b21, .int x13, .int x14, .long z0])), (h8, .inl (y1, 2501, .inl f1))]) hP hD hS hA [7, 8] (by decide) rfl
          have hKc := hK.sub (tys' := [(y1, .int)]) [5] rfl
          refine va_calli (va_runV (As := []) (rest := []) ⟨hx, hb, hml, hown, hG⟩ (cX10_kind_1 l dC dI h1 h8 h9 h10 h11 h12 h13 y1 H.size x10 x11 b21 x13 x14 z0 f1 ix10 ix11 ib21) (cwV 0 hG (gV wd_556 wd_557 wd_558 wd_11 wd_559) rfl rfl rfl (by decide +kernel) ⟨Nat.le_of_ble_eq_true rfl, Nat.le_of_ble_eq_true rfl⟩) ⟨fun a U g mk q => by obtain ⟨q0, q1, qP, qK, qD⟩ := q; exact ⟨q0, q1, qP, va_K.moved (u := U) (U := U.calling g mk a) (Vm.Alike.refl U.vm) qK, qD⟩, va_recv hKc hPc (ci := 10) (q0 := 0) rfl rfl, fun U hU hW => ⟨rfl, by rw [hU], by rw [hU]; exact hPc, va_K.moved hW.alike hKc, hDc.weaken (fun _ _ _ _ => trivial)⟩⟩ rfl rfl hl.1 rfl (lv_room (Nat.le_of_ble_eq_true rfl)) dX0_expression_153 ⟨by decide, by decide⟩) hS (fun q _ h => hFc q h) hFc (fun r23 u24 t H1 locs ht hvm hw hB hz1 hk1 hS => ?_)
          obtain ⟨hP1, hK1, hD1⟩ := hB
          rw [ht] at hP1
          have hK1 := va_K.moved hvm.symm hK1
          obtain ⟨hP, hD⟩ := nv_join (wf := [(h0, .inr (0, [.ref h1, .ref h2, .ref h3, .ref h4, .ref h5, .ref h6, .ref h7, .int x0, .int x1, .int x2, .int x3, .int x4, .int 0, .int r1, .int b6, .int x8, .int x9])), (h10, .inl (y2, 2501, .inl f2)), (h11, .inl (y3, 2501, .inr (.inl g0))), (h6, .inr (4, [.ref h14, .ref h15, .ref h16, .int x15])), (h14, .inl (y4, 60, .inr (.inl g1))), (h15, .inl (y5, 60, .inl f3)), (h9, .inl (y0, 2501, .inl f0)), (h1, .inr (10, [.ref h8, .ref h9, .ref h10, .ref h11, .ref h12, .ref h13, .int x10, .int x11, .int b21, .int x13, .int x14, .long z0])), (h8, .inl (y1, 2501, .inl f1))]) hP hD [7, 8] [0, 1, 2, 3, 4, 5, 6] rfl rfl (by decide) (by decide) hk1 hFc hP1 hD1 rfl
          have hK := (hK.sub (tys' := [(y2, .int), (y3, .long), (y4, .long), (y5, .int), (y0, .int)]) [0, 1, 2, 3, 4] rfl).app hK1
          generalize H1 = H at hP hS ⊢
          have hK : va_K (dC, dI) vwCl [(y2, .int), (y3, .long), (y4, .long), (y5, .int), (y0, .int), (y1, .int)] s := hK
          refine lv_iconst (v := 5) hx hb dX0_expression_156 (by decide) ?_
          refine lv_icmp_eq (tgt := 173) hx hb dX0_expression_157 (by decide) (fun c25 => ?_) (fun c25 => ?_)
          · skip
            subst c25
            refine lv_iload_n hx hb dX0_expression_173 rfl (lv_at hl 0 rfl) ?_
            refine lv_bipush (v := 45) hx hb dX0_expression_174 (by decide) ?_
            refine jcut (a := ∀ (b32 : Int32) (H : Heap) (locs : List Loc) (hK : va_K (dC, dI) vwCl [(y3, .long), (y4, .long), (y5, .int), (y0, .int), (y1, .int), (y2, .int)] s) (hP : va_P (dC, dI) vwCl [(h0, .inr (0, [.ref h1, .ref h2, .ref h3, .ref h4, .ref h5, .ref h6, .ref h7, .int x0, .int x1, .int x2, .int x3, .int x4, .int 0, .int r1, .int b6, .int x8, .int x9])), (h11, .inl (y3, 2501, .inr (.inl g0))), (h6, .inr (4, [.ref h14, .ref h15, .ref h16, .int x15])), (h14, .inl (y4, 60, .inr (.inl g1))), (h15, .inl (y5, 60, .inl f3)), (h9, .inl (y0, 2501, .inl f0)), (h8, .inl (y1, 2501, .inl f1)), (h1, .inr (10, [.ref h8, .ref h9, .ref h10, .ref h11, .ref h12, .ref h13, .int x10, .int x11, .int b21, .int x13, .int x14, .long z0])), (h10, .inl (y2, 2501, .inl f2))] H) (hD : va_D A [(h0, .inr (0, [.ref h1, .ref h2, .ref h3, .ref h4, .ref h5, .ref h6, .ref h7, .int x0, .int x1, .int x2, .int x3, .int x4, .int 0, .int r1, .int b6, .int x8, .int x9])), (h11, .inl (y3, 2501, .inr (.inl g0))), (h6, .inr (4, [.ref h14, .ref h15, .ref h16, .int x15])), (h14, .inl (y4, 60, .inr (.inl g1))), (h15, .inl (y5, 60, .inl f3)), (h9, .inl (y0, 2501, .inl f0)), (h8, .inl (y1, 2501, .inl f1)), (h1, .inr (10, [.ref h8, .ref h9, .ref h10, .ref h11, .ref h12, .ref h13, .int x10, .int x11, .int b21, .int x13, .int x14, .long z0])), (h10, .inl (y2, 2501, .inl f2))]) (hS : va_S A s.heap H locs) (ls : Array Slot) (hl : lv_has ls 4 [(0, .ref h0)]), W p l e (headSpec (Cond.code yX0_expression cX0_expression 4 (some .boolean) :: lw_G) ({ frames := 1, cells := 0, slots := 0, locals := 23 })).room s m ar below meth c H locs 0 0 Q (F0 m 197 ls [.int b32])) ?_ (fun j33 => ?_)
            · skip
              intro b32 H locs hK hP hD hS ls hl
              refine lv_istore_n (lv' := [(3, .int b32), (0, .ref h0)]) hx hb dX0_expression_197 rfl hl (by decide) rfl (fun ls hl => ?_)
              refine lv_aload_n hx hb dX0_expression_198 rfl (lv_at hl 1 rfl) ?_
              refine va_get (D := (dC, dI)) (ci := 0) (v := .ref h1) (C := RX0) (T := TX0) (N := 17) hx hb hG inGX0 hown hK hP 0 rfl rfl 0 (by decide) (hG _ wd_321) (fun _ h9 => h9) rfl dX0_expression_199 ?_
              obtain ⟨hPc, hDc, hFc⟩ := nv_sub3 (wc := [(h1, .inr (10, [.ref h8, .ref h9, .ref h10, .ref h11, .ref h12, .ref h13, .int x10, .int x11, .int b21, .int x13, .int x14, .long z0])), (h10, .inl (y2, 2501, .inl f2))]) hP hD hS hA [7, 8] (by decide) rfl
              have hKc := hK.sub (tys' := [(y2, .int)]) [5] rfl
              refine va_calli (va_runV (As := []) (rest := []) ⟨hx, hb, hml, hown, hG⟩ (cX10_value_1 l dC dI h1 h8 h9 h10 h11 h12 h13 y2 H.size x10 x11 b21 x13 x14 z0 f2 ix10 ix11 ib21) (cwV 0 hG (gV wd_584 wd_585 wd_586 wd_11 wd_587) rfl rfl rfl (by decide +kernel) ⟨Nat.le_of_ble_eq_true rfl, Nat.le_of_ble_eq_true rfl⟩) ⟨fun a U g mk q => by obtain ⟨q0, q1, qP, qK, qD⟩ := q; exact ⟨q0, q1, qP, va_K.moved (u := U) (U := U.calling g mk a) (Vm.Alike.refl U.vm) qK, qD⟩, va_recv hKc hPc (ci := 10) (q0 := 0) rfl rfl, fun U hU hW => ⟨rfl, by rw [hU], by rw [hU]; exact hPc, va_K.moved hW.alike hKc, hDc.weaken (fun _ _ _ _ => trivial)⟩⟩ rfl rfl hl.1 rfl (lv_room (Nat.le_of_ble_eq_true rfl)) dX0_expression_202 ⟨by decide, by decide⟩) hS (fun q _ h => hFc q h) hFc (fun r34 u35 t H1 locs ht hvm hw hB hz1 hk1 hS => ?_)
              obtain ⟨hP1, hK1, hD1⟩ := hB
              rw [ht] at hP1
              have hK1 := va_K.moved hvm.symm hK1
              obtain ⟨hP, hD⟩ := nv_join (wf := [(h0, .inr (0, [.ref h1, .ref h2, .ref h3, .ref h4, .ref h5, .ref h6, .ref h7, .int x0, .int x1, .int x2, .int x3, .int x4, .int 0, .int r1, .int b6, .int x8, .int x9])), (h11, .inl (y3, 2501, .inr (.inl g0))), (h6, .inr (4, [.ref h14, .ref h15, .ref h16, .int x15])), (h14, .inl (y4, 60, .inr (.inl g1))), (h15, .inl (y5, 60, .inl f3)), (h9, .inl (y0, 2501, .inl f0)), (h8, .inl (y1, 2501, .inl f1)), (h1, .inr (10, [.ref h8, .ref h9, .ref h10, .ref h11, .ref h12, .ref h13, .int x10, .int x11, .int b21, .int x13, .int x14, .long z0])), (h10, .inl (y2, 2501, .inl f2))]) hP hD [7, 8] [0, 1, 2, 3, 4, 5, 6] rfl rfl (by decide) (by decide) hk1 hFc hP1 hD1 rfl
              have hK := (hK.sub (tys' := [(y3, .long), (y4, .long), (y5, .int), (y0, .int), (y1, .int)]) [0, 1, 2, 3, 4] rfl).app hK1
              generalize H1 = H at hP hS ⊢
              have hK : va_K (dC, dI) vwCl [(y3, .long), (y4, .long), (y5, .int), (y0, .int), (y1, .int), (y2, .int)] s := hK
              refine lv_ldc hx hb hown (hG _ wd_597) dX0_expression_205 ?_
              refine lv_icmp_gt (tgt := 224) hx hb dX0_expression_207 (by decide) (fun c36 => ?_) (fun c36 => ?_)
              · skip
                have j37 : iv r34 65536 2147483647 := iv_ltR (by decide : iv 65535 65535 65535) (iv_any r34) c36 (by decide)
                refine lv_aload_n hx hb dX0_expression_224 rfl (lv_at hl 1 rfl) ?_
                refine lv_iconst (v := 2) hx hb dX0_expression_225 (by decide) ?_
                refine lv_aload_n hx hb dX0_expression_226 rfl (lv_at hl 1 rfl) ?_
                refine va_get (D := (dC, dI)) (ci := 0) (v := .int r1) (C := RX0) (T := TX0) (N := 17) hx hb hG inGX0 hown hK hP 0 rfl rfl 13 (by decide) (hG _ wd_334) (fun _ h9 => h9) rfl dX0_expression_227 ?_
                obtain ⟨hPc, hDc, hFc⟩ := nv_sub3 (wc := [(h0, .inr (0, [.ref h1, .ref h2, .ref h3, .ref h4, .ref h5, .ref h6, .ref h7, .int x0, .int x1, .int x2, .int x3, .int x4, .int 0, .int r1, .int b6, .int x8, .int x9]))]) hP hD hS hA [0] (by decide) rfl
                have hKc := hK.sub (tys' := []) [] rfl
                refine va_calli (va_runV (As := [.int 2, .int r1]) (rest := []) ⟨hx, hb, hml, hown, hG⟩ (cX0_fail_1 l dC dI h0 h1 h2 h3 h4 h5 h6 h7 H.size 2 r1 x0 x1 x2 x3 x4 0 r1 b6 x8 x9 ix0 ix1 (iv_w j9 (by decide) (by decide))) (cwV 2 hG (gV wd_437 wd_439 wp_1 wd_8 wd_440) rfl rfl rfl (by decide +kernel) ⟨Nat.le_of_ble_eq_true rfl, Nat.le_of_ble_eq_true rfl⟩) ⟨fun a U g mk q => by obtain ⟨q0, q1, qP, qK, qD⟩ := q; exact ⟨q0, q1, qP, va_K.moved (u := U) (U := U.calling g mk a) (Vm.Alike.refl U.vm) qK, qD⟩, va_recv hKc hPc (ci := 0) (q0 := 0) rfl rfl, fun U hU hW => ⟨rfl, by rw [hU], by rw [hU]; exact hPc, va_K.moved hW.alike hKc, hDc.weaken (fun _ _ _ _ => trivial)⟩⟩ rfl rfl hl.1 rfl (lv_room (Nat.le_of_ble_eq_true rfl)) dX0_expression_230 ⟨by decide, by decide⟩) hS (fun q _ h => hFc q h) hFc (fun r38 u39 t H1 locs ht hvm hw hB hz1 hk1 hS => ?_)
                have hw : r38 = 0 ∧ True := hw
                obtain ⟨er38, -⟩ := hw
                obtain ⟨hP1, hK1, hD1⟩ := hB
                rw [ht] at hP1
                have hK1 := va_K.moved hvm.symm hK1
                obtain ⟨hP, hD⟩ := nv_join (wf := [(h11, .inl (y3, 2501, .inr (.inl g0))), (h6, .inr (4, [.ref h14, .ref h15, .ref h16, .int x15])), (h14, .inl (y4, 60, .inr (.inl g1))), (h15, .inl (y5, 60, .inl f3)), (h9, .inl (y0, 2501, .inl f0)), (h8, .inl (y1, 2501, .inl f1)), (h1, .inr (10, [.ref h8, .ref h9, .ref h10, .ref h11, .ref h12, .ref h13, .int x10, .int x11, .int b21, .int x13, .int x14, .long z0])), (h10, .inl (y2, 2501, .inl f2)), (h0, .inr (0, [.ref h1, .ref h2, .ref h3, .ref h4, .ref h5, .ref h6, .ref h7, .int x0, .int x1, .int x2, .int x3, .int x4, .int 0, .int r1, .int b6, .int 2, .int r1]))]) hP hD [0] [1, 2, 3, 4, 5, 6, 7, 8] rfl rfl (by decide) (by decide) hk1 hFc hP1 hD1 rfl
                have hK := (hK.sub (tys' := [(y3, .long), (y4, .long), (y5, .int), (y0, .int), (y1, .int), (y2, .int)]) [0, 1, 2, 3, 4, 5] rfl).app hK1
                generalize H1 = H at hP hS ⊢
                have hK : va_K (dC, dI) vwCl [(y3, .long), (y4, .long), (y5, .int), (y0, .int), (y1, .int), (y2, .int)] s := hK
                subst er38
                rw [hQ]
                obtain ⟨hP9, hD9⟩ := nv_sub2 (wc := [(h0, .inr (0, [.ref h1, .ref h2, .ref h3, .ref h4, .ref h5, .ref h6, .ref h7, .int x0, .int x1, .int x2, .int x3, .int x4, .int 0, .int r1, .int b6, .int 2, .int r1])), (h1, .inr (10, [.ref h8, .ref h9, .ref h10, .ref h11, .ref h12, .ref h13, .int x10, .int x11, .int b21, .int x13, .int x14, .long z0])), (h9, .inl (y0, 2501, .inl f0)), (h8, .inl (y1, 2501, .inl f1)), (h10, .inl (y2, 2501, .inl f2)), (h11, .inl (y3, 2501, .inr (.inl g0))), (h6, .inr (4, [.ref h14, .ref h15, .ref h16, .int x15])), (h14, .inl (y4, 60, .inr (.inl g1))), (h15, .inl (y5, 60, .inl f3))]) hP hD [8, 6, 4, 5, 7, 0, 1, 2, 3] (by decide) rfl
                have hK9 := hK.sub (tys' := [(y0, .int), (y1, .int), (y2, .int), (y3, .long), (y4, .long), (y5, .int)]) [3, 4, 5, 0, 1, 2] rfl
                exact W.zret (v := 0) hx hb hr rfl (fun t ht hW => ⟨⟨0, (x1, 0, r1, b6, 2, r1, b21), rfl, ⟨iv_w (by decide : iv 0 0 0) (by decide) (by decide), iv_w ix1 (by decide) (by decide), iv_w j9 (by decide) (by decide), iv_w ib21 (by decide) (by decide), trivial⟩, by rw [ht]; exact hP9, va_K.moved hW.alike hK9, hD9⟩, hS.F ht⟩) hS.2.2 dX0_expression_233
              · skip
                have j40 : iv r34 (-2147483648) 65535 := iv_nltR (by decide : iv 65535 65535 65535) (iv_any r34) c36 (by decide)
                refine lv_aload_n hx hb dX0_expression_210 rfl (lv_at hl 1 rfl) ?_
                refine va_get (D := (dC, dI)) (ci := 0) (v := .int b6) (C := RX0) (T := TX0) (N := 17) hx hb hG inGX0 hown hK hP 0 rfl rfl 14 (by decide) (hG _ wd_335) (fun _ h9 => h9) rfl dX0_expression_211 ?_
                refine lv_if_eq (tgt := 234) hx hb dX0_expression_214 (by decide) (fun c => absurd c c8) (fun _ => ?_)
                refine lv_iload_n hx hb dX0_expression_217 rfl (lv_at hl 0 rfl) ?_
                refine lv_sipush (v := (-32768)) hx hb dX0_expression_218 (by decide) ?_
                refine lv_icmp_ge (tgt := 234) hx hb dX0_expression_221 (by decide) (fun c41 => ?_) (fun c41 => ?_)
                · skip
                  have j42 : iv b32 (-32768) 2147483647 := iv_leR (by decide : iv (-32768) (-32768) (-32768)) (iv_any b32) c41 (by decide)
                  refine lv_aload_n hx hb dX0_expression_234 rfl (lv_at hl 1 rfl) ?_
                  refine lv_dup hx hb dX0_expression_235 rfl ?_
                  refine va_get (D := (dC, dI)) (ci := 0) (v := .int 0) (C := RX0) (T := TX0) (N := 17) hx hb hG inGX0 hown hK hP 0 rfl rfl 12 (by decide) (hG _ wd_333) (fun _ h9 => h9) rfl dX0_expression_236 ?_
                  refine lv_iload_n hx hb dX0_expression_239 rfl (lv_at hl 0 rfl) ?_
                  refine lv_iadd hx hb dX0_expression_240 ?_
                  refine lv_val (y := b32) (z0_iadd _) ?_
                  refine va_put (D := (dC, dI)) (ci := 0) (v := .int b32) (ty := .int) (C := RX0) (T := TX0) (N := 17) hx hb hG inGX0 tyX0 tyX0_ok nmX0 hown hK hP hD hS 0 rfl rfl 12 (by decide) (hG _ wd_333) (fun _ h9 => h9) rfl (by decide +kernel) rfl rfl (Nat.le_of_ble_eq_true rfl) dX0_expression_241 (fun H locs hP hD hS => ?_)
                  obtain ⟨hP, hD⟩ := nv_eq (ws' := [(h0, .inr (0, [.ref h1, .ref h2, .ref h3, .ref h4, .ref h5, .ref h6, .ref h7, .int x0, .int x1, .int x2, .int x3, .int x4, .int b32, .int r1, .int b6, .int x8, .int x9])), (h11, .inl (y3, 2501, .inr (.inl g0))), (h6, .inr (4, [.ref h14, .ref h15, .ref h16, .int x15])), (h14, .inl (y4, 60, .inr (.inl g1))), (h15, .inl (y5, 60, .inl f3)), (h9, .inl (y0, 2501, .inl f0)), (h8, .inl (y1, 2501, .inl f1)), (h1, .inr (10, [.ref h8, .ref h9, .ref h10, .ref h11, .ref h12, .ref h13, .int x10, .int x11, .int b21, .int x13, .int x14, .long z0])), (h10, .inl (y2, 2501, .inl f2))]) hP hD rfl
                  refine lv_aload_n hx hb dX0_expression_244 rfl (lv_at hl 1 rfl) ?_
                  refine va_get (D := (dC, dI)) (ci := 0) (v := .ref h1) (C := RX0) (T := TX0) (N := 17) hx hb hG inGX0 hown hK hP 0 rfl rfl 0 (by decide) (hG _ wd_321) (fun _ h9 => h9) rfl dX0_expression_245 ?_
                  obtain ⟨hPc, hDc, hFc⟩ := nv_sub3 (wc := [(h1, .inr (10, [.ref h8, .ref h9, .ref h10, .ref h11, .ref h12, .ref h13, .int x10, .int x11, .int b21, .int x13, .int x14, .long z0]))]) hP hD hS hA [7] (by decide) rfl
                  have hKc := hK.sub (tys' := []) [] rfl
                  refine va_callv (va_runV (As := []) (rest := []) ⟨hx, hb, hml, hown, hG⟩ (cX10_skip_1 l dC dI h1 h8 h9 h10 h11 h12 h13 H.size x10 x11 b21 x13 x14 z0 ix10 ix11 ib21) (cwV 0 hG (gV wd_576 wd_577 wd_578 wd_11 wd_579) rfl rfl rfl (by decide +kernel) ⟨Nat.le_of_ble_eq_true rfl, Nat.le_of_ble_eq_true rfl⟩) ⟨fun a U g mk q => by obtain ⟨q0, q1, qP, qK, qD⟩ := q; exact ⟨q0, q1, qP, va_K.moved (u := U) (U := U.calling g mk a) (Vm.Alike.refl U.vm) qK, qD⟩, va_recv hKc hPc (ci := 10) (q0 := 0) rfl rfl, fun U hU hW => ⟨rfl, by rw [hU], by rw [hU]; exact hPc, va_K.moved hW.alike hKc, hDc.weaken (fun _ _ _ _ => trivial)⟩⟩ rfl rfl hl.1 rfl (lv_room (Nat.le_of_ble_eq_true rfl)) dX0_expression_248 ⟨by decide, by decide⟩) hS (fun q _ h => hFc q h) hFc (fun u44 t H1 locs ht hvm hw hB hz1 hk1 hS => ?_)
                  obtain ⟨u44_0, rfl⟩ : ∃ z, z = u44 := ⟨_, rfl⟩
                  have hw : iv u44_0 0 2500 ∧ True := hw
                  obtain ⟨iu44_0, -⟩ := hw
                  obtain ⟨hP1, hK1, hD1⟩ := hB
                  rw [ht] at hP1
                  have hK1 := va_K.moved hvm.symm hK1
                  obtain ⟨hP, hD⟩ := nv_join (wf := [(h0, .inr (0, [.ref h1, .ref h2, .ref h3, .ref h4, .ref h5, .ref h6, .ref h7, .int x0, .int x1, .int x2, .int x3, .int x4, .int b32, .int r1, .int b6, .int x8, .int x9])), (h11, .inl (y3, 2501, .inr (.inl g0))), (h6, .inr (4, [.ref h14, .ref h15, .ref h16, .int x15])), (h14, .inl (y4, 60, .inr (.inl g1))), (h15, .inl (y5, 60, .inl f3)), (h9, .inl (y0, 2501, .inl f0)), (h8, .inl (y1, 2501, .inl f1)), (h10, .inl (y2, 2501, .inl f2)), (h1, .inr (10, [.ref h8, .ref h9, .ref h10, .ref h11, .ref h12, .ref h13, .int x10, .int x11, .int u44_0, .int x13, .int x14, .long z0]))]) hP hD [7] [0, 1, 2, 3, 4, 5, 6, 8] rfl rfl (by decide) (by decide) hk1 hFc hP1 hD1 rfl
                  have hK := (hK.sub (tys' := [(y3, .long), (y4, .long), (y5, .int), (y0, .int), (y1, .int), (y2, .int)]) [0, 1, 2, 3, 4, 5] rfl).app hK1
                  generalize H1 = H at hP hS ⊢
                  have hK : va_K (dC, dI) vwCl [(y3, .long), (y4, .long), (y5, .int), (y0, .int), (y1, .int), (y2, .int)] s := hK
                  refine lv_iconst (v := 1) hx hb dX0_expression_251 (by decide) ?_
                  rw [hQ]
                  obtain ⟨hP9, hD9⟩ := nv_sub2 (wc := [(h0, .inr (0, [.ref h1, .ref h2, .ref h3, .ref h4, .ref h5, .ref h6, .ref h7, .int x0, .int x1, .int x2, .int x3, .int x4, .int b32, .int r1, .int b6, .int x8, .int x9])), (h1, .inr (10, [.ref h8, .ref h9, .ref h10, .ref h11, .ref h12, .ref h13, .int x10, .int x11, .int u44_0, .int x13, .int x14, .long z0])), (h9, .inl (y0, 2501, .inl f0)), (h8, .inl (y1, 2501, .inl f1)), (h10, .inl (y2, 2501, .inl f2)), (h11, .inl (y3, 2501, .inr (.inl g0))), (h6, .inr (4, [.ref h14, .ref h15, .ref h16, .int x15])), (h14, .inl (y4, 60, .inr (.inl g1))), (h15, .inl (y5, 60, .inl f3))]) hP hD [0, 8, 5, 6, 7, 1, 2, 3, 4] (by decide) rfl
                  have hK9 := hK.sub (tys' := [(y0, .int), (y1, .int), (y2, .int), (y3, .long), (y4, .long), (y5, .int)]) [3, 4, 5, 0, 1, 2] rfl
                  exact W.zret (v := 1) hx hb hr rfl (fun t ht hW => ⟨⟨1, (x1, b32, r1, b6, x8, x9, u44_0), rfl, ⟨iv_w (by decide : iv 1 1 1) (by decide) (by decide), iv_w ix1 (by decide) (by decide), iv_w j9 (by decide) (by decide), iv_w iu44_0 (by decide) (by decide), trivial⟩, by rw [ht]; exact hP9, va_K.moved hW.alike hK9, hD9⟩, hS.F ht⟩) hS.2.2 dX0_expression_252
                · skip
                  have j45 : iv b32 (-2147483648) (-32769) := iv_nleR (by decide : iv (-32768) (-32768) (-32768)) (iv_any b32) c41 (by decide)
                  refine lv_aload_n hx hb dX0_expression_224 rfl (lv_at hl 1 rfl) ?_
                  refine lv_iconst (v := 2) hx hb dX0_expression_225 (by decide) ?_
                  refine lv_aload_n hx hb dX0_expression_226 rfl (lv_at hl 1 rfl) ?_
                  refine va_get (D := (dC, dI)) (ci := 0) (v := .int r1) (C := RX0) (T := TX0) (N := 17) hx hb hG inGX0 hown hK hP 0 rfl rfl 13 (by decide) (hG _ wd_334) (fun _ h9 => h9) rfl dX0_expression_227 ?_
                  obtain ⟨hPc, hDc, hFc⟩ := nv_sub3 (wc := [(h0, .inr (0, [.ref h1, .ref h2, .ref h3, .ref h4, .ref h5, .ref h6, .ref h7, .int x0, .int x1, .int x2, .int x3, .int x4, .int 0, .int r1, .int b6, .int x8, .int x9]))]) hP hD hS hA [0] (by decide) rfl
                  have hKc := hK.sub (tys' := []) [] rfl
                  refine va_calli (va_runV (As := [.int 2, .int r1]) (rest := []) ⟨hx, hb, hml, hown, hG⟩ (cX0_fail_1 l dC dI h0 h1 h2 h3 h4 h5 h6 h7 H.size 2 r1 x0 x1 x2 x3 x4 0 r1 b6 x8 x9 ix0 ix1 (iv_w j9 (by decide) (by decide))) (cwV 2 hG (gV wd_437 wd_439 wp_1 wd_8 wd_440) rfl rfl rfl (by decide +kernel) ⟨Nat.le_of_ble_eq_true rfl, Nat.le_of_ble_eq_true rfl⟩) ⟨fun a U g mk q => by obtain ⟨q0, q1, qP, qK, qD⟩ := q; exact ⟨q0, q1, qP, va_K.moved (u := U) (U := U.calling g mk a) (Vm.Alike.refl U.vm) qK, qD⟩, va_recv hKc hPc (ci := 0) (q0 := 0) rfl rfl, fun U hU hW => ⟨rfl, by rw [hU], by rw [hU]; exact hPc, va_K.moved hW.alike hKc, hDc.weaken (fun _ _ _ _ => trivial)⟩⟩ rfl rfl hl.1 rfl (lv_room (Nat.le_of_ble_eq_true rfl)) dX0_expression_230 ⟨by decide, by decide⟩) hS (fun q _ h => hFc q h) hFc (fun r46 u47 t H1 locs ht hvm hw hB hz1 hk1 hS => ?_)
                  have hw : r46 = 0 ∧ True := hw
                  obtain ⟨er46, -⟩ := hw
                  obtain ⟨hP1, hK1, hD1⟩ := hB
                  rw [ht] at hP1
                  have hK1 := va_K.moved hvm.symm hK1
                  obtain ⟨hP, hD⟩ := nv_join (wf := [(h11, .inl (y3, 2501, .inr (.inl g0))), (h6, .inr (4, [.ref h14, .ref h15, .ref h16, .int x15])), (h14, .inl (y4, 60, .inr (.inl g1))), (h15, .inl (y5, 60, .inl f3)), (h9, .inl (y0, 2501, .inl f0)), (h8, .inl (y1, 2501, .inl f1)), (h1, .inr (10, [.ref h8, .ref h9, .ref h10, .ref h11, .ref h12, .ref h13, .int x10, .int x11, .int b21, .int x13, .int x14, .long z0])), (h10, .inl (y2, 2501, .inl f2)), (h0, .inr (0, [.ref h1, .ref h2, .ref h3, .ref h4, .ref h5, .ref h6, .ref h7, .int x0, .int x1, .int x2, .int x3, .int x4, .int 0, .int r1, .int b6, .int 2, .int r1]))]) hP hD [0] [1, 2, 3, 4, 5, 6, 7, 8] rfl rfl (by decide) (by decide) hk1 hFc hP1 hD1 rfl
                  have hK := (hK.sub (tys' := [(y3, .long), (y4, .long), (y5, .int), (y0, .int), (y1, .int), (y2, .int)]) [0, 1, 2, 3, 4, 5] rfl).app hK1
                  generalize H1 = H at hP hS ⊢
                  have hK : va_K (dC, dI) vwCl [(y3, .long), (y4, .long), (y5, .int), (y0, .int), (y1, .int), (y2, .int)] s := hK
                  subst er46
                  rw [hQ]
                  obtain ⟨hP9, hD9⟩ := nv_sub2 (wc := [(h0, .inr (0, [.ref h1, .ref h2, .ref h3, .ref h4, .ref h5, .ref h6, .ref h7, .int x0, .int x1, .int x2, .int x3, .int x4, .int 0, .int r1, .int b6, .int 2, .int r1])), (h1, .inr (10, [.ref h8, .ref h9, .ref h10, .ref h11, .ref h12, .ref h13, .int x10, .int x11, .int b21, .int x13, .int x14, .long z0])), (h9, .inl (y0, 2501, .inl f0)), (h8, .inl (y1, 2501, .inl f1)), (h10, .inl (y2, 2501, .inl f2)), (h11, .inl (y3, 2501, .inr (.inl g0))), (h6, .inr (4, [.ref h14, .ref h15, .ref h16, .int x15])), (h14, .inl (y4, 60, .inr (.inl g1))), (h15, .inl (y5, 60, .inl f3))]) hP hD [8, 6, 4, 5, 7, 0, 1, 2, 3] (by decide) rfl
                  have hK9 := hK.sub (tys' := [(y0, .int), (y1, .int), (y2, .int), (y3, .long), (y4, .long), (y5, .int)]) [3, 4, 5, 0, 1, 2] rfl
                  exact W.zret (v := 0) hx hb hr rfl (fun t ht hW => ⟨⟨0, (x1, 0, r1, b6, 2, r1, b21), rfl, ⟨iv_w (by decide : iv 0 0 0) (by decide) (by decide), iv_w ix1 (by decide) (by decide), iv_w j9 (by decide) (by decide), iv_w ib21 (by decide) (by decide), trivial⟩, by rw [ht]; exact hP9, va_K.moved hW.alike hK9, hD9⟩, hS.F ht⟩) hS.2.2 dX0_expression_233
            refine lv_icmp_ne (tgt := 190) hx hb dX0_expression_176 (by decide) (fun c26 => ?_) (fun c26 => ?_)
            · skip
              refine lv_aload_n hx hb dX0_expression_190 rfl (lv_at hl 1 rfl) ?_
              refine va_get (D := (dC, dI)) (ci := 0) (v := .ref h1) (C := RX0) (T := TX0) (N := 17) hx hb hG inGX0 hown hK hP 0 rfl rfl 0 (by decide) (hG _ wd_321) (fun _ h9 => h9) rfl dX0_expression_191 ?_
              obtain ⟨hPc, hDc, hFc⟩ := nv_sub3 (wc := [(h1, .inr (10, [.ref h8, .ref h9, .ref h10, .ref h11, .ref h12, .ref h13, .int x10, .int x11, .int b21, .int x13, .int x14, .long z0])), (h10, .inl (y2, 2501, .inl f2))]) hP hD hS hA [7, 1] (by decide) rfl
              have hKc := hK.sub (tys' := [(y2, .int)]) [0] rfl
              refine va_calli (va_runV (As := []) (rest := []) ⟨hx, hb, hml, hown, hG⟩ (cX10_value_1 l dC dI h1 h8 h9 h10 h11 h12 h13 y2 H.size x10 x11 b21 x13 x14 z0 f2 ix10 ix11 ib21) (cwV 0 hG (gV wd_584 wd_585 wd_586 wd_11 wd_587) rfl rfl rfl (by decide +kernel) ⟨Nat.le_of_ble_eq_true rfl, Nat.le_of_ble_eq_true rfl⟩) ⟨fun a U g mk q => by obtain ⟨q0, q1, qP, qK, qD⟩ := q; exact ⟨q0, q1, qP, va_K.moved (u := U) (U := U.calling g mk a) (Vm.Alike.refl U.vm) qK, qD⟩, va_recv hKc hPc (ci := 10) (q0 := 0) rfl rfl, fun U hU hW => ⟨rfl, by rw [hU], by rw [hU]; exact hPc, va_K.moved hW.alike hKc, hDc.weaken (fun _ _ _ _ => trivial)⟩⟩ rfl rfl hl.1 rfl (lv_room (Nat.le_of_ble_eq_true rfl)) dX0_expression_194 ⟨by decide, by decide⟩) hS (fun q _ h => hFc q h) hFc (fun r48 u49 t H1 locs ht hvm hw hB hz1 hk1 hS => ?_)
              obtain ⟨hP1, hK1, hD1⟩ := hB
              rw [ht] at hP1
              have hK1 := va_K.moved hvm.symm hK1
              obtain ⟨hP, hD⟩ := nv_join (wf := [(h0, .inr (0, [.ref h1, .ref h2, .ref h3, .ref h4, .ref h5, .ref h6, .ref h7, .int x0, .int x1, .int x2, .int x3, .int x4, .int 0, .int r1, .int b6, .int x8, .int x9])), (h11, .inl (y3, 2501, .inr (.inl g0))), (h6, .inr (4, [.ref h14, .ref h15, .ref h16, .int x15])), (h14, .inl (y4, 60, .inr (.inl g1))), (h15, .inl (y5, 60, .inl f3)), (h9, .inl (y0, 2501, .inl f0)), (h8, .inl (y1, 2501, .inl f1)), (h1, .inr (10, [.ref h8, .ref h9, .ref h10, .ref h11, .ref h12, .ref h13, .int x10, .int x11, .int b21, .int x13, .int x14, .long z0])), (h10, .inl (y2, 2501, .inl f2))]) hP hD [7, 1] [0, 2, 3, 4, 5, 6, 8] rfl rfl (by decide) (by decide) hk1 hFc hP1 hD1 rfl
              have hK := (hK.sub (tys' := [(y3, .long), (y4, .long), (y5, .int), (y0, .int), (y1, .int)]) [1, 2, 3, 4, 5] rfl).app hK1
              generalize H1 = H at hP hS ⊢
              have hK : va_K (dC, dI) vwCl [(y3, .long), (y4, .long), (y5, .int), (y0, .int), (y1, .int), (y2, .int)] s := hK
              exact j33 r48 _ _ hK hP hD hS ls (lv_sub hl [1] rfl)
            · skip
              subst c26
              refine lv_aload_n hx hb dX0_expression_179 rfl (lv_at hl 1 rfl) ?_
              refine va_get (D := (dC, dI)) (ci := 0) (v := .ref h1) (C := RX0) (T := TX0) (N := 17) hx hb hG inGX0 hown hK hP 0 rfl rfl 0 (by decide) (hG _ wd_321) (fun _ h9 => h9) rfl dX0_expression_180 ?_
              obtain ⟨hPc, hDc, hFc⟩ := nv_sub3 (wc := [(h1, .inr (10, [.ref h8, .ref h9, .ref h10, .ref h11, .ref h12, .ref h13, .int x10, .int x11, .int b21, .int x13, .int x14, .long z0])), (h10, .inl (y2, 2501, .inl f2))]) hP hD hS hA [7, 1] (by decide) rfl
              have hKc := hK.sub (tys' := [(y2, .int)]) [0] rfl
              refine va_calli (va_runV (As := []) (rest := []) ⟨hx, hb, hml, hown, hG⟩ (cX10_value_1 l dC dI h1 h8 h9 h10 h11 h12 h13 y2 H.size x10 x11 b21 x13 x14 z0 f2 ix10 ix11 ib21) (cwV 0 hG (gV wd_584 wd_585 wd_586 wd_11 wd_587) rfl rfl rfl (by decide +kernel) ⟨Nat.le_of_ble_eq_true rfl, Nat.le_of_ble_eq_true rfl⟩) ⟨fun a U g mk q => by obtain ⟨q0, q1, qP, qK, qD⟩ := q; exact ⟨q0, q1, qP, va_K.moved (u := U) (U := U.calling g mk a) (Vm.Alike.refl U.vm) qK, qD⟩, va_recv hKc hPc (ci := 10) (q0 := 0) rfl rfl, fun U hU hW => ⟨rfl, by rw [hU], by rw [hU]; exact hPc, va_K.moved hW.alike hKc, hDc.weaken (fun _ _ _ _ => trivial)⟩⟩ rfl rfl hl.1 rfl (lv_room (Nat.le_of_ble_eq_true rfl)) dX0_expression_183 ⟨by decide, by decide⟩) hS (fun q _ h => hFc q h) hFc (fun r50 u51 t H1 locs ht hvm hw hB hz1 hk1 hS => ?_)
              obtain ⟨hP1, hK1, hD1⟩ := hB
              rw [ht] at hP1
              have hK1 := va_K.moved hvm.symm hK1
              obtain ⟨hP, hD⟩ := nv_join (wf := [(h0, .inr (0, [.ref h1, .ref h2, .ref h3, .ref h4, .ref h5, .ref h6, .ref h7, .int x0, .int x1, .int x2, .int x3, .int x4, .int 0, .int r1, .int b6, .int x8, .int x9])), (h11, .inl (y3, 2501, .inr (.inl g0))), (h6, .inr (4, [.ref h14, .ref h15, .ref h16, .int x15])), (h14, .inl (y4, 60, .inr (.inl g1))), (h15, .inl (y5, 60, .inl f3)), (h9, .inl (y0, 2501, .inl f0)), (h8, .inl (y1, 2501, .inl f1)), (h1, .inr (10, [.ref h8, .ref h9, .ref h10, .ref h11, .ref h12, .ref h13, .int x10, .int x11, .int b21, .int x13, .int x14, .long z0])), (h10, .inl (y2, 2501, .inl f2))]) hP hD [7, 1] [0, 2, 3, 4, 5, 6, 8] rfl rfl (by decide) (by decide) hk1 hFc hP1 hD1 rfl
              have hK := (hK.sub (tys' := [(y3, .long), (y4, .long), (y5, .int), (y0, .int), (y1, .int)]) [1, 2, 3, 4, 5] rfl).app hK1
              generalize H1 = H at hP hS ⊢
              have hK : va_K (dC, dI) vwCl [(y3, .long), (y4, .long), (y5, .int), (y0, .int), (y1, .int), (y2, .int)] s := hK
              refine lv_ineg hx hb dX0_expression_186 ?_
              refine lv_topi (fun v52 ev52 => ?_)
              refine lv_goto (tgt := 197) hx hb dX0_expression_187 (by decide) ?_
              exact j33 v52 _ _ hK hP hD hS ls (lv_sub hl [1] rfl)
          · skip
            refine lv_aload_n hx hb dX0_expression_160 rfl (lv_at hl 1 rfl) ?_
            refine lv_iconst (v := 1) hx hb dX0_expression_161 (by decide) ?_
            refine lv_aload_n hx hb dX0_expression_162 rfl (lv_at hl 1 rfl) ?_
            refine va_get (D := (dC, dI)) (ci := 0) (v := .ref h1) (C := RX0) (T := TX0) (N := 17) hx hb hG inGX0 hown hK hP 0 rfl rfl 0 (by decide) (hG _ wd_321) (fun _ h9 => h9) rfl dX0_expression_163 ?_
            obtain ⟨hPc, hDc, hFc⟩ := nv_sub3 (wc := [(h1, .inr (10, [.ref h8, .ref h9, .ref h10, .ref h11, .ref h12, .ref h13, .int x10, .int x11, .int b21, .int x13, .int x14, .long z0])), (h9, .inl (y0, 2501, .inl f0))]) hP hD hS hA [7, 6] (by decide) rfl
            have hKc := hK.sub (tys' := [(y0, .int)]) [4] rfl
            refine va_calli (va_runV (As := []) (rest := [.int 1, .ref h0]) ⟨hx, hb, hml, hown, hG⟩ (cX10_place_1 l dC dI h1 h8 h9 h10 h11 h12 h13 y0 H.size x10 x11 b21 x13 x14 z0 f0 ix10 ix11 ib21) (cwV 0 hG (gV wd_572 wd_573 wd_574 wd_11 wd_575) rfl rfl rfl (by decide +kernel) ⟨Nat.le_of_ble_eq_true rfl, Nat.le_of_ble_eq_true rfl⟩) ⟨fun a U g mk q => by obtain ⟨q0, q1, qP, qK, qD⟩ := q; exact ⟨q0, q1, qP, va_K.moved (u := U) (U := U.calling g mk a) (Vm.Alike.refl U.vm) qK, qD⟩, va_recv hKc hPc (ci := 10) (q0 := 0) rfl rfl, fun U hU hW => ⟨rfl, by rw [hU], by rw [hU]; exact hPc, va_K.moved hW.alike hKc, hDc.weaken (fun _ _ _ _ => trivial)⟩⟩ rfl rfl hl.1 rfl (lv_room (Nat.le_of_ble_eq_true rfl)) dX0_expression_166 ⟨by decide, by decide⟩) hS (fun q _ h => hFc q h) hFc (fun r53 u54 t H1 locs ht hvm hw hB hz1 hk1 hS => ?_)
            obtain ⟨hP1, hK1, hD1⟩ := hB
            rw [ht] at hP1
            have hK1 := va_K.moved hvm.symm hK1
            obtain ⟨hP, hD⟩ := nv_join (wf := [(h0, .inr (0, [.ref h1, .ref h2, .ref h3, .ref h4, .ref h5, .ref h6, .ref h7, .int x0, .int x1, .int x2, .int x3, .int x4, .int 0, .int r1, .int b6, .int x8, .int x9])), (h10, .inl (y2, 2501, .inl f2)), (h11, .inl (y3, 2501, .inr (.inl g0))), (h6, .inr (4, [.ref h14, .ref h15, .ref h16, .int x15])), (h14, .inl (y4, 60, .inr (.inl g1))), (h15, .inl (y5, 60, .inl f3)), (h8, .inl (y1, 2501, .inl f1)), (h1, .inr (10, [.ref h8, .ref h9, .ref h10, .ref h11, .ref h12, .ref h13, .int x10, .int x11, .int b21, .int x13, .int x14, .long z0])), (h9, .inl (y0, 2501, .inl f0))]) hP hD [7, 6] [0, 1, 2, 3, 4, 5, 8] rfl rfl (by decide) (by decide) hk1 hFc hP1 hD1 rfl
            have hK := (hK.sub (tys' := [(y2, .int), (y3, .long), (y4, .long), (y5, .int), (y1, .int)]) [0, 1, 2, 3, 5] rfl).app hK1
            generalize H1 = H at hP hS ⊢
            have hK : va_K (dC, dI) vwCl [(y2, .int), (y3, .long), (y4, .long), (y5, .int), (y1, .int), (y0, .int)] s := hK
            obtain ⟨hPc, hDc, hFc⟩ := nv_sub3 (wc := [(h0, .inr (0, [.ref h1, .ref h2, .ref h3, .ref h4, .ref h5, .ref h6, .ref h7, .int x0, .int x1, .int x2, .int x3, .int x4, .int 0, .int r1, .int b6, .int x8, .int x9]))]) hP hD hS hA [0] (by decide) rfl
            have hKc := hK.sub (tys' := []) [] rfl
            refine va_calli (va_runV (As := [.int 1, .int r53]) (rest := []) ⟨hx, hb, hml, hown, hG⟩ (cX0_fail_1 l dC dI h0 h1 h2 h3 h4 h5 h6 h7 H.size 1 r53 x0 x1 x2 x3 x4 0 r1 b6 x8 x9 ix0 ix1 (iv_w j9 (by decide) (by decide))) (cwV 2 hG (gV wd_437 wd_439 wp_1 wd_8 wd_440) rfl rfl rfl (by decide +kernel) ⟨Nat.le_of_ble_eq_true rfl, Nat.le_of_ble_eq_true rfl⟩) ⟨fun a U g mk q => by obtain ⟨q0, q1, qP, qK, qD⟩ := q; exact ⟨q0, q1, qP, va_K.moved (u := U) (U := U.calling g mk a) (Vm.Alike.refl U.vm) qK, qD⟩, va_recv hKc hPc (ci := 0) (q0 := 0) rfl rfl, fun U hU hW => ⟨rfl, by rw [hU], by rw [hU]; exact hPc, va_K.moved hW.alike hKc, hDc.weaken (fun _ _ _ _ => trivial)⟩⟩ rfl rfl hl.1 rfl (lv_room (Nat.le_of_ble_eq_true rfl)) dX0_expression_169 ⟨by decide, by decide⟩) hS (fun q _ h => hFc q h) hFc (fun r55 u56 t H1 locs ht hvm hw hB hz1 hk1 hS => ?_)
            have hw : r55 = 0 ∧ True := hw
            obtain ⟨er55, -⟩ := hw
            obtain ⟨hP1, hK1, hD1⟩ := hB
            rw [ht] at hP1
            have hK1 := va_K.moved hvm.symm hK1
            obtain ⟨hP, hD⟩ := nv_join (wf := [(h10, .inl (y2, 2501, .inl f2)), (h11, .inl (y3, 2501, .inr (.inl g0))), (h6, .inr (4, [.ref h14, .ref h15, .ref h16, .int x15])), (h14, .inl (y4, 60, .inr (.inl g1))), (h15, .inl (y5, 60, .inl f3)), (h8, .inl (y1, 2501, .inl f1)), (h1, .inr (10, [.ref h8, .ref h9, .ref h10, .ref h11, .ref h12, .ref h13, .int x10, .int x11, .int b21, .int x13, .int x14, .long z0])), (h9, .inl (y0, 2501, .inl f0)), (h0, .inr (0, [.ref h1, .ref h2, .ref h3, .ref h4, .ref h5, .ref h6, .ref h7, .int x0, .int x1, .int x2, .int x3, .int x4, .int 0, .int r1, .int b6, .int 1, .int r53]))]) hP hD [0] [1, 2, 3, 4, 5, 6, 7, 8] rfl rfl (by decide) (by decide) hk1 hFc hP1 hD1 rfl
            have hK := (hK.sub (tys' := [(y2, .int), (y3, .long), (y4, .long), (y5, .int), (y1, .int), (y0, .int)]) [0, 1, 2, 3, 4, 5] rfl).app hK1
            generalize H1 = H at hP hS ⊢
            have hK : va_K (dC, dI) vwCl [(y2, .int), (y3, .long), (y4, .long), (y5, .int), (y1, .int), (y0, .int)] s := hK
            subst er55
            rw [hQ]
            obtain ⟨hP9, hD9⟩ := nv_sub2 (wc := [(h0, .inr (0, [.ref h1, .ref h2, .ref h3, .ref h4, .ref h5, .ref h6, .ref h7, .int x0, .int x1, .int x2, .int x3, .int x4, .int 0, .int r1, .int b6, .int 1, .int r53])), (h1, .inr (10, [.ref h8, .ref h9, .ref h10, .ref h11, .ref h12, .ref h13, .int x10, .int x11, .int b21, .int x13, .int x14, .long z0])), (h9, .inl (y0, 2501, .inl f0)), (h8, .inl (y1, 2501, .inl f1)), (h10, .inl (y2, 2501, .inl f2)), (h11, .inl (y3, 2501, .inr (.inl g0))), (h6, .inr (4, [.ref h14, .ref h15, .ref h16, .int x15])), (h14, .inl (y4, 60, .inr (.inl g1))), (h15, .inl (y5, 60, .inl f3))]) hP hD [8, 6, 7, 5, 0, 1, 2, 3, 4] (by decide) rfl
            have hK9 := hK.sub (tys' := [(y0, .int), (y1, .int), (y2, .int), (y3, .long), (y4, .long), (y5, .int)]) [5, 4, 0, 1, 2, 3] rfl
            exact W.zret (v := 0) hx hb hr rfl (fun t ht hW => ⟨⟨0, (x1, 0, r1, b6, 1, r53, b21), rfl, ⟨iv_w (by decide : iv 0 0 0) (by decide) (by decide), iv_w ix1 (by decide) (by decide), iv_w j9 (by decide) (by decide), iv_w ib21 (by decide) (by decide), trivial⟩, by rw [ht]; exact hP9, va_K.moved hW.alike hK9, hD9⟩, hS.F ht⟩) hS.2.2 dX0_expression_172
        refine lv_if_eq (tgt := 149) hx hb dX0_expression_139 (by decide) (fun c17 => ?_) (fun c17 => ?_)
        · skip
          subst c17
          exact j22 x12 ix12 _ _ hK hP hD hS ls (lv_sub hl [1, 2] rfl)
        · skip
          have j57 : iv b14 1 1 := iv_neLo ib14 (by decide : iv 0 0 0) c17 (by decide)
          refine lv_aload_n hx hb dX0_expression_142 rfl (lv_at hl 2 rfl) ?_
          refine va_get (D := (dC, dI)) (ci := 0) (v := .ref h1) (C := RX0) (T := TX0) (N := 17) hx hb hG inGX0 hown hK hP 0 rfl rfl 0 (by decide) (hG _ wd_321) (fun _ h9 => h9) rfl dX0_expression_143 ?_
          obtain ⟨hPc, hDc, hFc⟩ := nv_sub3 (wc := [(h1, .inr (10, [.ref h8, .ref h9, .ref h10, .ref h11, .ref h12, .ref h13, .int x10, .int x11, .int x12, .int x13, .int x14, .long z0]))]) hP hD hS hA [7] (by decide) rfl
          have hKc := hK.sub (tys' := []) [] rfl
          refine va_callv (va_runV (As := []) (rest := []) ⟨hx, hb, hml, hown, hG⟩ (cX10_skip_1 l dC dI h1 h8 h9 h10 h11 h12 h13 H.size x10 x11 x12 x13 x14 z0 ix10 ix11 ix12) (cwV 0 hG (gV wd_576 wd_577 wd_578 wd_11 wd_579) rfl rfl rfl (by decide +kernel) ⟨Nat.le_of_ble_eq_true rfl, Nat.le_of_ble_eq_true rfl⟩) ⟨fun a U g mk q => by obtain ⟨q0, q1, qP, qK, qD⟩ := q; exact ⟨q0, q1, qP, va_K.moved (u := U) (U := U.calling g mk a) (Vm.Alike.refl U.vm) qK, qD⟩, va_recv hKc hPc (ci := 10) (q0 := 0) rfl rfl, fun U hU hW => ⟨rfl, by rw [hU], by rw [hU]; exact hPc, va_K.moved hW.alike hKc, hDc.weaken (fun _ _ _ _ => trivial)⟩⟩ rfl rfl hl.1 rfl (lv_room (Nat.le_of_ble_eq_true rfl)) dX0_expression_146 ⟨by decide, by decide⟩) hS (fun q _ h => hFc q h) hFc (fun u59 t H1 locs ht hvm hw hB hz1 hk1 hS => ?_)
          obtain ⟨u59_0, rfl⟩ : ∃ z, z = u59 := ⟨_, rfl⟩
          have hw : iv u59_0 0 2500 ∧ True := hw
          obtain ⟨iu59_0, -⟩ := hw
          obtain ⟨hP1, hK1, hD1⟩ := hB
          rw [ht] at hP1
          have hK1 := va_K.moved hvm.symm hK1
          obtain ⟨hP, hD⟩ := nv_join (wf := [(h0, .inr (0, [.ref h1, .ref h2, .ref h3, .ref h4, .ref h5, .ref h6, .ref h7, .int x0, .int x1, .int x2, .int x3, .int x4, .int 0, .int r1, .int b6, .int x8, .int x9])), (h10, .inl (y2, 2501, .inl f2)), (h11, .inl (y3, 2501, .inr (.inl g0))), (h6, .inr (4, [.ref h14, .ref h15, .ref h16, .int x15])), (h14, .inl (y4, 60, .inr (.inl g1))), (h15, .inl (y5, 60, .inl f3)), (h9, .inl (y0, 2501, .inl f0)), (h8, .inl (y1, 2501, .inl f1)), (h1, .inr (10, [.ref h8, .ref h9, .ref h10, .ref h11, .ref h12, .ref h13, .int x10, .int x11, .int u59_0, .int x13, .int x14, .long z0]))]) hP hD [7] [0, 1, 2, 3, 4, 5, 6, 8] rfl rfl (by decide) (by decide) hk1 hFc hP1 hD1 rfl
          have hK := (hK.sub (tys' := [(y2, .int), (y3, .long), (y4, .long), (y5, .int), (y0, .int), (y1, .int)]) [0, 1, 2, 3, 4, 5] rfl).app hK1
          generalize H1 = H at hP hS ⊢
          have hK : va_K (dC, dI) vwCl [(y2, .int), (y3, .long), (y4, .long), (y5, .int), (y0, .int), (y1, .int)] s := hK
          exact j22 u59_0 iu59_0 _ _ hK (hP.sub (ws' := _) [0, 1, 2, 3, 4, 5, 6, 8, 7] rfl) (hD.sub (ws' := _) [0, 1, 2, 3, 4, 5, 6, 8, 7] (by decide) rfl) hS ls (lv_sub hl [1, 2] rfl)
      refine lv_icmp_eq (tgt := 119) hx hb dX0_expression_103 (by decide) (fun c12 => ?_) (fun c12 => ?_)
      · skip
        subst c12
        refine lv_iconst (v := 1) hx hb dX0_expression_119 (by decide) ?_
        refine lv_goto (tgt := 124) hx hb dX0_expression_120 (by decide) ?_
        exact j16 1 45 (iv_w (by decide : iv 1 1 1) (by decide) (by decide)) _ _ hK hP hD hS ls hl
      · skip
        refine lv_iload_n hx hb dX0_expression_106 rfl (lv_at hl 0 rfl) ?_
        refine lv_bipush (v := 43) hx hb dX0_expression_107 (by decide) ?_
        refine lv_icmp_ne (tgt := 123) hx hb dX0_expression_109 (by decide) (fun c60 => ?_) (fun c60 => ?_)
        · skip
          refine lv_iconst (v := 0) hx hb dX0_expression_123 (by decide) ?_
          exact j16 0 r10 (iv_w (by decide : iv 0 0 0) (by decide) (by decide)) _ _ hK hP hD hS ls hl
        · skip
          subst c60
          refine lv_aload_n hx hb dX0_expression_112 rfl (lv_at hl 1 rfl) ?_
          refine va_get (D := (dC, dI)) (ci := 0) (v := .int b6) (C := RX0) (T := TX0) (N := 17) hx hb hG inGX0 hown hK hP 0 rfl rfl 14 (by decide) (hG _ wd_335) (fun _ h9 => h9) rfl dX0_expression_113 ?_
          refine lv_if_ne (tgt := 123) hx hb dX0_expression_116 (by decide) (fun _ => ?_) (fun c => absurd c c8)
          refine lv_iconst (v := 0) hx hb dX0_expression_123 (by decide) ?_
          exact j16 0 43 (iv_w (by decide : iv 0 0 0) (by decide) (by decide)) _ _ hK hP hD hS ls hl
    · skip
      subst c8
      refine lv_aload_n hx hb dX0_expression_43 rfl (lv_at hl 0 rfl) ?_
      refine va_get (D := (dC, dI)) (ci := 0) (v := .ref h6) (C := RX0) (T := TX0) (N := 17) hx hb hG inGX0 hown hK hP 0 rfl rfl 5 (by decide) (hG _ wd_326) (fun _ h9 => h9) rfl dX0_expression_44 ?_
      refine lv_aload_n hx hb dX0_expression_47 rfl (lv_at hl 0 rfl) ?_
      refine va_get (D := (dC, dI)) (ci := 0) (v := .ref h1) (C := RX0) (T := TX0) (N := 17) hx hb hG inGX0 hown hK hP 0 rfl rfl 0 (by decide) (hG _ wd_321) (fun _ h9 => h9) rfl dX0_expression_48 ?_
      obtain ⟨hPc, hDc, hFc⟩ := nv_sub3 (wc := [(h1, .inr (10, [.ref h8, .ref h9, .ref h10, .ref h11, .ref h12, .ref h13, .int x10, .int x11, .int x12, .int x13, .int x14, .long z0])), (h11, .inl (y3, 2501, .inr (.inl g0)))]) hP hD hS hA [7, 2] (by decide) rfl
      have hKc := hK.sub (tys' := [(y3, .long)]) [1] rfl
      refine va_calll (va_runV (As := []) (rest := [.ref h6]) ⟨hx, hb, hml, hown, hG⟩ (cX10_key_1 l dC dI h1 h8 h9 h10 h11 h12 h13 y3 H.size x10 x11 x12 x13 x14 z0 g0 ix10 ix11 ix12) (cwV 0 hG (gV wd_560 wd_561 wd_562 wd_11 wd_563) rfl rfl rfl (by decide +kernel) ⟨Nat.le_of_ble_eq_true rfl, Nat.le_of_ble_eq_true rfl⟩) ⟨fun a U g mk q => by obtain ⟨q0, q1, qP, qK, qD⟩ := q; exact ⟨q0, q1, qP, va_K.moved (u := U) (U := U.calling g mk a) (Vm.Alike.refl U.vm) qK, qD⟩, va_recv hKc hPc (ci := 10) (q0 := 0) rfl rfl, fun U hU hW => ⟨rfl, by rw [hU], by rw [hU]; exact hPc, va_K.moved hW.alike hKc, hDc.weaken (fun _ _ _ _ => trivial)⟩⟩ rfl rfl hl.1 rfl (lv_room (Nat.le_of_ble_eq_true rfl)) dX0_expression_51 ⟨by decide, by decide⟩) hS (fun q _ h => hFc q h) hFc (fun r61 u62 t H1 locs ht hvm hw hB hz1 hk1 hS => ?_)
      obtain ⟨hP1, hK1, hD1⟩ := hB
      rw [ht] at hP1
      have hK1 := va_K.moved hvm.symm hK1
      obtain ⟨hP, hD⟩ := nv_join (wf := [(h0, .inr (0, [.ref h1, .ref h2, .ref h3, .ref h4, .ref h5, .ref h6, .ref h7, .int x0, .int x1, .int x2, .int x3, .int x4, .int 0, .int r1, .int 0, .int x8, .int x9])), (h10, .inl (y2, 2501, .inl f2)), (h6, .inr (4, [.ref h14, .ref h15, .ref h16, .int x15])), (h14, .inl (y4, 60, .inr (.inl g1))), (h15, .inl (y5, 60, .inl f3)), (h9, .inl (y0, 2501, .inl f0)), (h8, .inl (y1, 2501, .inl f1)), (h1, .inr (10, [.ref h8, .ref h9, .ref h10, .ref h11, .ref h12, .ref h13, .int x10, .int x11, .int x12, .int x13, .int x14, .long z0])), (h11, .inl (y3, 2501, .inr (.inl g0)))]) hP hD [7, 2] [0, 1, 3, 4, 5, 6, 8] rfl rfl (by decide) (by decide) hk1 hFc hP1 hD1 rfl
      have hK := (hK.sub (tys' := [(y2, .int), (y4, .long), (y5, .int), (y0, .int), (y1, .int)]) [0, 2, 3, 4, 5] rfl).app hK1
      generalize H1 = H at hP hS ⊢
      have hK : va_K (dC, dI) vwCl [(y2, .int), (y4, .long), (y5, .int), (y0, .int), (y1, .int), (y3, .long)] s := hK
      obtain ⟨hPc, hDc, hFc⟩ := nv_sub3 (wc := [(h6, .inr (4, [.ref h14, .ref h15, .ref h16, .int x15])), (h14, .inl (y4, 60, .inr (.inl g1))), (h15, .inl (y5, 60, .inl f3))]) hP hD hS hA [2, 3, 4] (by decide) rfl
      have hKc := hK.sub (tys' := [(y4, .long), (y5, .int)]) [1, 2] rfl
      refine va_calli (va_runV (As := [.long r61]) (rest := []) ⟨hx, hb, hml, hown, hG⟩ (cX4_valueOf_1 l dC dI h6 h14 h15 h16 y4 y5 H.size x15 r61 f3 g1 ix15) (cwV 1 hG (gV wd_596 wd_569 wd_570 wd_10 wd_571) rfl rfl rfl (by decide +kernel) ⟨Nat.le_of_ble_eq_true rfl, Nat.le_of_ble_eq_true rfl⟩) ⟨fun a U g mk q => by obtain ⟨q0, q1, qP, qK, qD⟩ := q; exact ⟨q0, q1, qP, va_K.moved (u := U) (U := U.calling g mk a) (Vm.Alike.refl U.vm) qK, qD⟩, va_recv hKc hPc (ci := 4) (q0 := 0) rfl rfl, fun U hU hW => ⟨rfl, by rw [hU], by rw [hU]; exact hPc, va_K.moved hW.alike hKc, hDc.weaken (fun _ _ _ _ => trivial)⟩⟩ rfl rfl hl.1 rfl (lv_room (Nat.le_of_ble_eq_true rfl)) dX0_expression_54 ⟨by decide, by decide⟩) hS (fun q _ h => hFc q h) hFc (fun r63 u64 t H1 locs ht hvm hw hB hz1 hk1 hS => ?_)
      obtain ⟨hP1, hK1, hD1⟩ := hB
      rw [ht] at hP1
      have hK1 := va_K.moved hvm.symm hK1
      obtain ⟨hP, hD⟩ := nv_join (wf := [(h0, .inr (0, [.ref h1, .ref h2, .ref h3, .ref h4, .ref h5, .ref h6, .ref h7, .int x0, .int x1, .int x2, .int x3, .int x4, .int 0, .int r1, .int 0, .int x8, .int x9])), (h10, .inl (y2, 2501, .inl f2)), (h9, .inl (y0, 2501, .inl f0)), (h8, .inl (y1, 2501, .inl f1)), (h1, .inr (10, [.ref h8, .ref h9, .ref h10, .ref h11, .ref h12, .ref h13, .int x10, .int x11, .int x12, .int x13, .int x14, .long z0])), (h11, .inl (y3, 2501, .inr (.inl g0))), (h6, .inr (4, [.ref h14, .ref h15, .ref h16, .int x15])), (h14, .inl (y4, 60, .inr (.inl g1))), (h15, .inl (y5, 60, .inl f3))]) hP hD [2, 3, 4] [0, 1, 5, 6, 7, 8] rfl rfl (by decide) (by decide) hk1 hFc hP1 hD1 rfl
      have hK := (hK.sub (tys' := [(y2, .int), (y0, .int), (y1, .int), (y3, .long)]) [0, 3, 4, 5] rfl).app hK1
      generalize H1 = H at hP hS ⊢
      have hK : va_K (dC, dI) vwCl [(y2, .int), (y0, .int), (y1, .int), (y3, .long), (y4, .long), (y5, .int)] s := hK
      refine lv_istore_n (lv' := [(1, .int r63), (0, .ref h0)]) hx hb dX0_expression_57 rfl hl (by decide) rfl (fun ls hl => ?_)
      refine lv_aload_n hx hb dX0_expression_58 rfl (lv_at hl 1 rfl) ?_
      refine va_get (D := (dC, dI)) (ci := 0) (v := .int x1) (C := RX0) (T := TX0) (N := 17) hx hb hG inGX0 hown hK hP 0 rfl rfl 8 (by decide) (hG _ wd_329) (fun _ h9 => h9) rfl dX0_expression_59 ?_
      refine lv_if_eq (tgt := 80) hx hb dX0_expression_62 (by decide) (fun c65 => ?_) (fun c65 => ?_)
      · skip
        subst c65
        refine lv_aload_n hx hb dX0_expression_80 rfl (lv_at hl 1 rfl) ?_
        refine lv_iload_n hx hb dX0_expression_81 rfl (lv_at hl 0 rfl) ?_
        refine va_put (D := (dC, dI)) (ci := 0) (v := .int r63) (ty := .int) (C := RX0) (T := TX0) (N := 17) hx hb hG inGX0 tyX0 tyX0_ok nmX0 hown hK hP hD hS 0 rfl rfl 12 (by decide) (hG _ wd_333) (fun _ h9 => h9) rfl (by decide +kernel) rfl rfl (Nat.le_of_ble_eq_true rfl) dX0_expression_82 (fun H locs hP hD hS => ?_)
        obtain ⟨hP, hD⟩ := nv_eq (ws' := [(h0, .inr (0, [.ref h1, .ref h2, .ref h3, .ref h4, .ref h5, .ref h6, .ref h7, .int x0, .int 0, .int x2, .int x3, .int x4, .int r63, .int r1, .int 0, .int x8, .int x9])), (h10, .inl (y2, 2501, .inl f2)), (h9, .inl (y0, 2501, .inl f0)), (h8, .inl (y1, 2501, .inl f1)), (h1, .inr (10, [.ref h8, .ref h9, .ref h10, .ref h11, .ref h12, .ref h13, .int x10, .int x11, .int x12, .int x13, .int x14, .long z0])), (h11, .inl (y3, 2501, .inr (.inl g0))), (h6, .inr (4, [.ref h14, .ref h15, .ref h16, .int x15])), (h14, .inl (y4, 60, .inr (.inl g1))), (h15, .inl (y5, 60, .inl f3))]) hP hD rfl
        refine lv_aload_n hx hb dX0_expression_85 rfl (lv_at hl 1 rfl) ?_
        refine va_get (D := (dC, dI)) (ci := 0) (v := .ref h1) (C := RX0) (T := TX0) (N := 17) hx hb hG inGX0 hown hK hP 0 rfl rfl 0 (by decide) (hG _ wd_321) (fun _ h9 => h9) rfl dX0_expression_86 ?_
        obtain ⟨hPc, hDc, hFc⟩ := nv_sub3 (wc := [(h1, .inr (10, [.ref h8, .ref h9, .ref h10, .ref h11, .ref h12, .ref h13, .int x10, .int x11, .int x12, .int x13, .int x14, .long z0]))]) hP hD hS hA [4] (by decide) rfl
        have hKc := hK.sub (tys' := []) [] rfl
        refine va_callv (va_runV (As := []) (rest := []) ⟨hx, hb, hml, hown, hG⟩ (cX10_skip_1 l dC dI h1 h8 h9 h10 h11 h12 h13 H.size x10 x11 x12 x13 x14 z0 ix10 ix11 ix12) (cwV 0 hG (gV wd_576 wd_577 wd_578 wd_11 wd_579) rfl rfl rfl (by decide +kernel) ⟨Nat.le_of_ble_eq_true rfl, Nat.le_of_ble_eq_true rfl⟩) ⟨fun a U g mk q => by obtain ⟨q0, q1, qP, qK, qD⟩ := q; exact ⟨q0, q1, qP, va_K.moved (u := U) (U := U.calling g mk a) (Vm.Alike.refl U.vm) qK, qD⟩, va_recv hKc hPc (ci := 10) (q0 := 0) rfl rfl, fun U hU hW => ⟨rfl, by rw [hU], by rw [hU]; exact hPc, va_K.moved hW.alike hKc, hDc.weaken (fun _ _ _ _ => trivial)⟩⟩ rfl rfl hl.1 rfl (lv_room (Nat.le_of_ble_eq_true rfl)) dX0_expression_89 ⟨by decide, by decide⟩) hS (fun q _ h => hFc q h) hFc (fun u67 t H1 locs ht hvm hw hB hz1 hk1 hS => ?_)
        obtain ⟨u67_0, rfl⟩ : ∃ z, z = u67 := ⟨_, rfl⟩
        have hw : iv u67_0 0 2500 ∧ True := hw
        obtain ⟨iu67_0, -⟩ := hw
        obtain ⟨hP1, hK1, hD1⟩ := hB
        rw [ht] at hP1
        have hK1 := va_K.moved hvm.symm hK1
        obtain ⟨hP, hD⟩ := nv_join (wf := [(h0, .inr (0, [.ref h1, .ref h2, .ref h3, .ref h4, .ref h5, .ref h6, .ref h7, .int x0, .int 0, .int x2, .int x3, .int x4, .int r63, .int r1, .int 0, .int x8, .int x9])), (h10, .inl (y2, 2501, .inl f2)), (h9, .inl (y0, 2501, .inl f0)), (h8, .inl (y1, 2501, .inl f1)), (h11, .inl (y3, 2501, .inr (.inl g0))), (h6, .inr (4, [.ref h14, .ref h15, .ref h16, .int x15])), (h14, .inl (y4, 60, .inr (.inl g1))), (h15, .inl (y5, 60, .inl f3)), (h1, .inr (10, [.ref h8, .ref h9, .ref h10, .ref h11, .ref h12, .ref h13, .int x10, .int x11, .int u67_0, .int x13, .int x14, .long z0]))]) hP hD [4] [0, 1, 2, 3, 5, 6, 7, 8] rfl rfl (by decide) (by decide) hk1 hFc hP1 hD1 rfl
        have hK := (hK.sub (tys' := [(y2, .int), (y0, .int), (y1, .int), (y3, .long), (y4, .long), (y5, .int)]) [0, 1, 2, 3, 4, 5] rfl).app hK1
        generalize H1 = H at hP hS ⊢
        have hK : va_K (dC, dI) vwCl [(y2, .int), (y0, .int), (y1, .int), (y3, .long), (y4, .long), (y5, .int)] s := hK
        refine lv_aload_n hx hb dX0_expression_92 rfl (lv_at hl 1 rfl) ?_
        refine va_get (D := (dC, dI)) (ci := 0) (v := .ref h1) (C := RX0) (T := TX0) (N := 17) hx hb hG inGX0 hown hK hP 0 rfl rfl 0 (by decide) (hG _ wd_321) (fun _ h9 => h9) rfl dX0_expression_93 ?_
        obtain ⟨hPc, hDc, hFc⟩ := nv_sub3 (wc := [(h1, .inr (10, [.ref h8, .ref h9, .ref h10, .ref h11, .ref h12, .ref h13, .int x10, .int x11, .int u67_0, .int x13, .int x14, .long z0])), (h8, .inl (y1, 2501, .inl f1))]) hP hD hS hA [8, 3] (by decide) rfl
        have hKc := hK.sub (tys' := [(y1, .int)]) [2] rfl
        refine va_calli (va_runV (As := []) (rest := []) ⟨hx, hb, hml, hown, hG⟩ (cX10_kind_1 l dC dI h1 h8 h9 h10 h11 h12 h13 y1 H.size x10 x11 u67_0 x13 x14 z0 f1 ix10 ix11 iu67_0) (cwV 0 hG (gV wd_556 wd_557 wd_558 wd_11 wd_559) rfl rfl rfl (by decide +kernel) ⟨Nat.le_of_ble_eq_true rfl, Nat.le_of_ble_eq_true rfl⟩) ⟨fun a U g mk q => by obtain ⟨q0, q1, qP, qK, qD⟩ := q; exact ⟨q0, q1, qP, va_K.moved (u := U) (U := U.calling g mk a) (Vm.Alike.refl U.vm) qK, qD⟩, va_recv hKc hPc (ci := 10) (q0 := 0) rfl rfl, fun U hU hW => ⟨rfl, by rw [hU], by rw [hU]; exact hPc, va_K.moved hW.alike hKc, hDc.weaken (fun _ _ _ _ => trivial)⟩⟩ rfl rfl hl.1 rfl (lv_room (Nat.le_of_ble_eq_true rfl)) dX0_expression_96 ⟨by decide, by decide⟩) hS (fun q _ h => hFc q h) hFc (fun r68 u69 t H1 locs ht hvm hw hB hz1 hk1 hS => ?_)
        obtain ⟨hP1, hK1, hD1⟩ := hB
        rw [ht] at hP1
        have hK1 := va_K.moved hvm.symm hK1
        obtain ⟨hP, hD⟩ := nv_join (wf := [(h0, .inr (0, [.ref h1, .ref h2, .ref h3, .ref h4, .ref h5, .ref h6, .ref h7, .int x0, .int 0, .int x2, .int x3, .int x4, .int r63, .int r1, .int 0, .int x8, .int x9])), (h10, .inl (y2, 2501, .inl f2)), (h9, .inl (y0, 2501, .inl f0)), (h11, .inl (y3, 2501, .inr (.inl g0))), (h6, .inr (4, [.ref h14, .ref h15, .ref h16, .int x15])), (h14, .inl (y4, 60, .inr (.inl g1))), (h15, .inl (y5, 60, .inl f3)), (h1, .inr (10, [.ref h8, .ref h9, .ref h10, .ref h11, .ref h12, .ref h13, .int x10, .int x11, .int u67_0, .int x13, .int x14, .long z0])), (h8, .inl (y1, 2501, .inl f1))]) hP hD [8, 3] [0, 1, 2, 4, 5, 6, 7] rfl rfl (by decide) (by decide) hk1 hFc hP1 hD1 rfl
        have hK := (hK.sub (tys' := [(y2, .int), (y0, .int), (y3, .long), (y4, .long), (y5, .int)]) [0, 1, 3, 4, 5] rfl).app hK1
        generalize H1 = H at hP hS ⊢
        have hK : va_K (dC, dI) vwCl [(y2, .int), (y0, .int), (y3, .long), (y4, .long), (y5, .int), (y1, .int)] s := hK
        refine lv_istore_n (lv' := [(1, .int r68), (0, .ref h0)]) hx hb dX0_expression_99 rfl hl (by decide) rfl (fun ls hl => ?_)
        refine lv_iload_n hx hb dX0_expression_100 rfl (lv_at hl 0 rfl) ?_
        refine lv_bipush (v := 45) hx hb dX0_expression_101 (by decide) ?_
        refine jcut (a := ∀ (b72 : Int32) (b73 : Int32) (ib72 : iv b72 0 1) (H : Heap) (locs : List Loc) (hK : va_K (dC, dI) vwCl [(y2, .int), (y0, .int), (y3, .long), (y4, .long), (y5, .int), (y1, .int)] s) (hP : va_P (dC, dI) vwCl [(h0, .inr (0, [.ref h1, .ref h2, .ref h3, .ref h4, .ref h5, .ref h6, .ref h7, .int x0, .int 0, .int x2, .int x3, .int x4, .int r63, .int r1, .int 0, .int x8, .int x9])), (h10, .inl (y2, 2501, .inl f2)), (h9, .inl (y0, 2501, .inl f0)), (h11, .inl (y3, 2501, .inr (.inl g0))), (h6, .inr (4, [.ref h14, .ref h15, .ref h16, .int x15])), (h14, .inl (y4, 60, .inr (.inl g1))), (h15, .inl (y5, 60, .inl f3)), (h1, .inr (10, [.ref h8, .ref h9, .ref h10, .ref h11, .ref h12, .ref h13, .int x10, .int x11, .int u67_0, .int x13, .int x14, .long z0])), (h8, .inl (y1, 2501, .inl f1))] H) (hD : va_D A [(h0, .inr (0, [.ref h1, .ref h2, .ref h3, .ref h4, .ref h5, .ref h6, .ref h7, .int x0, .int 0, .int x2, .int x3, .int x4, .int r63, .int r1, .int 0, .int x8, .int x9])), (h10, .inl (y2, 2501, .inl f2)), (h9, .inl (y0, 2501, .inl f0)), (h11, .inl (y3, 2501, .inr (.inl g0))), (h6, .inr (4, [.ref h14, .ref h15, .ref h16, .int x15])), (h14, .inl (y4, 60, .inr (.inl g1))), (h15, .inl (y5, 60, .inl f3)), (h1, .inr (10, [.ref h8, .ref h9, .ref h10, .ref h11, .ref h12, .ref h13, .int x10, .int x11, .int u67_0, .int x13, .int x14, .long z0])), (h8, .inl (y1, 2501, .inl f1))]) (hS : va_S A s.heap H locs) (ls : Array Slot) (hl : lv_has ls 4 [(1, .int b73), (0, .ref h0)]), W p l e (headSpec (Cond.code yX0_expression cX0_expression 4 (some .boolean) :: lw_G) ({ frames := 1, cells := 0, slots := 0, locals := 23 })).room s m ar below meth c H locs 0 0 Q (F0 m 124 ls [.int b72])) ?_ (fun j74 => ?_)
        · skip
          intro b72 b73 ib72 H locs hK hP hD hS ls hl
          refine lv_istore_n (lv' := [(2, .int b72), (1, .int b73), (0, .ref h0)]) hx hb dX0_expression_124 rfl hl (by decide) rfl (fun ls hl => ?_)
          refine lv_aload_n hx hb dX0_expression_125 rfl (lv_at hl 2 rfl) ?_
          refine va_get (D := (dC, dI)) (ci := 0) (v := .int 0) (C := RX0) (T := TX0) (N := 17) hx hb hG inGX0 hown hK hP 0 rfl rfl 14 (by decide) (hG _ wd_335) (fun _ h9 => h9) rfl dX0_expression_126 ?_
          refine lv_if_ne (tgt := 138) hx hb dX0_expression_129 (by decide) (fun c => absurd (by decide) c) (fun _ => ?_)
          refine lv_iload_n hx hb dX0_expression_132 rfl (lv_at hl 0 rfl) ?_
          refine lv_if_ne (tgt := 138) hx hb dX0_expression_133 (by decide) (fun c75 => ?_) (fun c75 => ?_)
          · skip
            have j76 : iv b72 1 1 := iv_neLo ib72 (by decide : iv 0 0 0) c75 (by decide)
            refine lv_iload_n hx hb dX0_expression_138 rfl (lv_at hl 0 rfl) ?_
            refine lv_if_eq (tgt := 149) hx hb dX0_expression_139 (by decide) (fun c => absurd c c75) (fun _ => ?_)
            refine lv_aload_n hx hb dX0_expression_142 rfl (lv_at hl 2 rfl) ?_
            refine va_get (D := (dC, dI)) (ci := 0) (v := .ref h1) (C := RX0) (T := TX0) (N := 17) hx hb hG inGX0 hown hK hP 0 rfl rfl 0 (by decide) (hG _ wd_321) (fun _ h9 => h9) rfl dX0_expression_143 ?_
            obtain ⟨hPc, hDc, hFc⟩ := nv_sub3 (wc := [(h1, .inr (10, [.ref h8, .ref h9, .ref h10, .ref h11, .ref h12, .ref h13, .int x10, .int x11, .int u67_0, .int x13, .int x14, .long z0]))]) hP hD hS hA [7] (by decide) rfl
            have hKc := hK.sub (tys' := []) [] rfl
            refine va_callv (va_runV (As := []) (rest := []) ⟨hx, hb, hml, hown, hG⟩ (cX10_skip_1 l dC dI h1 h8 h9 h10 h11 h12 h13 H.size x10 x11 u67_0 x13 x14 z0 ix10 ix11 iu67_0) (cwV 0 hG (gV wd_576 wd_577 wd_578 wd_11 wd_579) rfl rfl rfl (by decide +kernel) ⟨Nat.le_of_ble_eq_true rfl, Nat.le_of_ble_eq_true rfl⟩) ⟨fun a U g mk q => by obtain ⟨q0, q1, qP, qK, qD⟩ := q; exact ⟨q0, q1, qP, va_K.moved (u := U) (U := U.calling g mk a) (Vm.Alike.refl U.vm) qK, qD⟩, va_recv hKc hPc (ci := 10) (q0 := 0) rfl rfl, fun U hU hW => ⟨rfl, by rw [hU], by rw [hU]; exact hPc, va_K.moved hW.alike hKc, hDc.weaken (fun _ _ _ _ => trivial)⟩⟩ rfl rfl hl.1 rfl (lv_room (Nat.le_of_ble_eq_true rfl)) dX0_expression_146 ⟨by decide, by decide⟩) hS (fun q _ h => hFc q h) hFc (fun u78 t H1 locs ht hvm hw hB hz1 hk1 hS => ?_)
            obtain ⟨u78_0, rfl⟩ : ∃ z, z = u78 := ⟨_, rfl⟩
            have hw : iv u78_0 0 2500 ∧ True := hw
            obtain ⟨iu78_0, -⟩ := hw
            obtain ⟨hP1, hK1, hD1⟩ := hB
            rw [ht] at hP1
            have hK1 := va_K.moved hvm.symm hK1
            obtain ⟨hP, hD⟩ := nv_join (wf := [(h0, .inr (0, [.ref h1, .ref h2, .ref h3, .ref h4, .ref h5, .ref h6, .ref h7, .int x0, .int 0, .int x2, .int x3, .int x4, .int r63, .int r1, .int 0, .int x8, .int x9])), (h10, .inl (y2, 2501, .inl f2)), (h9, .inl (y0, 2501, .inl f0)), (h11, .inl (y3, 2501, .inr (.inl g0))), (h6, .inr (4, [.ref h14, .ref h15, .ref h16, .int x15])), (h14, .inl (y4, 60, .inr (.inl g1))), (h15, .inl (y5, 60, .inl f3)), (h8, .inl (y1, 2501, .inl f1)), (h1, .inr (10, [.ref h8, .ref h9, .ref h10, .ref h11, .ref h12, .ref h13, .int x10, .int x11, .int u78_0, .int x13, .int x14, .long z0]))]) hP hD [7] [0, 1, 2, 3, 4, 5, 6, 8] rfl rfl (by decide) (by decide) hk1 hFc hP1 hD1 rfl
            have hK := (hK.sub (tys' := [(y2, .int), (y0, .int), (y3, .long), (y4, .long), (y5, .int), (y1, .int)]) [0, 1, 2, 3, 4, 5] rfl).app hK1
            generalize H1 = H at hP hS ⊢
            have hK : va_K (dC, dI) vwCl [(y2, .int), (y0, .int), (y3, .long), (y4, .long), (y5, .int), (y1, .int)] s := hK
            refine lv_aload_n hx hb dX0_expression_149 rfl (lv_at hl 2 rfl) ?_
            refine va_get (D := (dC, dI)) (ci := 0) (v := .ref h1) (C := RX0) (T := TX0) (N := 17) hx hb hG inGX0 hown hK hP 0 rfl rfl 0 (by decide) (hG _ wd_321) (fun _ h9 => h9) rfl dX0_expression_150 ?_
            obtain ⟨hPc, hDc, hFc⟩ := nv_sub3 (wc := [(h1, .inr (10, [.ref h8, .ref h9, .ref h10, .ref h11, .ref h12, .ref h13, .int x10, .int x11, .int u78_0, .int x13, .int x14, .long z0])), (h8, .inl (y1, 2501, .inl f1))]) hP hD hS hA [8, 7] (by decide) rfl
            have hKc := hK.sub (tys' := [(y1, .int)]) [5] rfl
            refine va_calli (va_runV (As := []) (rest := []) ⟨hx, hb, hml, hown, hG⟩ (cX10_kind_1 l dC dI h1 h8 h9 h10 h11 h12 h13 y1 H.size x10 x11 u78_0 x13 x14 z0 f1 ix10 ix11 iu78_0) (cwV 0 hG (gV wd_556 wd_557 wd_558 wd_11 wd_559) rfl rfl rfl (by decide +kernel) ⟨Nat.le_of_ble_eq_true rfl, Nat.le_of_ble_eq_true rfl⟩) ⟨fun a U g mk q => by obtain ⟨q0, q1, qP, qK, qD⟩ := q; exact ⟨q0, q1, qP, va_K.moved (u := U) (U := U.calling g mk a) (Vm.Alike.refl U.vm) qK, qD⟩, va_recv hKc hPc (ci := 10) (q0 := 0) rfl rfl, fun U hU hW => ⟨rfl, by rw [hU], by rw [hU]; exact hPc, va_K.moved hW.alike hKc, hDc.weaken (fun _ _ _ _ => trivial)⟩⟩ rfl rfl hl.1 rfl (lv_room (Nat.le_of_ble_eq_true rfl)) dX0_expression_153 ⟨by decide, by decide⟩) hS (fun q _ h => hFc q h) hFc (fun r79 u80 t H1 locs ht hvm hw hB hz1 hk1 hS => ?_)
            obtain ⟨hP1, hK1, hD1⟩ := hB
            rw [ht] at hP1
            have hK1 := va_K.moved hvm.symm hK1
            obtain ⟨hP, hD⟩ := nv_join (wf := [(h0, .inr (0, [.ref h1, .ref h2, .ref h3, .ref h4, .ref h5, .ref h6, .ref h7, .int x0, .int 0, .int x2, .int x3, .int x4, .int r63, .int r1, .int 0, .int x8, .int x9])), (h10, .inl (y2, 2501, .inl f2)), (h9, .inl (y0, 2501, .inl f0)), (h11, .inl (y3, 2501, .inr (.inl g0))), (h6, .inr (4, [.ref h14, .ref h15, .ref h16, .int x15])), (h14, .inl (y4, 60, .inr (.inl g1))), (h15, .inl (y5, 60, .inl f3)), (h1, .inr (10, [.ref h8, .ref h9, .ref h10, .ref h11, .ref h12, .ref h13, .int x10, .int x11, .int u78_0, .int x13, .int x14, .long z0])), (h8, .inl (y1, 2501, .inl f1))]) hP hD [8, 7] [0, 1, 2, 3, 4, 5, 6] rfl rfl (by decide) (by decide) hk1 hFc hP1 hD1 rfl
            have hK := (hK.sub (tys' := [(y2, .int), (y0, .int), (y3, .long), (y4, .long), (y5, .int)]) [0, 1, 2, 3, 4] rfl).app hK1
            generalize H1 = H at hP hS ⊢
            have hK : va_K (dC, dI) vwCl [(y2, .int), (y0, .int), (y3, .long), (y4, .long), (y5, .int), (y1, .int)] s := hK
            refine lv_iconst (v := 5) hx hb dX0_expression_156 (by decide) ?_
            refine lv_icmp_eq (tgt := 173) hx hb dX0_expression_157 (by decide) (fun c81 => ?_) (fun c81 => ?_)
            · skip
              subst c81
              refine lv_iload_n hx hb dX0_expression_173 rfl (lv_at hl 1 rfl) ?_
              refine lv_bipush (v := 45) hx hb dX0_expression_174 (by decide) ?_
              refine jcut (a := ∀ (b88 : Int32) (H : Heap) (locs : List Loc) (hK : va_K (dC, dI) vwCl [(y0, .int), (y3, .long), (y4, .long), (y5, .int), (y1, .int), (y2, .int)] s) (hP : va_P (dC, dI) vwCl [(h0, .inr (0, [.ref h1, .ref h2, .ref h3, .ref h4, .ref h5, .ref h6, .ref h7, .int x0, .int 0, .int x2, .int x3, .int x4, .int r63, .int r1, .int 0, .int x8, .int x9])), (h9, .inl (y0, 2501, .inl f0)), (h11, .inl (y3, 2501, .inr (.inl g0))), (h6, .inr (4, [.ref h14, .ref h15, .ref h16, .int x15])), (h14, .inl (y4, 60, .inr (.inl g1))), (h15, .inl (y5, 60, .inl f3)), (h8, .inl (y1, 2501, .inl f1)), (h1, .inr (10, [.ref h8, .ref h9, .ref h10, .ref h11, .ref h12, .ref h13, .int x10, .int x11, .int u78_0, .int x13, .int x14, .long z0])), (h10, .inl (y2, 2501, .inl f2))] H) (hD : va_D A [(h0, .inr (0, [.ref h1, .ref h2, .ref h3, .ref h4, .ref h5, .ref h6, .ref h7, .int x0, .int 0, .int x2, .int x3, .int x4, .int r63, .int r1, .int 0, .int x8, .int x9])), (h9, .inl (y0, 2501, .inl f0)), (h11, .inl (y3, 2501, .inr (.inl g0))), (h6, .inr (4, [.ref h14, .ref h15, .ref h16, .int x15])), (h14, .inl (y4, 60, .inr (.inl g1))), (h15, .inl (y5, 60, .inl f3)), (h8, .inl (y1, 2501, .inl f1)), (h1, .inr (10, [.ref h8, .ref h9, .ref h10, .ref h11, .ref h12, .ref h13, .int x10, .int x11, .int u78_0, .int x13, .int x14, .long z0])), (h10, .inl (y2, 2501, .inl f2))]) (hS : va_S A s.heap H locs) (ls : Array Slot) (hl : lv_has ls 4 [(0, .ref h0)]), W p l e (headSpec (Cond.code yX0_expression cX0_expression 4 (some .boolean) :: lw_G) ({ frames := 1, cells := 0, slots := 0, locals := 23 })).room s m ar below meth c H locs 0 0 Q (F0 m 197 ls [.int b88])) ?_ (fun j89 => ?_)
              · skip
                intro b88 H locs hK hP hD hS ls hl
                refine lv_istore_n (lv' := [(3, .int b88), (0, .ref h0)]) hx hb dX0_expression_197 rfl hl (by decide) rfl (fun ls hl => ?_)
                refine lv_aload_n hx hb dX0_expression_198 rfl (lv_at hl 1 rfl) ?_
                refine va_get (D := (dC, dI)) (ci := 0) (v := .ref h1) (C := RX0) (T := TX0) (N := 17) hx hb hG inGX0 hown hK hP 0 rfl rfl 0 (by decide) (hG _ wd_321) (fun _ h9 => h9) rfl dX0_expression_199 ?_
                obtain ⟨hPc, hDc, hFc⟩ := nv_sub3 (wc := [(h1, .inr (10, [.ref h8, .ref h9, .ref h10, .ref h11, .ref h12, .ref h13, .int x10, .int x11, .int u78_0, .int x13, .int x14, .long z0])), (h10, .inl (y2, 2501, .inl f2))]) hP hD hS hA [7, 8] (by decide) rfl
                have hKc := hK.sub (tys' := [(y2, .int)]) [5] rfl
                refine va_calli (va_runV (As := []) (rest := []) ⟨hx, hb, hml, hown, hG⟩ (cX10_value_1 l dC dI h1 h8 h9 h10 h11 h12 h13 y2 H.size x10 x11 u78_0 x13 x14 z0 f2 ix10 ix11 iu78_0) (cwV 0 hG (gV wd_584 wd_585 wd_586 wd_11 wd_587) rfl rfl rfl (by decide +kernel) ⟨Nat.le_of_ble_eq_true rfl, Nat.le_of_ble_eq_true rfl⟩) ⟨fun a U g mk q => by obtain ⟨q0, q1, qP, qK, qD⟩ := q; exact ⟨q0, q1, qP, va_K.moved (u := U) (U := U.calling g mk a) (Vm.Alike.refl U.vm) qK, qD⟩, va_recv hKc hPc (ci := 10) (q0 := 0) rfl rfl, fun U hU hW => ⟨rfl, by rw [hU], by rw [hU]; exact hPc, va_K.moved hW.alike hKc, hDc.weaken (fun _ _ _ _ => trivial)⟩⟩ rfl rfl hl.1 rfl (lv_room (Nat.le_of_ble_eq_true rfl)) dX0_expression_202 ⟨by decide, by decide⟩) hS (fun q _ h => hFc q h) hFc (fun r90 u91 t H1 locs ht hvm hw hB hz1 hk1 hS => ?_)
                obtain ⟨hP1, hK1, hD1⟩ := hB
                rw [ht] at hP1
                have hK1 := va_K.moved hvm.symm hK1
                obtain ⟨hP, hD⟩ := nv_join (wf := [(h0, .inr (0, [.ref h1, .ref h2, .ref h3, .ref h4, .ref h5, .ref h6, .ref h7, .int x0, .int 0, .int x2, .int x3, .int x4, .int r63, .int r1, .int 0, .int x8, .int x9])), (h9, .inl (y0, 2501, .inl f0)), (h11, .inl (y3, 2501, .inr (.inl g0))), (h6, .inr (4, [.ref h14, .ref h15, .ref h16, .int x15])), (h14, .inl (y4, 60, .inr (.inl g1))), (h15, .inl (y5, 60, .inl f3)), (h8, .inl (y1, 2501, .inl f1)), (h1, .inr (10, [.ref h8, .ref h9, .ref h10, .ref h11, .ref h12, .ref h13, .int x10, .int x11, .int u78_0, .int x13, .int x14, .long z0])), (h10, .inl (y2, 2501, .inl f2))]) hP hD [7, 8] [0, 1, 2, 3, 4, 5, 6] rfl rfl (by decide) (by decide) hk1 hFc hP1 hD1 rfl
                have hK := (hK.sub (tys' := [(y0, .int), (y3, .long), (y4, .long), (y5, .int), (y1, .int)]) [0, 1, 2, 3, 4] rfl).app hK1
                generalize H1 = H at hP hS ⊢
                have hK : va_K (dC, dI) vwCl [(y0, .int), (y3, .long), (y4, .long), (y5, .int), (y1, .int), (y2, .int)] s := hK
                refine lv_ldc hx hb hown (hG _ wd_597) dX0_expression_205 ?_
                refine lv_icmp_gt (tgt := 224) hx hb dX0_expression_207 (by decide) (fun c92 => ?_) (fun c92 => ?_)
                · skip
                  have j93 : iv r90 65536 2147483647 := iv_ltR (by decide : iv 65535 65535 65535) (iv_any r90) c92 (by decide)
                  refine lv_aload_n hx hb dX0_expression_224 rfl (lv_at hl 1 rfl) ?_
                  refine lv_iconst (v := 2) hx hb dX0_expression_225 (by decide) ?_
                  refine lv_aload_n hx hb dX0_expression_226 rfl (lv_at hl 1 rfl) ?_
                  refine va_get (D := (dC, dI)) (ci := 0) (v := .int r1) (C := RX0) (T := TX0) (N := 17) hx hb hG inGX0 hown hK hP 0 rfl rfl 13 (by decide) (hG _ wd_334) (fun _ h9 => h9) rfl dX0_expression_227 ?_
                  obtain ⟨hPc, hDc, hFc⟩ := nv_sub3 (wc := [(h0, .inr (0, [.ref h1, .ref h2, .ref h3, .ref h4, .ref h5, .ref h6, .ref h7, .int x0, .int 0, .int x2, .int x3, .int x4, .int r63, .int r1, .int 0, .int x8, .int x9]))]) hP hD hS hA [0] (by decide) rfl
                  have hKc := hK.sub (tys' := []) [] rfl
                  refine va_calli (va_runV (As := [.int 2, .int r1]) (rest := []) ⟨hx, hb, hml, hown, hG⟩ (cX0_fail_1 l dC dI h0 h1 h2 h3 h4 h5 h6 h7 H.size 2 r1 x0 0 x2 x3 x4 r63 r1 0 x8 x9 ix0 (iv_w (by decide : iv 0 0 0) (by decide) (by decide)) (iv_w (by decide : iv 0 0 0) (by decide) (by decide))) (cwV 2 hG (gV wd_437 wd_439 wp_1 wd_8 wd_440) rfl rfl rfl (by decide +kernel) ⟨Nat.le_of_ble_eq_true rfl, Nat.le_of_ble_eq_true rfl⟩) ⟨fun a U g mk q => by obtain ⟨q0, q1, qP, qK, qD⟩ := q; exact ⟨q0, q1, qP, va_K.moved (u := U) (U := U.calling g mk a) (Vm.Alike.refl U.vm) qK, qD⟩, va_recv hKc hPc (ci := 0) (q0 := 0) rfl rfl, fun U hU hW => ⟨rfl, by rw [hU], by rw [hU]; exact hPc, va_K.moved hW.alike hKc, hDc.weaken (fun _ _ _ _ => trivial)⟩⟩ rfl rfl hl.1 rfl (lv_room (Nat.le_of_ble_eq_true rfl)) dX0_expression_230 ⟨by decide, by decide⟩) hS (fun q _ h => hFc q h) hFc (fun r94 u95 t H1 locs ht hvm hw hB hz1 hk1 hS => ?_)
                  have hw : r94 = 0 ∧ True := hw
                  obtain ⟨er94, -⟩ := hw
                  obtain ⟨hP1, hK1, hD1⟩ := hB
                  rw [ht] at hP1
                  have hK1 := va_K.moved hvm.symm hK1
                  obtain ⟨hP, hD⟩ := nv_join (wf := [(h9, .inl (y0, 2501, .inl f0)), (h11, .inl (y3, 2501, .inr (.inl g0))), (h6, .inr (4, [.ref h14, .ref h15, .ref h16, .int x15])), (h14, .inl (y4, 60, .inr (.inl g1))), (h15, .inl (y5, 60, .inl f3)), (h8, .inl (y1, 2501, .inl f1)), (h1, .inr (10, [.ref h8, .ref h9, .ref h10, .ref h11, .ref h12, .ref h13, .int x10, .int x11, .int u78_0, .int x13, .int x14, .long z0])), (h10, .inl (y2, 2501, .inl f2)), (h0, .inr (0, [.ref h1, .ref h2, .ref h3, .ref h4, .ref h5, .ref h6, .ref h7, .int x0, .int 0, .int x2, .int x3, .int x4, .int r63, .int r1, .int 0, .int 2, .int r1]))]) hP hD [0] [1, 2, 3, 4, 5, 6, 7, 8] rfl rfl (by decide) (by decide) hk1 hFc hP1 hD1 rfl
                  have hK := (hK.sub (tys' := [(y0, .int), (y3, .long), (y4, .long), (y5, .int), (y1, .int), (y2, .int)]) [0, 1, 2, 3, 4, 5] rfl).app hK1
                  generalize H1 = H at hP hS ⊢
                  have hK : va_K (dC, dI) vwCl [(y0, .int), (y3, .long), (y4, .long), (y5, .int), (y1, .int), (y2, .int)] s := hK
                  subst er94
                  rw [hQ]
                  obtain ⟨hP9, hD9⟩ := nv_sub2 (wc := [(h0, .inr (0, [.ref h1, .ref h2, .ref h3, .ref h4, .ref h5, .ref h6, .ref h7, .int x0, .int 0, .int x2, .int x3, .int x4, .int r63, .int r1, .int 0, .int 2, .int r1])), (h1, .inr (10, [.ref h8, .ref h9, .ref h10, .ref h11, .ref h12, .ref h13, .int x10, .int x11, .int u78_0, .int x13, .int x14, .long z0])), (h9, .inl (y0, 2501, .inl f0)), (h8, .inl (y1, 2501, .inl f1)), (h10, .inl (y2, 2501, .inl f2)), (h11, .inl (y3, 2501, .inr (.inl g0))), (h6, .inr (4, [.ref h14, .ref h15, .ref h16, .int x15])), (h14, .inl (y4, 60, .inr (.inl g1))), (h15, .inl (y5, 60, .inl f3))]) hP hD [8, 6, 0, 5, 7, 1, 2, 3, 4] (by decide) rfl
                  have hK9 := hK.sub (tys' := [(y0, .int), (y1, .int), (y2, .int), (y3, .long), (y4, .long), (y5, .int)]) [0, 4, 5, 1, 2, 3] rfl
                  exact W.zret (v := 0) hx hb hr rfl (fun t ht hW => ⟨⟨0, (0, r63, r1, 0, 2, r1, u78_0), rfl, ⟨iv_w (by decide : iv 0 0 0) (by decide) (by decide), iv_w (by decide : iv 0 0 0) (by decide) (by decide), iv_w (by decide : iv 0 0 0) (by decide) (by decide), iv_w iu78_0 (by decide) (by decide), trivial⟩, by rw [ht]; exact hP9, va_K.moved hW.alike hK9, hD9⟩, hS.F ht⟩) hS.2.2 dX0_expression_233
                · skip
                  have j96 : iv r90 (-2147483648) 65535 := iv_nltR (by decide : iv 65535 65535 65535) (iv_any r90) c92 (by decide)
                  refine lv_aload_n hx hb dX0_expression_210 rfl (lv_at hl 1 rfl) ?_
                  refine va_get (D := (dC, dI)) (ci := 0) (v := .int 0) (C := RX0) (T := TX0) (N := 17) hx hb hG inGX0 hown hK hP 0 rfl rfl 14 (by decide) (hG _ wd_335) (fun _ h9 => h9) rfl dX0_expression_211 ?_
                  refine lv_if_eq (tgt := 234) hx hb dX0_expression_214 (by decide) (fun _ => ?_) (fun c => absurd (by decide) c)
                  refine lv_aload_n hx hb dX0_expression_234 rfl (lv_at hl 1 rfl) ?_
                  refine lv_dup hx hb dX0_expression_235 rfl ?_
                  refine va_get (D := (dC, dI)) (ci := 0) (v := .int r63) (C := RX0) (T := TX0) (N := 17) hx hb hG inGX0 hown hK hP 0 rfl rfl 12 (by decide) (hG _ wd_333) (fun _ h9 => h9) rfl dX0_expression_236 ?_
                  refine lv_iload_n hx hb dX0_expression_239 rfl (lv_at hl 0 rfl) ?_
                  refine lv_iadd hx hb dX0_expression_240 ?_
                  refine lv_topi (fun v97 ev97 => ?_)
                  refine va_put (D := (dC, dI)) (ci := 0) (v := .int v97) (ty := .int) (C := RX0) (T := TX0) (N := 17) hx hb hG inGX0 tyX0 tyX0_ok nmX0 hown hK hP hD hS 0 rfl rfl 12 (by decide) (hG _ wd_333) (fun _ h9 => h9) rfl (by decide +kernel) rfl rfl (Nat.le_of_ble_eq_true rfl) dX0_expression_241 (fun H locs hP hD hS => ?_)
                  obtain ⟨hP, hD⟩ := nv_eq (ws' := [(h0, .inr (0, [.ref h1, .ref h2, .ref h3, .ref h4, .ref h5, .ref h6, .ref h7, .int x0, .int 0, .int x2, .int x3, .int x4, .int v97, .int r1, .int 0, .int x8, .int x9])), (h9, .inl (y0, 2501, .inl f0)), (h11, .inl (y3, 2501, .inr (.inl g0))), (h6, .inr (4, [.ref h14, .ref h15, .ref h16, .int x15])), (h14, .inl (y4, 60, .inr (.inl g1))), (h15, .inl (y5, 60, .inl f3)), (h8, .inl (y1, 2501, .inl f1)), (h1, .inr (10, [.ref h8, .ref h9, .ref h10, .ref h11, .ref h12, .ref h13, .int x10, .int x11, .int u78_0, .int x13, .int x14, .long z0])), (h10, .inl (y2, 2501, .inl f2))]) hP hD rfl
                  refine lv_aload_n hx hb dX0_expression_244 rfl (lv_at hl 1 rfl) ?_
                  refine va_get (D := (dC, dI)) (ci := 0) (v := .ref h1) (C := RX0) (T := TX0) (N := 17) hx hb hG inGX0 hown hK hP 0 rfl rfl 0 (by decide) (hG _ wd_321) (fun _ h9 => h9) rfl dX0_expression_245 ?_
                  obtain ⟨hPc, hDc, hFc⟩ := nv_sub3 (wc := [(h1, .inr (10, [.ref h8, .ref h9, .ref h10, .ref h11, .ref h12, .ref h13, .int x10, .int x11, .int u78_0, .int x13, .int x14, .long z0]))]) hP hD hS hA [7] (by decide) rfl
                  have hKc := hK.sub (tys' := []) [] rfl
                  refine va_callv (va_runV (As := []) (rest := []) ⟨hx, hb, hml, hown, hG⟩ (cX10_skip_1 l dC dI h1 h8 h9 h10 h11 h12 h13 H.size x10 x11 u78_0 x13 x14 z0 ix10 ix11 iu78_0) (cwV 0 hG (gV wd_576 wd_577 wd_578 wd_11 wd_579) rfl rfl rfl (by decide +kernel) ⟨Nat.le_of_ble_eq_true rfl, Nat.le_of_ble_eq_true rfl⟩) ⟨fun a U g mk q => by obtain ⟨q0, q1, qP, qK, qD⟩ := q; exact ⟨q0, q1, qP, va_K.moved (u := U) (U := U.calling g mk a) (Vm.Alike.refl U.vm) qK, qD⟩, va_recv hKc hPc (ci := 10) (q0 := 0) rfl rfl, fun U hU hW => ⟨rfl, by rw [hU], by rw [hU]; exact hPc, va_K.moved hW.alike hKc, hDc.weaken (fun _ _ _ _ => trivial)⟩⟩ rfl rfl hl.1 rfl (lv_room (Nat.le_of_ble_eq_true rfl)) dX0_expression_248 ⟨by decide, by decide⟩) hS (fun q _ h => hFc q h) hFc (fun u99 t H1 locs ht hvm hw hB hz1 hk1 hS => ?_)
                  obtain ⟨u99_0, rfl⟩ : ∃ z, z = u99 := ⟨_, rfl⟩
                  have hw : iv u99_0 0 2500 ∧ True := hw
                  obtain ⟨iu99_0, -⟩ := hw
                  obtain ⟨hP1, hK1, hD1⟩ := hB
                  rw [ht] at hP1
                  have hK1 := va_K.moved hvm.symm hK1
                  obtain ⟨hP, hD⟩ := nv_join (wf := [(h0, .inr (0, [.ref h1, .ref h2, .ref h3, .ref h4, .ref h5, .ref h6, .ref h7, .int x0, .int 0, .int x2, .int x3, .int x4, .int v97, .int r1, .int 0, .int x8, .int x9])), (h9, .inl (y0, 2501, .inl f0)), (h11, .inl (y3, 2501, .inr (.inl g0))), (h6, .inr (4, [.ref h14, .ref h15, .ref h16, .int x15])), (h14, .inl (y4, 60, .inr (.inl g1))), (h15, .inl (y5, 60, .inl f3)), (h8, .inl (y1, 2501, .inl f1)), (h10, .inl (y2, 2501, .inl f2)), (h1, .inr (10, [.ref h8, .ref h9, .ref h10, .ref h11, .ref h12, .ref h13, .int x10, .int x11, .int u99_0, .int x13, .int x14, .long z0]))]) hP hD [7] [0, 1, 2, 3, 4, 5, 6, 8] rfl rfl (by decide) (by decide) hk1 hFc hP1 hD1 rfl
                  have hK := (hK.sub (tys' := [(y0, .int), (y3, .long), (y4, .long), (y5, .int), (y1, .int), (y2, .int)]) [0, 1, 2, 3, 4, 5] rfl).app hK1
                  generalize H1 = H at hP hS ⊢
                  have hK : va_K (dC, dI) vwCl [(y0, .int), (y3, .long), (y4, .long), (y5, .int), (y1, .int), (y2, .int)] s := hK
                  refine lv_iconst (v := 1) hx hb dX0_expression_251 (by decide) ?_
                  rw [hQ]
                  obtain ⟨hP9, hD9⟩ := nv_sub2 (wc := [(h0, .inr (0, [.ref h1, .ref h2, .ref h3, .ref h4, .ref h5, .ref h6, .ref h7, .int x0, .int 0, .int x2, .int x3, .int x4, .int v97, .int r1, .int 0, .int x8, .int x9])), (h1, .inr (10, [.ref h8, .ref h9, .ref h10, .ref h11, .ref h12, .ref h13, .int x10, .int x11, .int u99_0, .int x13, .int x14, .long z0])), (h9, .inl (y0, 2501, .inl f0)), (h8, .inl (y1, 2501, .inl f1)), (h10, .inl (y2, 2501, .inl f2)), (h11, .inl (y3, 2501, .inr (.inl g0))), (h6, .inr (4, [.ref h14, .ref h15, .ref h16, .int x15])), (h14, .inl (y4, 60, .inr (.inl g1))), (h15, .inl (y5, 60, .inl f3))]) hP hD [0, 8, 1, 6, 7, 2, 3, 4, 5] (by decide) rfl
                  have hK9 := hK.sub (tys' := [(y0, .int), (y1, .int), (y2, .int), (y3, .long), (y4, .long), (y5, .int)]) [0, 4, 5, 1, 2, 3] rfl
                  exact W.zret (v := 1) hx hb hr rfl (fun t ht hW => ⟨⟨1, (0, v97, r1, 0, x8, x9, u99_0), rfl, ⟨iv_w (by decide : iv 1 1 1) (by decide) (by decide), iv_w (by decide : iv 0 0 0) (by decide) (by decide), iv_w (by decide : iv 0 0 0) (by decide) (by decide), iv_w iu99_0 (by decide) (by decide), trivial⟩, by rw [ht]; exact hP9, va_K.moved hW.alike hK9, hD9⟩, hS.F ht⟩) hS.2.2 dX0_expression_252
              refine lv_icmp_ne (tgt := 190) hx hb dX0_expression_176 (by decide) (fun c82 => ?_) (fun c82 => ?_)
              · skip
                refine lv_aload_n hx hb dX0_expression_190 rfl (lv_at hl 2 rfl) ?_
                refine va_get (D := (dC, dI)) (ci := 0) (v := .ref h1) (C := RX0) (T := TX0) (N := 17) hx hb hG inGX0 hown hK hP 0 rfl rfl 0 (by decide) (hG _ wd_321) (fun _ h9 => h9) rfl dX0_expression_191 ?_
                obtain ⟨hPc, hDc, hFc⟩ := nv_sub3 (wc := [(h1, .inr (10, [.ref h8, .ref h9, .ref h10, .ref h11, .ref h12, .ref h13, .int x10, .int x11, .int u78_0, .int x13, .int x14, .long z0])), (h10, .inl (y2, 2501, .inl f2))]) hP hD hS hA [7, 1] (by decide) rfl
                have hKc := hK.sub (tys' := [(y2, .int)]) [0] rfl
                refine va_calli (va_runV (As := []) (rest := []) ⟨hx, hb, hml, hown, hG⟩ (cX10_value_1 l dC dI h1 h8 h9 h10 h11 h12 h13 y2 H.size x10 x11 u78_0 x13 x14 z0 f2 ix10 ix11 iu78_0) (cwV 0 hG (gV wd_584 wd_585 wd_586 wd_11 wd_587) rfl rfl rfl (by decide +kernel) ⟨Nat.le_of_ble_eq_true rfl, Nat.le_of_ble_eq_true rfl⟩) ⟨fun a U g mk q => by obtain ⟨q0, q1, qP, qK, qD⟩ := q; exact ⟨q0, q1, qP, va_K.moved (u := U) (U := U.calling g mk a) (Vm.Alike.refl U.vm) qK, qD⟩, va_recv hKc hPc (ci := 10) (q0 := 0) rfl rfl, fun U hU hW => ⟨rfl, by rw [hU], by rw [hU]; exact hPc, va_K.moved hW.alike hKc, hDc.weaken (fun _ _ _ _ => trivial)⟩⟩ rfl rfl hl.1 rfl (lv_room (Nat.le_of_ble_eq_true rfl)) dX0_expression_194 ⟨by decide, by decide⟩) hS (fun q _ h => hFc q h) hFc (fun r100 u101 t H1 locs ht hvm hw hB hz1 hk1 hS => ?_)
                obtain ⟨hP1, hK1, hD1⟩ := hB
                rw [ht] at hP1
                have hK1 := va_K.moved hvm.symm hK1
                obtain ⟨hP, hD⟩ := nv_join (wf := [(h0, .inr (0, [.ref h1, .ref h2, .ref h3, .ref h4, .ref h5, .ref h6, .ref h7, .int x0, .int 0, .int x2, .int x3, .int x4, .int r63, .int r1, .int 0, .int x8, .int x9])), (h9, .inl (y0, 2501, .inl f0)), (h11, .inl (y3, 2501, .inr (.inl g0))), (h6, .inr (4, [.ref h14, .ref h15, .ref h16, .int x15])), (h14, .inl (y4, 60, .inr (.inl g1))), (h15, .inl (y5, 60, .inl f3)), (h8, .inl (y1, 2501, .inl f1)), (h1, .inr (10, [.ref h8, .ref h9, .ref h10, .ref h11, .ref h12, .ref h13, .int x10, .int x11, .int u78_0, .int x13, .int x14, .long z0])), (h10, .inl (y2, 2501, .inl f2))]) hP hD [7, 1] [0, 2, 3, 4, 5, 6, 8] rfl rfl (by decide) (by decide) hk1 hFc hP1 hD1 rfl
                have hK := (hK.sub (tys' := [(y0, .int), (y3, .long), (y4, .long), (y5, .int), (y1, .int)]) [1, 2, 3, 4, 5] rfl).app hK1
                generalize H1 = H at hP hS ⊢
                have hK : va_K (dC, dI) vwCl [(y0, .int), (y3, .long), (y4, .long), (y5, .int), (y1, .int), (y2, .int)] s := hK
                exact j89 r100 _ _ hK hP hD hS ls (lv_sub hl [2] rfl)
              · skip
                subst c82
                refine lv_aload_n hx hb dX0_expression_179 rfl (lv_at hl 2 rfl) ?_
                refine va_get (D := (dC, dI)) (ci := 0) (v := .ref h1) (C := RX0) (T := TX0) (N := 17) hx hb hG inGX0 hown hK hP 0 rfl rfl 0 (by decide) (hG _ wd_321) (fun _ h9 => h9) rfl dX0_expression_180 ?_
                obtain ⟨hPc, hDc, hFc⟩ := nv_sub3 (wc := [(h1, .inr (10, [.ref h8, .ref h9, .ref h10, .ref h11, .ref h12, .ref h13, .int x10, .int x11, .int u78_0, .int x13, .int x14, .long z0])), (h10, .inl (y2, 2501, .inl f2))]) hP hD hS hA [7, 1] (by decide) rfl
                have hKc := hK.sub (tys' := [(y2, .int)]) [0] rfl
                refine va_calli (va_runV (As := []) (rest := []) ⟨hx, hb, hml, hown, hG⟩ (cX10_value_1 l dC dI h1 h8 h9 h10 h11 h12 h13 y2 H.size x10 x11 u78_0 x13 x14 z0 f2 ix10 ix11 iu78_0) (cwV 0 hG (gV wd_584 wd_585 wd_586 wd_11 wd_587) rfl rfl rfl (by decide +kernel) ⟨Nat.le_of_ble_eq_true rfl, Nat.le_of_ble_eq_true rfl⟩) ⟨fun a U g mk q => by obtain ⟨q0, q1, qP, qK, qD⟩ := q; exact ⟨q0, q1, qP, va_K.moved (u := U) (U := U.calling g mk a) (Vm.Alike.refl U.vm) qK, qD⟩, va_recv hKc hPc (ci := 10) (q0 := 0) rfl rfl, fun U hU hW => ⟨rfl, by rw [hU], by rw [hU]; exact hPc, va_K.moved hW.alike hKc, hDc.weaken (fun _ _ _ _ => trivial)⟩⟩ rfl rfl hl.1 rfl (lv_room (Nat.le_of_ble_eq_true rfl)) dX0_expression_183 ⟨by decide, by decide⟩) hS (fun q _ h => hFc q h) hFc (fun r102 u103 t H1 locs ht hvm hw hB hz1 hk1 hS => ?_)
                obtain ⟨hP1, hK1, hD1⟩ := hB
                rw [ht] at hP1
                have hK1 := va_K.moved hvm.symm hK1
                obtain ⟨hP, hD⟩ := nv_join (wf := [(h0, .inr (0, [.ref h1, .ref h2, .ref h3, .ref h4, .ref h5, .ref h6, .ref h7, .int x0, .int 0, .int x2, .int x3, .int x4, .int r63, .int r1, .int 0, .int x8, .int x9])), (h9, .inl (y0, 2501, .inl f0)), (h11, .inl (y3, 2501, .inr (.inl g0))), (h6, .inr (4, [.ref h14, .ref h15, .ref h16, .int x15])), (h14, .inl (y4, 60, .inr (.inl g1))), (h15, .inl (y5, 60, .inl f3)), (h8, .inl (y1, 2501, .inl f1)), (h1, .inr (10, [.ref h8, .ref h9, .ref h10, .ref h11, .ref h12, .ref h13, .int x10, .int x11, .int u78_0, .int x13, .int x14, .long z0])), (h10, .inl (y2, 2501, .inl f2))]) hP hD [7, 1] [0, 2, 3, 4, 5, 6, 8] rfl rfl (by decide) (by decide) hk1 hFc hP1 hD1 rfl
                have hK := (hK.sub (tys' := [(y0, .int), (y3, .long), (y4, .long), (y5, .int), (y1, .int)]) [1, 2, 3, 4, 5] rfl).app hK1
                generalize H1 = H at hP hS ⊢
                have hK : va_K (dC, dI) vwCl [(y0, .int), (y3, .long), (y4, .long), (y5, .int), (y1, .int), (y2, .int)] s := hK
                refine lv_ineg hx hb dX0_expression_186 ?_
                refine lv_topi (fun v104 ev104 => ?_)
                refine lv_goto (tgt := 197) hx hb dX0_expression_187 (by decide) ?_
                exact j89 v104 _ _ hK hP hD hS ls (lv_sub hl [2] rfl)
            · skip
              refine lv_aload_n hx hb dX0_expression_160 rfl (lv_at hl 2 rfl) ?_
              refine lv_iconst (v := 1) hx hb dX0_expression_161 (by decide) ?_
              refine lv_aload_n hx hb dX0_expression_162 rfl (lv_at hl 2 rfl) ?_
              refine va_get (D := (dC, dI)) (ci := 0) (v := .ref h1) (C := RX0) (T := TX0) (N := 17) hx hb hG inGX0 hown hK hP 0 rfl rfl 0 (by decide) (hG _ wd_321) (fun _ h9 => h9) rfl dX0_expression_163 ?_
              obtain ⟨hPc, hDc, hFc⟩ := nv_sub3 (wc := [(h1, .inr (10, [.ref h8, .ref h9, .ref h10, .ref h11, .ref h12, .ref h13, .int x10, .int x11, .int u78_0, .int x13, .int x14, .long z0])), (h9, .inl (y0, 2501, .inl f0))]) hP hD hS hA [7, 2] (by decide) rfl
              have hKc := hK.sub (tys' := [(y0, .int)]) [1] rfl
              refine va_calli (va_runV (As := []) (rest := [.int 1, .ref h0]) ⟨hx, hb, hml, hown, hG⟩ (cX10_place_1 l dC dI h1 h8 h9 h10 h11 h12 h13 y0 H.size x10 x11 u78_0 x13 x14 z0 f0 ix10 ix11 iu78_0) (cwV 0 hG (gV wd_572 wd_573 wd_574 wd_11 wd_575) rfl rfl rfl (by decide +kernel) ⟨Nat.le_of_ble_eq_true rfl, Nat.le_of_ble_eq_true rfl⟩) ⟨fun a U g mk q => by obtain ⟨q0, q1, qP, qK, qD⟩ := q; exact ⟨q0, q1, qP, va_K.moved (u := U) (U := U.calling g mk a) (Vm.Alike.refl U.vm) qK, qD⟩, va_recv hKc hPc (ci := 10) (q0 := 0) rfl rfl, fun U hU hW => ⟨rfl, by rw [hU], by rw [hU]; exact hPc, va_K.moved hW.alike hKc, hDc.weaken (fun _ _ _ _ => trivial)⟩⟩ rfl rfl hl.1 rfl (lv_room (Nat.le_of_ble_eq_true rfl)) dX0_expression_166 ⟨by decide, by decide⟩) hS (fun q _ h => hFc q h) hFc (fun r105 u106 t H1 locs ht hvm hw hB hz1 hk1 hS => ?_)
              obtain ⟨hP1, hK1, hD1⟩ := hB
              rw [ht] at hP1
              have hK1 := va_K.moved hvm.symm hK1
              obtain ⟨hP, hD⟩ := nv_join (wf := [(h0, .inr (0, [.ref h1, .ref h2, .ref h3, .ref h4, .ref h5, .ref h6, .ref h7, .int x0, .int 0, .int x2, .int x3, .int x4, .int r63, .int r1, .int 0, .int x8, .int x9])), (h10, .inl (y2, 2501, .inl f2)), (h11, .inl (y3, 2501, .inr (.inl g0))), (h6, .inr (4, [.ref h14, .ref h15, .ref h16, .int x15])), (h14, .inl (y4, 60, .inr (.inl g1))), (h15, .inl (y5, 60, .inl f3)), (h8, .inl (y1, 2501, .inl f1)), (h1, .inr (10, [.ref h8, .ref h9, .ref h10, .ref h11, .ref h12, .ref h13, .int x10, .int x11, .int u78_0, .int x13, .int x14, .long z0])), (h9, .inl (y0, 2501, .inl f0))]) hP hD [7, 2] [0, 1, 3, 4, 5, 6, 8] rfl rfl (by decide) (by decide) hk1 hFc hP1 hD1 rfl
              have hK := (hK.sub (tys' := [(y2, .int), (y3, .long), (y4, .long), (y5, .int), (y1, .int)]) [0, 2, 3, 4, 5] rfl).app hK1
              generalize H1 = H at hP hS ⊢
              have hK : va_K (dC, dI) vwCl [(y2, .int), (y3, .long), (y4, .long), (y5, .int), (y1, .int), (y0, .int)] s := hK
              obtain ⟨hPc, hDc, hFc⟩ := nv_sub3 (wc := [(h0, .inr (0, [.ref h1, .ref h2, .ref h3, .ref h4, .ref h5, .ref h6, .ref h7, .int x0, .int 0, .int x2, .int x3, .int x4, .int r63, .int r1, .int 0, .int x8, .int x9]))]) hP hD hS hA [0] (by decide) rfl
              have hKc := hK.sub (tys' := []) [] rfl
              refine va_calli (va_runV (As := [.int 1, .int r105]) (rest := []) ⟨hx, hb, hml, hown, hG⟩ (cX0_fail_1 l dC dI h0 h1 h2 h3 h4 h5 h6 h7 H.size 1 r105 x0 0 x2 x3 x4 r63 r1 0 x8 x9 ix0 (iv_w (by decide : iv 0 0 0) (by decide) (by decide)) (iv_w (by decide : iv 0 0 0) (by decide) (by decide))) (cwV 2 hG (gV wd_437 wd_439 wp_1 wd_8 wd_440) rfl rfl rfl (by decide +kernel) ⟨Nat.le_of_ble_eq_true rfl, Nat.le_of_ble_eq_true rfl⟩) ⟨fun a U g mk q => by obtain ⟨q0, q1, qP, qK, qD⟩ := q; exact ⟨q0, q1, qP, va_K.moved (u := U) (U := U.calling g mk a) (Vm.Alike.refl U.vm) qK, qD⟩, va_recv hKc hPc (ci := 0) (q0 := 0) rfl rfl, fun U hU hW => ⟨rfl, by rw [hU], by rw [hU]; exact hPc, va_K.moved hW.alike hKc, hDc.weaken (fun _ _ _ _ => trivial)⟩⟩ rfl rfl hl.1 rfl (lv_room (Nat.le_of_ble_eq_true rfl)) dX0_expression_169 ⟨by decide, by decide⟩) hS (fun q _ h => hFc q h) hFc (fun r107 u108 t H1 locs ht hvm hw hB hz1 hk1 hS => ?_)
              have hw : r107 = 0 ∧ True := hw
              obtain ⟨er107, -⟩ := hw
              obtain ⟨hP1, hK1, hD1⟩ := hB
              rw [ht] at hP1
              have hK1 := va_K.moved hvm.symm hK1
              obtain ⟨hP, hD⟩ := nv_join (wf := [(h10, .inl (y2, 2501, .inl f2)), (h11, .inl (y3, 2501, .inr (.inl g0))), (h6, .inr (4, [.ref h14, .ref h15, .ref h16, .int x15])), (h14, .inl (y4, 60, .inr (.inl g1))), (h15, .inl (y5, 60, .inl f3)), (h8, .inl (y1, 2501, .inl f1)), (h1, .inr (10, [.ref h8, .ref h9, .ref h10, .ref h11, .ref h12, .ref h13, .int x10, .int x11, .int u78_0, .int x13, .int x14, .long z0])), (h9, .inl (y0, 2501, .inl f0)), (h0, .inr (0, [.ref h1, .ref h2, .ref h3, .ref h4, .ref h5, .ref h6, .ref h7, .int x0, .int 0, .int x2, .int x3, .int x4, .int r63, .int r1, .int 0, .int 1, .int r105]))]) hP hD [0] [1, 2, 3, 4, 5, 6, 7, 8] rfl rfl (by decide) (by decide) hk1 hFc hP1 hD1 rfl
              have hK := (hK.sub (tys' := [(y2, .int), (y3, .long), (y4, .long), (y5, .int), (y1, .int), (y0, .int)]) [0, 1, 2, 3, 4, 5] rfl).app hK1
              generalize H1 = H at hP hS ⊢
              have hK : va_K (dC, dI) vwCl [(y2, .int), (y3, .long), (y4, .long), (y5, .int), (y1, .int), (y0, .int)] s := hK
              subst er107
              rw [hQ]
              obtain ⟨hP9, hD9⟩ := nv_sub2 (wc := [(h0, .inr (0, [.ref h1, .ref h2, .ref h3, .ref h4, .ref h5, .ref h6, .ref h7, .int x0, .int 0, .int x2, .int x3, .int x4, .int r63, .int r1, .int 0, .int 1, .int r105])), (h1, .inr (10, [.ref h8, .ref h9, .ref h10, .ref h11, .ref h12, .ref h13, .int x10, .int x11, .int u78_0, .int x13, .int x14, .long z0])), (h9, .inl (y0, 2501, .inl f0)), (h8, .inl (y1, 2501, .inl f1)), (h10, .inl (y2, 2501, .inl f2)), (h11, .inl (y3, 2501, .inr (.inl g0))), (h6, .inr (4, [.ref h14, .ref h15, .ref h16, .int x15])), (h14, .inl (y4, 60, .inr (.inl g1))), (h15, .inl (y5, 60, .inl f3))]) hP hD [8, 6, 7, 5, 0, 1, 2, 3, 4] (by decide) rfl
              have hK9 := hK.sub (tys' := [(y0, .int), (y1, .int), (y2, .int), (y3, .long), (y4, .long), (y5, .int)]) [5, 4, 0, 1, 2, 3] rfl
              exact W.zret (v := 0) hx hb hr rfl (fun t ht hW => ⟨⟨0, (0, r63, r1, 0, 1, r105, u78_0), rfl, ⟨iv_w (by decide : iv 0 0 0) (by decide) (by decide), iv_w (by decide : iv 0 0 0) (by decide) (by decide), iv_w (by decide : iv 0 0 0) (by decide) (by decide), iv_w iu78_0 (by decide) (by decide), trivial⟩, by rw [ht]; exact hP9, va_K.moved hW.alike hK9, hD9⟩, hS.F ht⟩) hS.2.2 dX0_expression_172
          · skip
            subst c75
            refine lv_iconst (v := 1) hx hb dX0_expression_136 (by decide) ?_
            rw [hQ]
            obtain ⟨hP9, hD9⟩ := nv_sub2 (wc := [(h0, .inr (0, [.ref h1, .ref h2, .ref h3, .ref h4, .ref h5, .ref h6, .ref h7, .int x0, .int 0, .int x2, .int x3, .int x4, .int r63, .int r1, .int 0, .int x8, .int x9])), (h1, .inr (10, [.ref h8, .ref h9, .ref h10, .ref h11, .ref h12, .ref h13, .int x10, .int x11, .int u67_0, .int x13, .int x14, .long z0])), (h9, .inl (y0, 2501, .inl f0)), (h8, .inl (y1, 2501, .inl f1)), (h10, .inl (y2, 2501, .inl f2)), (h11, .inl (y3, 2501, .inr (.inl g0))), (h6, .inr (4, [.ref h14, .ref h15, .ref h16, .int x15])), (h14, .inl (y4, 60, .inr (.inl g1))), (h15, .inl (y5, 60, .inl f3))]) hP hD [0, 7, 2, 8, 1, 3, 4, 5, 6] (by decide) rfl
            have hK9 := hK.sub (tys' := [(y0, .int), (y1, .int), (y2, .int), (y3, .long), (y4, .long), (y5, .int)]) [1, 5, 0, 2, 3, 4] rfl
            exact W.zret (v := 1) hx hb hr rfl (fun t ht hW => ⟨⟨1, (0, r63, r1, 0, x8, x9, u67_0), rfl, ⟨iv_w (by decide : iv 1 1 1) (by decide) (by decide), iv_w (by decide : iv 0 0 0) (by decide) (by decide), iv_w (by decide : iv 0 0 0) (by decide) (by decide), iv_w iu67_0 (by decide) (by decide), trivial⟩, by rw [ht]; exact hP9, va_K.moved hW.alike hK9, hD9⟩, hS.F ht⟩) hS.2.2 dX0_expression_137
        refine lv_icmp_eq (tgt := 119) hx hb dX0_expression_103 (by decide) (fun c70 => ?_) (fun c70 => ?_)
        · skip
          subst c70
          refine lv_iconst (v := 1) hx hb dX0_expression_119 (by decide) ?_
          refine lv_goto (tgt := 124) hx hb dX0_expression_120 (by decide) ?_
          exact j74 1 45 (iv_w (by decide : iv 1 1 1) (by decide) (by decide)) _ _ hK hP hD hS ls hl
        · skip
          refine lv_iload_n hx hb dX0_expression_106 rfl (lv_at hl 0 rfl) ?_
          refine lv_bipush (v := 43) hx hb dX0_expression_107 (by decide) ?_
          refine lv_icmp_ne (tgt := 123) hx hb dX0_expression_109 (by decide) (fun c109 => ?_) (fun c109 => ?_)
          · skip
            refine lv_iconst (v := 0) hx hb dX0_expression_123 (by decide) ?_
            exact j74 0 r68 (iv_w (by decide : iv 0 0 0) (by decide) (by decide)) _ _ hK hP hD hS ls hl
          · skip
            subst c109
            refine lv_aload_n hx hb dX0_expression_112 rfl (lv_at hl 1 rfl) ?_
            refine va_get (D := (dC, dI)) (ci := 0) (v := .int 0) (C := RX0) (T := TX0) (N := 17) hx hb hG inGX0 hown hK hP 0 rfl rfl 14 (by decide) (hG _ wd_335) (fun _ h9 => h9) rfl dX0_expression_113 ?_
            refine lv_if_ne (tgt := 123) hx hb dX0_expression_116 (by decide) (fun c => absurd (by decide) c) (fun _ => ?_)
            refine lv_iconst (v := 1) hx hb dX0_expression_119 (by decide) ?_
            refine lv_goto (tgt := 124) hx hb dX0_expression_120 (by decide) ?_
            exact j74 1 43 (iv_w (by decide : iv 1 1 1) (by decide) (by decide)) _ _ hK hP hD hS ls hl
      · skip
        have j110 : iv x1 1 1 := iv_neLo ix1 (by decide : iv 0 0 0) c65 (by decide)
        refine lv_iload_n hx hb dX0_expression_65 rfl (lv_at hl 0 rfl) ?_
        refine lv_iconst (v := (-1)) hx hb dX0_expression_66 (by decide) ?_
        refine lv_icmp_ne (tgt := 80) hx hb dX0_expression_67 (by decide) (fun c111 => ?_) (fun c111 => ?_)
        · skip
          refine lv_aload_n hx hb dX0_expression_80 rfl (lv_at hl 1 rfl) ?_
          refine lv_iload_n hx hb dX0_expression_81 rfl (lv_at hl 0 rfl) ?_
          refine va_put (D := (dC, dI)) (ci := 0) (v := .int r63) (ty := .int) (C := RX0) (T := TX0) (N := 17) hx hb hG inGX0 tyX0 tyX0_ok nmX0 hown hK hP hD hS 0 rfl rfl 12 (by decide) (hG _ wd_333) (fun _ h9 => h9) rfl (by decide +kernel) rfl rfl (Nat.le_of_ble_eq_true rfl) dX0_expression_82 (fun H locs hP hD hS => ?_)
          obtain ⟨hP, hD⟩ := nv_eq (ws' := [(h0, .inr (0, [.ref h1, .ref h2, .ref h3, .ref h4, .ref h5, .ref h6, .ref h7, .int x0, .int x1, .int x2, .int x3, .int x4, .int r63, .int r1, .int 0, .int x8, .int x9])), (h10, .inl (y2, 2501, .inl f2)), (h9, .inl (y0, 2501, .inl f0)), (h8, .inl (y1, 2501, .inl f1)), (h1, .inr (10, [.ref h8, .ref h9, .ref h10, .ref h11, .ref h12, .ref h13, .int x10, .int x11, .int x12, .int x13, .int x14, .long z0])), (h11, .inl (y3, 2501, .inr (.inl g0))), (h6, .inr (4, [.ref h14, .ref h15, .ref h16, .int x15])), (h14, .inl (y4, 60, .inr (.inl g1))), (h15, .inl (y5, 60, .inl f3))]) hP hD rfl
          refine lv_aload_n hx hb dX0_expression_85 rfl (lv_at hl 1 rfl) ?_
          refine va_get (D := (dC, dI)) (ci := 0) (v := .ref h1) (C := RX0) (T := TX0) (N := 17) hx hb hG inGX0 hown hK hP 0 rfl rfl 0 (by decide) (hG _ wd_321) (fun _ h9 => h9) rfl dX0_expression_86 ?_
          obtain ⟨hPc, hDc, hFc⟩ := nv_sub3 (wc := [(h1, .inr (10, [.ref h8, .ref h9, .ref h10, .ref h11, .ref h12, .ref h13, .int x10, .int x11, .int x12, .int x13, .int x14, .long z0]))]) hP hD hS hA [4] (by decide) rfl
          have hKc := hK.sub (tys' := []) [] rfl
          refine va_callv (va_runV (As := []) (rest := []) ⟨hx, hb, hml, hown, hG⟩ (cX10_skip_1 l dC dI h1 h8 h9 h10 h11 h12 h13 H.size x10 x11 x12 x13 x14 z0 ix10 ix11 ix12) (cwV 0 hG (gV wd_576 wd_577 wd_578 wd_11 wd_579) rfl rfl rfl (by decide +kernel) ⟨Nat.le_of_ble_eq_true rfl, Nat.le_of_ble_eq_true rfl⟩) ⟨fun a U g mk q => by obtain ⟨q0, q1, qP, qK, qD⟩ := q; exact ⟨q0, q1, qP, va_K.moved (u := U) (U := U.calling g mk a) (Vm.Alike.refl U.vm) qK, qD⟩, va_recv hKc hPc (ci := 10) (q0 := 0) rfl rfl, fun U hU hW => ⟨rfl, by rw [hU], by rw [hU]; exact hPc, va_K.moved hW.alike hKc, hDc.weaken (fun _ _ _ _ => trivial)⟩⟩ rfl rfl hl.1 rfl (lv_room (Nat.le_of_ble_eq_true rfl)) dX0_expression_89 ⟨by decide, by decide⟩) hS (fun q _ h => hFc q h) hFc (fun u113 t H1 locs ht hvm hw hB hz1 hk1 hS => ?_)
          obtain ⟨u113_0, rfl⟩ : ∃ z, z = u113 := ⟨_, rfl⟩
          have hw : iv u113_0 0 2500 ∧ True := hw
          obtain ⟨iu113_0, -⟩ := hw
          obtain ⟨hP1, hK1, hD1⟩ := hB
          rw [ht] at hP1
          have hK1 := va_K.moved hvm.symm hK1
          obtain ⟨hP, hD⟩ := nv_join (wf := [(h0, .inr (0, [.ref h1, .ref h2, .ref h3, .ref h4, .ref h5, .ref h6, .ref h7, .int x0, .int x1, .int x2, .int x3, .int x4, .int r63, .int r1, .int 0, .int x8, .int x9])), (h10, .inl (y2, 2501, .inl f2)), (h9, .inl (y0, 2501, .inl f0)), (h8, .inl (y1, 2501, .inl f1)), (h11, .inl (y3, 2501, .inr (.inl g0))), (h6, .inr (4, [.ref h14, .ref h15, .ref h16, .int x15])), (h14, .inl (y4, 60, .inr (.inl g1))), (h15, .inl (y5, 60, .inl f3)), (h1, .inr (10, [.ref h8, .ref h9, .ref h10, .ref h11, .ref h12, .ref h13, .int x10, .int x11, .int u113_0, .int x13, .int x14, .long z0]))]) hP hD [4] [0, 1, 2, 3, 5, 6, 7, 8] rfl rfl (by decide) (by decide) hk1 hFc hP1 hD1 rfl
          have hK := (hK.sub (tys' := [(y2, .int), (y0, .int), (y1, .int), (y3, .long), (y4, .long), (y5, .int)]) [0, 1, 2, 3, 4, 5] rfl).app hK1
          generalize H1 = H at hP hS ⊢
          have hK : va_K (dC, dI) vwCl [(y2, .int), (y0, .int), (y1, .int), (y3, .long), (y4, .long), (y5, .int)] s := hK
          refine lv_aload_n hx hb dX0_expression_92 rfl (lv_at hl 1 rfl) ?_
          refine va_get (D := (dC, dI)) (ci := 0) (v := .ref h1) (C := RX0) (T := TX0) (N := 17) hx hb hG inGX0 hown hK hP 0 rfl rfl 0 (by decide) (hG _ wd_321) (fun _ h9 => h9) rfl dX0_expression_93 ?_
          obtain ⟨hPc, hDc, hFc⟩ := nv_sub3 (wc := [(h1, .inr (10, [.ref h8, .ref h9, .ref h10, .ref h11, .ref h12, .ref h13, .int x10, .int x11, .int u113_0, .int x13, .int x14, .long z0])), (h8, .inl (y1, 2501, .inl f1))]) hP hD hS hA [8, 3] (by decide) rfl
          have hKc := hK.sub (tys' := [(y1, .int)]) [2] rfl
          refine va_calli (va_runV (As := []) (rest := []) ⟨hx, hb, hml, hown, hG⟩ (cX10_kind_1 l dC dI h1 h8 h9 h10 h11 h12 h13 y1 H.size x10 x11 u113_0 x13 x14 z0 f1 ix10 ix11 iu113_0) (cwV 0 hG (gV wd_556 wd_557 wd_558 wd_11 wd_559) rfl rfl rfl (by decide +kernel) ⟨Nat.le_of_ble_eq_true rfl, Nat.le_of_ble_eq_true rfl⟩) ⟨fun a U g mk q => by obtain ⟨q0, q1, qP, qK, qD⟩ := q; exact ⟨q0, q1, qP, va_K.moved (u := U) (U := U.calling g mk a) (Vm.Alike.refl U.vm) qK, qD⟩, va_recv hKc hPc (ci := 10) (q0 := 0) rfl rfl, fun U hU hW => ⟨rfl, by rw [hU], by rw [hU]; exact hPc, va_K.moved hW.alike hKc, hDc.weaken (fun _ _ _ _ => trivial)⟩⟩ rfl rfl hl.1 rfl (lv_room (Nat.le_of_ble_eq_true rfl)) dX0_expression_96 ⟨by decide, by decide⟩) hS (fun q _ h => hFc q h) hFc (fun r114 u115 t H1 locs ht hvm hw hB hz1 hk1 hS => ?_)
          obtain ⟨hP1, hK1, hD1⟩ := hB
          rw [ht] at hP1
          have hK1 := va_K.moved hvm.symm hK1
          obtain ⟨hP, hD⟩ := nv_join (wf := [(h0, .inr (0, [.ref h1, .ref h2, .ref h3, .ref h4, .ref h5, .ref h6, .ref h7, .int x0, .int x1, .int x2, .int x3, .int x4, .int r63, .int r1, .int 0, .int x8, .int x9])), (h10, .inl (y2, 2501, .inl f2)), (h9, .inl (y0, 2501, .inl f0)), (h11, .inl (y3, 2501, .inr (.inl g0))), (h6, .inr (4, [.ref h14, .ref h15, .ref h16, .int x15])), (h14, .inl (y4, 60, .inr (.inl g1))), (h15, .inl (y5, 60, .inl f3)), (h1, .inr (10, [.ref h8, .ref h9, .ref h10, .ref h11, .ref h12, .ref h13, .int x10, .int x11, .int u113_0, .int x13, .int x14, .long z0])), (h8, .inl (y1, 2501, .inl f1))]) hP hD [8, 3] [0, 1, 2, 4, 5, 6, 7] rfl rfl (by decide) (by decide) hk1 hFc hP1 hD1 rfl
          have hK := (hK.sub (tys' := [(y2, .int), (y0, .int), (y3, .long), (y4, .long), (y5, .int)]) [0, 1, 3, 4, 5] rfl).app hK1
          generalize H1 = H at hP hS ⊢
          have hK : va_K (dC, dI) vwCl [(y2, .int), (y0, .int), (y3, .long), (y4, .long), (y5, .int), (y1, .int)] s := hK
          refine lv_istore_n (lv' := [(1, .int r114), (0, .ref h0)]) hx hb dX0_expression_99 rfl hl (by decide) rfl (fun ls hl => ?_)
          refine lv_iload_n hx hb dX0_expression_100 rfl (lv_at hl 0 rfl) ?_
          refine lv_bipush (v := 45) hx hb dX0_expression_101 (by decide) ?_
          refine jcut (a := ∀ (b118 : Int32) (b119 : Int32) (ib118 : iv b118 0 1) (H : Heap) (locs : List Loc) (hK : va_K (dC, dI) vwCl [(y2, .int), (y0, .int), (y3, .long), (y4, .long), (y5, .int), (y1, .int)] s) (hP : va_P (dC, dI) vwCl [(h0, .inr (0, [.ref h1, .ref h2, .ref h3, .ref h4, .ref h5, .ref h6, .ref h7, .int x0, .int x1, .int x2, .int x3, .int x4, .int r63, .int r1, .int 0, .int x8, .int x9])), (h10, .inl (y2, 2501, .inl f2)), (h9, .inl (y0, 2501, .inl f0)), (h11, .inl (y3, 2501, .inr (.inl g0))), (h6, .inr (4, [.ref h14, .ref h15, .ref h16, .int x15])), (h14, .inl (y4, 60, .inr (.inl g1))), (h15, .inl (y5, 60, .inl f3)), (h1, .inr (10, [.ref h8, .ref h9, .ref h10, .ref h11, .ref h12, .ref h13, .int x10, .int x11, .int u113_0, .int x13, .int x14, .long z0])), (h8, .inl (y1, 2501, .inl f1))] H) (hD : va_D A [(h0, .inr (0, [.ref h1, .ref h2, .ref h3, .ref h4, .ref h5, .ref h6, .ref h7, .int x0, .int x1, .int x2, .int x3, .int x4, .int r63, .int r1, .int 0, .int x8, .int x9])), (h10, .inl (y2, 2501, .inl f2)), (h9, .inl (y0, 2501, .inl f0)), (h11, .inl (y3, 2501, .inr (.inl g0))), (h6, .inr (4, [.ref h14, .ref h15, .ref h16, .int x15])), (h14, .inl (y4, 60, .inr (.inl g1))), (h15, .inl (y5, 60, .inl f3)), (h1, .inr (10, [.ref h8, .ref h9, .ref h10, .ref h11, .ref h12, .ref h13, .int x10, .int x11, .int u113_0, .int x13, .int x14, .long z0])), (h8, .inl (y1, 2501, .inl f1))]) (hS : va_S A s.heap H locs) (ls : Array Slot) (hl : lv_has ls 4 [(1, .int b119), (0, .ref h0)]), W p l e (headSpec (Cond.code yX0_expression cX0_expression 4 (some .boolean) :: lw_G) ({ frames := 1, cells := 0, slots := 0, locals := 23 })).room s m ar below meth c H locs 0 0 Q (F0 m 124 ls [.int b118])) ?_ (fun j120 => ?_)
          · skip
            intro b118 b119 ib118 H locs hK hP hD hS ls hl
            refine lv_istore_n (lv' := [(2, .int b118), (1, .int b119), (0, .ref h0)]) hx hb dX0_expression_124 rfl hl (by decide) rfl (fun ls hl => ?_)
            refine lv_aload_n hx hb dX0_expression_125 rfl (lv_at hl 2 rfl) ?_
            refine va_get (D := (dC, dI)) (ci := 0) (v := .int 0) (C := RX0) (T := TX0) (N := 17) hx hb hG inGX0 hown hK hP 0 rfl rfl 14 (by decide) (hG _ wd_335) (fun _ h9 => h9) rfl dX0_expression_126 ?_
            refine lv_if_ne (tgt := 138) hx hb dX0_expression_129 (by decide) (fun c => absurd (by decide) c) (fun _ => ?_)
            refine lv_iload_n hx hb dX0_expression_132 rfl (lv_at hl 0 rfl) ?_
            refine lv_if_ne (tgt := 138) hx hb dX0_expression_133 (by decide) (fun c121 => ?_) (fun c121 => ?_)
            · skip
              have j122 : iv b118 1 1 := iv_neLo ib118 (by decide : iv 0 0 0) c121 (by decide)
              refine lv_iload_n hx hb dX0_expression_138 rfl (lv_at hl 0 rfl) ?_
              refine lv_if_eq (tgt := 149) hx hb dX0_expression_139 (by decide) (fun c => absurd c c121) (fun _ => ?_)
              refine lv_aload_n hx hb dX0_expression_142 rfl (lv_at hl 2 rfl) ?_
              refine va_get (D := (dC, dI)) (ci := 0) (v := .ref h1) (C := RX0) (T := TX0) (N := 17) hx hb hG inGX0 hown hK hP 0 rfl rfl 0 (by decide) (hG _ wd_321) (fun _ h9 => h9) rfl dX0_expression_143 ?_
              obtain ⟨hPc, hDc, hFc⟩ := nv_sub3 (wc := [(h1, .inr (10, [.ref h8, .ref h9, .ref h10, .ref h11, .ref h12, .ref h13, .int x10, .int x11, .int u113_0, .int x13, .int x14, .long z0]))]) hP hD hS hA [7] (by decide) rfl
              have hKc := hK.sub (tys' := []) [] rfl
              refine va_callv (va_runV (As := []) (rest := []) ⟨hx, hb, hml, hown, hG⟩ (cX10_skip_1 l dC dI h1 h8 h9 h10 h11 h12 h13 H.size x10 x11 u113_0 x13 x14 z0 ix10 ix11 iu113_0) (cwV 0 hG (gV wd_576 wd_577 wd_578 wd_11 wd_579) rfl rfl rfl (by decide +kernel) ⟨Nat.le_of_ble_eq_true rfl, Nat.le_of_ble_eq_true rfl⟩) ⟨fun a U g mk q => by obtain ⟨q0, q1, qP, qK, qD⟩ := q; exact ⟨q0, q1, qP, va_K.moved (u := U) (U := U.calling g mk a) (Vm.Alike.refl U.vm) qK, qD⟩, va_recv hKc hPc (ci := 10) (q0 := 0) rfl rfl, fun U hU hW => ⟨rfl, by rw [hU], by rw [hU]; exact hPc, va_K.moved hW.alike hKc, hDc.weaken (fun _ _ _ _ => trivial)⟩⟩ rfl rfl hl.1 rfl (lv_room (Nat.le_of_ble_eq_true rfl)) dX0_expression_146 ⟨by decide, by decide⟩) hS (fun q _ h => hFc q h) hFc (fun u124 t H1 locs ht hvm hw hB hz1 hk1 hS => ?_)
              obtain ⟨u124_0, rfl⟩ : ∃ z, z = u124 := ⟨_, rfl⟩
              have hw : iv u124_0 0 2500 ∧ True := hw
              obtain ⟨iu124_0, -⟩ := hw
              obtain ⟨hP1, hK1, hD1⟩ := hB
              rw [ht] at hP1
              have hK1 := va_K.moved hvm.symm hK1
              obtain ⟨hP, hD⟩ := nv_join (wf := [(h0, .inr (0, [.ref h1, .ref h2, .ref h3, .ref h4, .ref h5, .ref h6, .ref h7, .int x0, .int x1, .int x2, .int x3, .int x4, .int r63, .int r1, .int 0, .int x8, .int x9])), (h10, .inl (y2, 2501, .inl f2)), (h9, .inl (y0, 2501, .inl f0)), (h11, .inl (y3, 2501, .inr (.inl g0))), (h6, .inr (4, [.ref h14, .ref h15, .ref h16, .int x15])), (h14, .inl (y4, 60, .inr (.inl g1))), (h15, .inl (y5, 60, .inl f3)), (h8, .inl (y1, 2501, .inl f1)), (h1, .inr (10, [.ref h8, .ref h9, .ref h10, .ref h11, .ref h12, .ref h13, .int x10, .int x11, .int u124_0, .int x13, .int x14, .long z0]))]) hP hD [7] [0, 1, 2, 3, 4, 5, 6, 8] rfl rfl (by decide) (by decide) hk1 hFc hP1 hD1 rfl
              have hK := (hK.sub (tys' := [(y2, .int), (y0, .int), (y3, .long), (y4, .long), (y5, .int), (y1, .int)]) [0, 1, 2, 3, 4, 5] rfl).app hK1
              generalize H1 = H at hP hS ⊢
              have hK : va_K (dC, dI) vwCl [(y2, .int), (y0, .int), (y3, .long), (y4, .long), (y5, .int), (y1, .int)] s := hK
              refine lv_aload_n hx hb dX0_expression_149 rfl (lv_at hl 2 rfl) ?_
              refine va_get (D := (dC, dI)) (ci := 0) (v := .ref h1) (C := RX0) (T := TX0) (N := 17) hx hb hG inGX0 hown hK hP 0 rfl rfl 0 (by decide) (hG _ wd_321) (fun _ h9 => h9) rfl dX0_expression_150 ?_
              obtain ⟨hPc, hDc, hFc⟩ := nv_sub3 (wc := [(h1, .inr (10, [.ref h8, .ref h9, .ref h10, .ref h11, .ref h12, .ref h13, .int x10, .int x11, .int u124_0, .int x13, .int x14, .long z0])), (h8, .inl (y1, 2501, .inl f1))]) hP hD hS hA [8, 7] (by decide) rfl
              have hKc := hK.sub (tys' := [(y1, .int)]) [5] rfl
              refine va_calli (va_runV (As := []) (rest := []) ⟨hx, hb, hml, hown, hG⟩ (cX10_kind_1 l dC dI h1 h8 h9 h10 h11 h12 h13 y1 H.size x10 x11 u124_0 x13 x14 z0 f1 ix10 ix11 iu124_0) (cwV 0 hG (gV wd_556 wd_557 wd_558 wd_11 wd_559) rfl rfl rfl (by decide +kernel) ⟨Nat.le_of_ble_eq_true rfl, Nat.le_of_ble_eq_true rfl⟩) ⟨fun a U g mk q => by obtain ⟨q0, q1, qP, qK, qD⟩ := q; exact ⟨q0, q1, qP, va_K.moved (u := U) (U := U.calling g mk a) (Vm.Alike.refl U.vm) qK, qD⟩, va_recv hKc hPc (ci := 10) (q0 := 0) rfl rfl, fun U hU hW => ⟨rfl, by rw [hU], by rw [hU]; exact hPc, va_K.moved hW.alike hKc, hDc.weaken (fun _ _ _ _ => trivial)⟩⟩ rfl rfl hl.1 rfl (lv_room (Nat.le_of_ble_eq_true rfl)) dX0_expression_153 ⟨by decide, by decide⟩) hS (fun q _ h => hFc q h) hFc (fun r125 u126 t H1 locs ht hvm hw hB hz1 hk1 hS => ?_)
              obtain ⟨hP1, hK1, hD1⟩ := hB
              rw [ht] at hP1
              have hK1 := va_K.moved hvm.symm hK1
              obtain ⟨hP, hD⟩ := nv_join (wf := [(h0, .inr (0, [.ref h1, .ref h2, .ref h3, .ref h4, .ref h5, .ref h6, .ref h7, .int x0, .int x1, .int x2, .int x3, .int x4, .int r63, .int r1, .int 0, .int x8, .int x9])), (h10, .inl (y2, 2501, .inl f2)), (h9, .inl (y0, 2501, .inl f0)), (h11, .inl (y3, 2501, .inr (.inl g0))), (h6, .inr (4, [.ref h14, .ref h15, .ref h16, .int x15])), (h14, .inl (y4, 60, .inr (.inl g1))), (h15, .inl (y5, 60, .inl f3)), (h1, .inr (10, [.ref h8, .ref h9, .ref h10, .ref h11, .ref h12, .ref h13, .int x10, .int x11, .int u124_0, .int x13, .int x14, .long z0])), (h8, .inl (y1, 2501, .inl f1))]) hP hD [8, 7] [0, 1, 2, 3, 4, 5, 6] rfl rfl (by decide) (by decide) hk1 hFc hP1 hD1 rfl
              have hK := (hK.sub (tys' := [(y2, .int), (y0, .int), (y3, .long), (y4, .long), (y5, .int)]) [0, 1, 2, 3, 4] rfl).app hK1
              generalize H1 = H at hP hS ⊢
              have hK : va_K (dC, dI) vwCl [(y2, .int), (y0, .int), (y3, .long), (y4, .long), (y5, .int), (y1, .int)] s := hK
              refine lv_iconst (v := 5) hx hb dX0_expression_156 (by decide) ?_
              refine lv_icmp_eq (tgt := 173) hx hb dX0_expression_157 (by decide) (fun c127 => ?_) (fun c127 => ?_)
              · skip
                subst c127
                refine lv_iload_n hx hb dX0_expression_173 rfl (lv_at hl 1 rfl) ?_
                refine lv_bipush (v := 45) hx hb dX0_expression_174 (by decide) ?_
                refine jcut (a := ∀ (b134 : Int32) (H : Heap) (locs : List Loc) (hK : va_K (dC, dI) vwCl [(y0, .int), (y3, .long), (y4, .long), (y5, .int), (y1, .int), (y2, .int)] s) (hP : va_P (dC, dI) vwCl [(h0, .inr (0, [.ref h1, .ref h2, .ref h3, .ref h4, .ref h5, .ref h6, .ref h7, .int x0, .int x1, .int x2, .int x3, .int x4, .int r63, .int r1, .int 0, .int x8, .int x9])), (h9, .inl (y0, 2501, .inl f0)), (h11, .inl (y3, 2501, .inr (.inl g0))), (h6, .inr (4, [.ref h14, .ref h15, .ref h16, .int x15])), (h14, .inl (y4, 60, .inr (.inl g1))), (h15, .inl (y5, 60, .inl f3)), (h8, .inl (y1, 2501, .inl f1)), (h1, .inr (10, [.ref h8, .ref h9, .ref h10, .ref h11, .ref h12, .ref h13, .int x10, .int x11, .int u124_0, .int x13, .int x14, .long z0])), (h10, .inl (y2, 2501, .inl f2))] H) (hD : va_D A [(h0, .inr (0, [.ref h1, .ref h2, .ref h3, .ref h4, .ref h5, .ref h6, .ref h7, .int x0, .int x1, .int x2, .int x3, .int x4, .int r63, .int r1, .int 0, .int x8, .int x9])), (h9, .inl (y0, 2501, .inl f0)), (h11, .inl (y3, 2501, .inr (.inl g0))), (h6, .inr (4, [.ref h14, .ref h15, .ref h16, .int x15])), (h14, .inl (y4, 60, .inr (.inl g1))), (h15, .inl (y5, 60, .inl f3)), (h8, .inl (y1, 2501, .inl f1)), (h1, .inr (10, [.ref h8, .ref h9, .ref h10, .ref h11, .ref h12, .ref h13, .int x10, .int x11, .int u124_0, .int x13, .int x14, .long z0])), (h10, .inl (y2, 2501, .inl f2))]) (hS : va_S A s.heap H locs) (ls : Array Slot) (hl : lv_has ls 4 [(0, .ref h0)]), W p l e (headSpec (Cond.code yX0_expression cX0_expression 4 (some .boolean) :: lw_G) ({ frames := 1, cells := 0, slots := 0, locals := 23 })).room s m ar below meth c H locs 0 0 Q (F0 m 197 ls [.int b134])) ?_ (fun j135 => ?_)
                · skip
                  intro b134 H locs hK hP hD hS ls hl
                  refine lv_istore_n (lv' := [(3, .int b134), (0, .ref h0)]) hx hb dX0_expression_197 rfl hl (by decide) rfl (fun ls hl => ?_)
                  refine lv_aload_n hx hb dX0_expression_198 rfl (lv_at hl 1 rfl) ?_
                  refine va_get (D := (dC, dI)) (ci := 0) (v := .ref h1) (C := RX0) (T := TX0) (N := 17) hx hb hG inGX0 hown hK hP 0 rfl rfl 0 (by decide) (hG _ wd_321) (fun _ h9 => h9) rfl dX0_expression_199 ?_
                  obtain ⟨hPc, hDc, hFc⟩ := nv_sub3 (wc := [(h1, .inr (10, [.ref h8, .ref h9, .ref h10, .ref h11, .ref h12, .ref h13, .int x10, .int x11, .int u124_0, .int x13, .int x14, .long z0])), (h10, .inl (y2, 2501, .inl f2))]) hP hD hS hA [7, 8] (by decide) rfl
                  have hKc := hK.sub (tys' := [(y2, .int)]) [5] rfl
                  refine va_calli (va_runV (As := []) (rest := []) ⟨hx, hb, hml, hown, hG⟩ (cX10_value_1 l dC dI h1 h8 h9 h10 h11 h12 h13 y2 H.size x10 x11 u124_0 x13 x14 z0 f2 ix10 ix11 iu124_0) (cwV 0 hG (gV wd_584 wd_585 wd_586 wd_11 wd_587) rfl rfl rfl (by decide +kernel) ⟨Nat.le_of_ble_eq_true rfl, Nat.le_of_ble_eq_true rfl⟩) ⟨fun a U g mk q => by obtain ⟨q0, q1, qP, qK, qD⟩ := q; exact ⟨q0, q1, qP, va_K.moved (u := U) (U := U.calling g mk a) (Vm.Alike.refl U.vm) qK, qD⟩, va_recv hKc hPc (ci := 10) (q0 := 0) rfl rfl, fun U hU hW => ⟨rfl, by rw [hU], by rw [hU]; exact hPc, va_K.moved hW.alike hKc, hDc.weaken (fun _ _ _ _ => trivial)⟩⟩ rfl rfl hl.1 rfl (lv_room (Nat.le_of_ble_eq_true rfl)) dX0_expression_202 ⟨by decide, by decide⟩) hS (fun q _ h => hFc q h) hFc (fun r136 u137 t H1 locs ht hvm hw hB hz1 hk1 hS => ?_)
                  obtain ⟨hP1, hK1, hD1⟩ := hB
                  rw [ht] at hP1
                  have hK1 := va_K.moved hvm.symm hK1
                  obtain ⟨hP, hD⟩ := nv_join (wf := [(h0, .inr (0, [.ref h1, .ref h2, .ref h3, .ref h4, .ref h5, .ref h6, .ref h7, .int x0, .int x1, .int x2, .int x3, .int x4, .int r63, .int r1, .int 0, .int x8, .int x9])), (h9, .inl (y0, 2501, .inl f0)), (h11, .inl (y3, 2501, .inr (.inl g0))), (h6, .inr (4, [.ref h14, .ref h15, .ref h16, .int x15])), (h14, .inl (y4, 60, .inr (.inl g1))), (h15, .inl (y5, 60, .inl f3)), (h8, .inl (y1, 2501, .inl f1)), (h1, .inr (10, [.ref h8, .ref h9, .ref h10, .ref h11, .ref h12, .ref h13, .int x10, .int x11, .int u124_0, .int x13, .int x14, .long z0])), (h10, .inl (y2, 2501, .inl f2))]) hP hD [7, 8] [0, 1, 2, 3, 4, 5, 6] rfl rfl (by decide) (by decide) hk1 hFc hP1 hD1 rfl
                  have hK := (hK.sub (tys' := [(y0, .int), (y3, .long), (y4, .long), (y5, .int), (y1, .int)]) [0, 1, 2, 3, 4] rfl).app hK1
                  generalize H1 = H at hP hS ⊢
                  have hK : va_K (dC, dI) vwCl [(y0, .int), (y3, .long), (y4, .long), (y5, .int), (y1, .int), (y2, .int)] s := hK
                  refine lv_ldc hx hb hown (hG _ wd_597) dX0_expression_205 ?_
                  refine lv_icmp_gt (tgt := 224) hx hb dX0_expression_207 (by decide) (fun c138 => ?_) (fun c138 => ?_)
                  · skip
                    have j139 : iv r136 65536 2147483647 := iv_ltR (by decide : iv 65535 65535 65535) (iv_any r136) c138 (by decide)
                    refine lv_aload_n hx hb dX0_expression_224 rfl (lv_at hl 1 rfl) ?_
                    refine lv_iconst (v := 2) hx hb dX0_expression_225 (by decide) ?_
                    refine lv_aload_n hx hb dX0_expression_226 rfl (lv_at hl 1 rfl) ?_
                    refine va_get (D := (dC, dI)) (ci := 0) (v := .int r1) (C := RX0) (T := TX0) (N := 17) hx hb hG inGX0 hown hK hP 0 rfl rfl 13 (by decide) (hG _ wd_334) (fun _ h9 => h9) rfl dX0_expression_227 ?_
                    obtain ⟨hPc, hDc, hFc⟩ := nv_sub3 (wc := [(h0, .inr (0, [.ref h1, .ref h2, .ref h3, .ref h4, .ref h5, .ref h6, .ref h7, .int x0, .int x1, .int x2, .int x3, .int x4, .int r63, .int r1, .int 0, .int x8, .int x9]))]) hP hD hS hA [0] (by decide) rfl
                    have hKc := hK.sub (tys' := []) [] rfl
                    refine va_calli (va_runV (As := [.int 2, .int r1]) (rest := []) ⟨hx, hb, hml, hown, hG⟩ (cX0_fail_1 l dC dI h0 h1 h2 h3 h4 h5 h6 h7 H.size 2 r1 x0 x1 x2 x3 x4 r63 r1 0 x8 x9 ix0 (iv_w j110 (by decide) (by decide)) (iv_w (by decide : iv 0 0 0) (by decide) (by decide))) (cwV 2 hG (gV wd_437 wd_439 wp_1 wd_8 wd_440) rfl rfl rfl (by decide +kernel) ⟨Nat.le_of_ble_eq_true rfl, Nat.le_of_ble_eq_true rfl⟩) ⟨fun a U g mk q => by obtain ⟨q0, q1, qP, qK, qD⟩ := q; exact ⟨q0, q1, qP, va_K.moved (u := U) (U := U.calling g mk a) (Vm.Alike.refl U.vm) qK, qD⟩, va_recv hKc hPc (ci := 0) (q0 := 0) rfl rfl, fun U hU hW => ⟨rfl, by rw [hU], by rw [hU]; exact hPc, va_K.moved hW.alike hKc, hDc.weaken (fun _ _ _ _ => trivial)⟩⟩ rfl rfl hl.1 rfl (lv_room (Nat.le_of_ble_eq_true rfl)) dX0_expression_230 ⟨by decide, by decide⟩) hS (fun q _ h => hFc q h) hFc (fun r140 u141 t H1 locs ht hvm hw hB hz1 hk1 hS => ?_)
                    have hw : r140 = 0 ∧ True := hw
                    obtain ⟨er140, -⟩ := hw
                    obtain ⟨hP1, hK1, hD1⟩ := hB
                    rw [ht] at hP1
                    have hK1 := va_K.moved hvm.symm hK1
                    obtain ⟨hP, hD⟩ := nv_join (wf := [(h9, .inl (y0, 2501, .inl f0)), (h11, .inl (y3, 2501, .inr (.inl g0))), (h6, .inr (4, [.ref h14, .ref h15, .ref h16, .int x15])), (h14, .inl (y4, 60, .inr (.inl g1))), (h15, .inl (y5, 60, .inl f3)), (h8, .inl (y1, 2501, .inl f1)), (h1, .inr (10, [.ref h8, .ref h9, .ref h10, .ref h11, .ref h12, .ref h13, .int x10, .int x11, .int u124_0, .int x13, .int x14, .long z0])), (h10, .inl (y2, 2501, .inl f2)), (h0, .inr (0, [.ref h1, .ref h2, .ref h3, .ref h4, .ref h5, .ref h6, .ref h7, .int x0, .int x1, .int x2, .int x3, .int x4, .int r63, .int r1, .int 0, .int 2, .int r1]))]) hP hD [0] [1, 2, 3, 4, 5, 6, 7, 8] rfl rfl (by decide) (by decide) hk1 hFc hP1 hD1 rfl
                    have hK := (hK.sub (tys' := [(y0, .int), (y3, .long), (y4, .long), (y5, .int), (y1, .int), (y2, .int)]) [0, 1, 2, 3, 4, 5] rfl).app hK1
                    generalize H1 = H at hP hS ⊢
                    have hK : va_K (dC, dI) vwCl [(y0, .int), (y3, .long), (y4, .long), (y5, .int), (y1, .int), (y2, .int)] s := hK
                    subst er140
                    rw [hQ]
                    obtain ⟨hP9, hD9⟩ := nv_sub2 (wc := [(h0, .inr (0, [.ref h1, .ref h2, .ref h3, .ref h4, .ref h5, .ref h6, .ref h7, .int x0, .int x1, .int x2, .int x3, .int x4, .int r63, .int r1, .int 0, .int 2, .int r1])), (h1, .inr (10, [.ref h8, .ref h9, .ref h10, .ref h11, .ref h12, .ref h13, .int x10, .int x11, .int u124_0, .int x13, .int x14, .long z0])), (h9, .inl (y0, 2501, .inl f0)), (h8, .inl (y1, 2501, .inl f1)), (h10, .inl (y2, 2501, .inl f2)), (h11, .inl (y3, 2501, .inr (.inl g0))), (h6, .inr (4, [.ref h14, .ref h15, .ref h16, .int x15])), (h14, .inl (y4, 60, .inr (.inl g1))), (h15, .inl (y5, 60, .inl f3))]) hP hD [8, 6, 0, 5, 7, 1, 2, 3, 4] (by decide) rfl
                    have hK9 := hK.sub (tys' := [(y0, .int), (y1, .int), (y2, .int), (y3, .long), (y4, .long), (y5, .int)]) [0, 4, 5, 1, 2, 3] rfl
                    exact W.zret (v := 0) hx hb hr rfl (fun t ht hW => ⟨⟨0, (x1, r63, r1, 0, 2, r1, u124_0), rfl, ⟨iv_w (by decide : iv 0 0 0) (by decide) (by decide), iv_w j110 (by decide) (by decide), iv_w (by decide : iv 0 0 0) (by decide) (by decide), iv_w iu124_0 (by decide) (by decide), trivial⟩, by rw [ht]; exact hP9, va_K.moved hW.alike hK9, hD9⟩, hS.F ht⟩) hS.2.2 dX0_expression_233
                  · skip
                    have j142 : iv r136 (-2147483648) 65535 := iv_nltR (by decide : iv 65535 65535 65535) (iv_any r136) c138 (by decide)
                    refine lv_aload_n hx hb dX0_expression_210 rfl (lv_at hl 1 rfl) ?_
                    refine va_get (D := (dC, dI)) (ci := 0) (v := .int 0) (C := RX0) (T := TX0) (N := 17) hx hb hG inGX0 hown hK hP 0 rfl rfl 14 (by decide) (hG _ wd_335) (fun _ h9 => h9) rfl dX0_expression_211 ?_
                    refine lv_if_eq (tgt := 234) hx hb dX0_expression_214 (by decide) (fun _ => ?_) (fun c => absurd (by decide) c)
                    refine lv_aload_n hx hb dX0_expression_234 rfl (lv_at hl 1 rfl) ?_
                    refine lv_dup hx hb dX0_expression_235 rfl ?_
                    refine va_get (D := (dC, dI)) (ci := 0) (v := .int r63) (C := RX0) (T := TX0) (N := 17) hx hb hG inGX0 hown hK hP 0 rfl rfl 12 (by decide) (hG _ wd_333) (fun _ h9 => h9) rfl dX0_expression_236 ?_
                    refine lv_iload_n hx hb dX0_expression_239 rfl (lv_at hl 0 rfl) ?_
                    refine lv_iadd hx hb dX0_expression_240 ?_
                    refine lv_topi (fun v143 ev143 => ?_)
                    refine va_put (D := (dC, dI)) (ci := 0) (v := .int v143) (ty := .int) (C := RX0) (T := TX0) (N := 17) hx hb hG inGX0 tyX0 tyX0_ok nmX0 hown hK hP hD hS 0 rfl rfl 12 (by decide) (hG _ wd_333) (fun _ h9 => h9) rfl (by decide +kernel) rfl rfl (Nat.le_of_ble_eq_true rfl) dX0_expression_241 (fun H locs hP hD hS => ?_)
                    obtain ⟨hP, hD⟩ := nv_eq (ws' := [(h0, .inr (0, [.ref h1, .ref h2, .ref h3, .ref h4, .ref h5, .ref h6, .ref h7, .int x0, .int x1, .int x2, .int x3, .int x4, .int v143, .int r1, .int 0, .int x8, .int x9])), (h9, .inl (y0, 2501, .inl f0)), (h11, .inl (y3, 2501, .inr (.inl g0))), (h6, .inr (4, [.ref h14, .ref h15, .ref h16, .int x15])), (h14, .inl (y4, 60, .inr (.inl g1))), (h15, .inl (y5, 60, .inl f3)), (h8, .inl (y1, 2501, .inl f1)), (h1, .inr (10, [.ref h8, .ref h9, .ref h10, .ref h11, .ref h12, .ref h13, .int x10, .int x11, .int u124_0, .int x13, .int x14, .long z0])), (h10, .inl (y2, 2501, .inl f2))]) hP hD rfl
                    refine lv_aload_n hx hb dX0_expression_244 rfl (lv_at hl 1 rfl) ?_
                    refine va_get (D := (dC, dI)) (ci := 0) (v := .ref h1) (C := RX0) (T := TX0) (N := 17) hx hb hG inGX0 hown hK hP 0 rfl rfl 0 (by decide) (hG _ wd_321) (fun _ h9 => h9) rfl dX0_expression_245 ?_
                    obtain ⟨hPc, hDc, hFc⟩ := nv_sub3 (wc := [(h1, .inr (10, [.ref h8, .ref h9, .ref h10, .ref h11, .ref h12, .ref h13, .int x10, .int x11, .int u124_0, .int x13, .int x14, .long z0]))]) hP hD hS hA [7] (by decide) rfl
                    have hKc := hK.sub (tys' := []) [] rfl
                    refine va_callv (va_runV (As := []) (rest := []) ⟨hx, hb, hml, hown, hG⟩ (cX10_skip_1 l dC dI h1 h8 h9 h10 h11 h12 h13 H.size x10 x11 u124_0 x13 x14 z0 ix10 ix11 iu124_0) (cwV 0 hG (gV wd_576 wd_577 wd_578 wd_11 wd_579) rfl rfl rfl (by decide +kernel) ⟨Nat.le_of_ble_eq_true rfl, Nat.le_of_ble_eq_true rfl⟩) ⟨fun a U g mk q => by obtain ⟨q0, q1, qP, qK, qD⟩ := q; exact ⟨q0, q1, qP, va_K.moved (u := U) (U := U.calling g mk a) (Vm.Alike.refl U.vm) qK, qD⟩, va_recv hKc hPc (ci := 10) (q0 := 0) rfl rfl, fun U hU hW => ⟨rfl, by rw [hU], by rw [hU]; exact hPc, va_K.moved hW.alike hKc, hDc.weaken (fun _ _ _ _ => trivial)⟩⟩ rfl rfl hl.1 rfl (lv_room (Nat.le_of_ble_eq_true rfl)) dX0_expression_248 ⟨by decide, by decide⟩) hS (fun q _ h => hFc q h) hFc (fun u145 t H1 locs ht hvm hw hB hz1 hk1 hS => ?_)
                    obtain ⟨u145_0, rfl⟩ : ∃ z, z = u145 := ⟨_, rfl⟩
                    have hw : iv u145_0 0 2500 ∧ True := hw
                    obtain ⟨iu145_0, -⟩ := hw
                    obtain ⟨hP1, hK1, hD1⟩ := hB
                    rw [ht] at hP1
                    have hK1 := va_K.moved hvm.symm hK1
                    obtain ⟨hP, hD⟩ := nv_join (wf := [(h0, .inr (0, [.ref h1, .ref h2, .ref h3, .ref h4, .ref h5, .ref h6, .ref h7, .int x0, .int x1, .int x2, .int x3, .int x4, .int v143, .int r1, .int 0, .int x8, .int x9])), (h9, .inl (y0, 2501, .inl f0)), (h11, .inl (y3, 2501, .inr (.inl g0))), (h6, .inr (4, [.ref h14, .ref h15, .ref h16, .int x15])), (h14, .inl (y4, 60, .inr (.inl g1))), (h15, .inl (y5, 60, .inl f3)), (h8, .inl (y1, 2501, .inl f1)), (h10, .inl (y2, 2501, .inl f2)), (h1, .inr (10, [.ref h8, .ref h9, .ref h10, .ref h11, .ref h12, .ref h13, .int x10, .int x11, .int u145_0, .int x13, .int x14, .long z0]))]) hP hD [7] [0, 1, 2, 3, 4, 5, 6, 8] rfl rfl (by decide) (by decide) hk1 hFc hP1 hD1 rfl
                    have hK := (hK.sub (tys' := [(y0, .int), (y3, .long), (y4, .long), (y5, .int), (y1, .int), (y2, .int)]) [0, 1, 2, 3, 4, 5] rfl).app hK1
                    generalize H1 = H at hP hS ⊢
                    have hK : va_K (dC, dI) vwCl [(y0, .int), (y3, .long), (y4, .long), (y5, .int), (y1, .int), (y2, .int)] s := hK
                    refine lv_iconst (v := 1) hx hb dX0_expression_251 (by decide) ?_
                    rw [hQ]
                    obtain ⟨hP9, hD9⟩ := nv_sub2 (wc := [(h0, .inr (0, [.ref h1, .ref h2, .ref h3, .ref h4, .ref h5, .ref h6, .ref h7, .int x0, .int x1, .int x2, .int x3, .int x4, .int v143, .int r1, .int 0, .int x8, .int x9])), (h1, .inr (10, [.ref h8, .ref h9, .ref h10, .ref h11, .ref h12, .ref h13, .int x10, .int x11, .int u145_0, .int x13, .int x14, .long z0])), (h9, .inl (y0, 2501, .inl f0)), (h8, .inl (y1, 2501, .inl f1)), (h10, .inl (y2, 2501, .inl f2)), (h11, .inl (y3, 2501, .inr (.inl g0))), (h6, .inr (4, [.ref h14, .ref h15, .ref h16, .int x15])), (h14, .inl (y4, 60, .inr (.inl g1))), (h15, .inl (y5, 60, .inl f3))]) hP hD [0, 8, 1, 6, 7, 2, 3, 4, 5] (by decide) rfl
                    have hK9 := hK.sub (tys' := [(y0, .int), (y1, .int), (y2, .int), (y3, .long), (y4, .long), (y5, .int)]) [0, 4, 5, 1, 2, 3] rfl
                    exact W.zret (v := 1) hx hb hr rfl (fun t ht hW => ⟨⟨1, (x1, v143, r1, 0, x8, x9, u145_0), rfl, ⟨iv_w (by decide : iv 1 1 1) (by decide) (by decide), iv_w j110 (by decide) (by decide), iv_w (by decide : iv 0 0 0) (by decide) (by decide), iv_w iu145_0 (by decide) (by decide), trivial⟩, by rw [ht]; exact hP9, va_K.moved hW.alike hK9, hD9⟩, hS.F ht⟩) hS.2.2 dX0_expression_252
                refine lv_icmp_ne (tgt := 190) hx hb dX0_expression_176 (by decide) (fun c128 => ?_) (fun c128 => ?_)
                · skip
                  refine lv_aload_n hx hb dX0_expression_190 rfl (lv_at hl 2 rfl) ?_
                  refine va_get (D := (dC, dI)) (ci := 0) (v := .ref h1) (C := RX0) (T := TX0) (N := 17) hx hb hG inGX0 hown hK hP 0 rfl rfl 0 (by decide) (hG _ wd_321) (fun _ h9 => h9) rfl dX0_expression_191 ?_
                  obtain ⟨hPc, hDc, hFc⟩ := nv_sub3 (wc := [(h1, .inr (10, [.ref h8, .ref h9, .ref h10, .ref h11, .ref h12, .ref h13, .int x10, .int x11, .int u124_0, .int x13, .int x14, .long z0])), (h10, .inl (y2, 2501, .inl f2))]) hP hD hS hA [7, 1] (by decide) rfl
                  have hKc := hK.sub (tys' := [(y2, .int)]) [0] rfl
                  refine va_calli (va_runV (As := []) (rest := []) ⟨hx, hb, hml, hown, hG⟩ (cX10_value_1 l dC dI h1 h8 h9 h10 h11 h12 h13 y2 H.size x10 x11 u124_0 x13 x14 z0 f2 ix10 ix11 iu124_0) (cwV 0 hG (gV wd_584 wd_585 wd_586 wd_11 wd_587) rfl rfl rfl (by decide +kernel) ⟨Nat.le_of_ble_eq_true rfl, Nat.le_of_ble_eq_true rfl⟩) ⟨fun a U g mk q => by obtain ⟨q0, q1, qP, qK, qD⟩ := q; exact ⟨q0, q1, qP, va_K.moved (u := U) (U := U.calling g mk a) (Vm.Alike.refl U.vm) qK, qD⟩, va_recv hKc hPc (ci := 10) (q0 := 0) rfl rfl, fun U hU hW => ⟨rfl, by rw [hU], by rw [hU]; exact hPc, va_K.moved hW.alike hKc, hDc.weaken (fun _ _ _ _ => trivial)⟩⟩ rfl rfl hl.1 rfl (lv_room (Nat.le_of_ble_eq_true rfl)) dX0_expression_194 ⟨by decide, by decide⟩) hS (fun q _ h => hFc q h) hFc (fun r146 u147 t H1 locs ht hvm hw hB hz1 hk1 hS => ?_)
                  obtain ⟨hP1, hK1, hD1⟩ := hB
                  rw [ht] at hP1
                  have hK1 := va_K.moved hvm.symm hK1
                  obtain ⟨hP, hD⟩ := nv_join (wf := [(h0, .inr (0, [.ref h1, .ref h2, .ref h3, .ref h4, .ref h5, .ref h6, .ref h7, .int x0, .int x1, .int x2, .int x3, .int x4, .int r63, .int r1, .int 0, .int x8, .int x9])), (h9, .inl (y0, 2501, .inl f0)), (h11, .inl (y3, 2501, .inr (.inl g0))), (h6, .inr (4, [.ref h14, .ref h15, .ref h16, .int x15])), (h14, .inl (y4, 60, .inr (.inl g1))), (h15, .inl (y5, 60, .inl f3)), (h8, .inl (y1, 2501, .inl f1)), (h1, .inr (10, [.ref h8, .ref h9, .ref h10, .ref h11, .ref h12, .ref h13, .int x10, .int x11, .int u124_0, .int x13, .int x14, .long z0])), (h10, .inl (y2, 2501, .inl f2))]) hP hD [7, 1] [0, 2, 3, 4, 5, 6, 8] rfl rfl (by decide) (by decide) hk1 hFc hP1 hD1 rfl
                  have hK := (hK.sub (tys' := [(y0, .int), (y3, .long), (y4, .long), (y5, .int), (y1, .int)]) [1, 2, 3, 4, 5] rfl).app hK1
                  generalize H1 = H at hP hS ⊢
                  have hK : va_K (dC, dI) vwCl [(y0, .int), (y3, .long), (y4, .long), (y5, .int), (y1, .int), (y2, .int)] s := hK
                  exact j135 r146 _ _ hK hP hD hS ls (lv_sub hl [2] rfl)
                · skip
                  subst c128
                  refine lv_aload_n hx hb dX0_expression_179 rfl (lv_at hl 2 rfl) ?_
                  refine va_get (D := (dC, dI)) (ci := 0) (v := .ref h1) (C := RX0) (T := TX0) (N := 17) hx hb hG inGX0 hown hK hP 0 rfl rfl 0 (by decide) (hG _ wd_321) (fun _ h9 => h9) rfl dX0_expression_180 ?_
                  obtain ⟨hPc, hDc, hFc⟩ := nv_sub3 (wc := [(h1, .inr (10, [.ref h8, .ref h9, .ref h10, .ref h11, .ref h12, .ref h13, .int x10, .int x11, .int u124_0, .int x13, .int x14, .long z0])), (h10, .inl (y2, 2501, .inl f2))]) hP hD hS hA [7, 1] (by decide) rfl
                  have hKc := hK.sub (tys' := [(y2, .int)]) [0] rfl
                  refine va_calli (va_runV (As := []) (rest := []) ⟨hx, hb, hml, hown, hG⟩ (cX10_value_1 l dC dI h1 h8 h9 h10 h11 h12 h13 y2 H.size x10 x11 u124_0 x13 x14 z0 f2 ix10 ix11 iu124_0) (cwV 0 hG (gV wd_584 wd_585 wd_586 wd_11 wd_587) rfl rfl rfl (by decide +kernel) ⟨Nat.le_of_ble_eq_true rfl, Nat.le_of_ble_eq_true rfl⟩) ⟨fun a U g mk q => by obtain ⟨q0, q1, qP, qK, qD⟩ := q; exact ⟨q0, q1, qP, va_K.moved (u := U) (U := U.calling g mk a) (Vm.Alike.refl U.vm) qK, qD⟩, va_recv hKc hPc (ci := 10) (q0 := 0) rfl rfl, fun U hU hW => ⟨rfl, by rw [hU], by rw [hU]; exact hPc, va_K.moved hW.alike hKc, hDc.weaken (fun _ _ _ _ => trivial)⟩⟩ rfl rfl hl.1 rfl (lv_room (Nat.le_of_ble_eq_true rfl)) dX0_expression_183 ⟨by decide, by decide⟩) hS (fun q _ h => hFc q h) hFc (fun r148 u149 t H1 locs ht hvm hw hB hz1 hk1 hS => ?_)
                  obtain ⟨hP1, hK1, hD1⟩ := hB
                  rw [ht] at hP1
                  have hK1 := va_K.moved hvm.symm hK1
                  obtain ⟨hP, hD⟩ := nv_join (wf := [(h0, .inr (0, [.ref h1, .ref h2, .ref h3, .ref h4, .ref h5, .ref h6, .ref h7, .int x0, .int x1, .int x2, .int x3, .int x4, .int r63, .int r1, .int 0, .int x8, .int x9])), (h9, .inl (y0, 2501, .inl f0)), (h11, .inl (y3, 2501, .inr (.inl g0))), (h6, .inr (4, [.ref h14, .ref h15, .ref h16, .int x15])), (h14, .inl (y4, 60, .inr (.inl g1))), (h15, .inl (y5, 60, .inl f3)), (h8, .inl (y1, 2501, .inl f1)), (h1, .inr (10, [.ref h8, .ref h9, .ref h10, .ref h11, .ref h12, .ref h13, .int x10, .int x11, .int u124_0, .int x13, .int x14, .long z0])), (h10, .inl (y2, 2501, .inl f2))]) hP hD [7, 1] [0, 2, 3, 4, 5, 6, 8] rfl rfl (by decide) (by decide) hk1 hFc hP1 hD1 rfl
                  have hK := (hK.sub (tys' := [(y0, .int), (y3, .long), (y4, .long), (y5, .int), (y1, .int)]) [1, 2, 3, 4, 5] rfl).app hK1
                  generalize H1 = H at hP hS ⊢
                  have hK : va_K (dC, dI) vwCl [(y0, .int), (y3, .long), (y4, .long), (y5, .int), (y1, .int), (y2, .int)] s := hK
                  refine lv_ineg hx hb dX0_expression_186 ?_
                  refine lv_topi (fun v150 ev150 => ?_)
                  refine lv_goto (tgt := 197) hx hb dX0_expression_187 (by decide) ?_
                  exact j135 v150 _ _ hK hP hD hS ls (lv_sub hl [2] rfl)
              · skip
                refine lv_aload_n hx hb dX0_expression_160 rfl (lv_at hl 2 rfl) ?_
                refine lv_iconst (v := 1) hx hb dX0_expression_161 (by decide) ?_
                refine lv_aload_n hx hb dX0_expression_162 rfl (lv_at hl 2 rfl) ?_
                refine va_get (D := (dC, dI)) (ci := 0) (v := .ref h1) (C := RX0) (T := TX0) (N := 17) hx hb hG inGX0 hown hK hP 0 rfl rfl 0 (by decide) (hG _ wd_321) (fun _ h9 => h9) rfl dX0_expression_163 ?_
                obtain ⟨hPc, hDc, hFc⟩ := nv_sub3 (wc := [(h1, .inr (10, [.ref h8, .ref h9, .ref h10, .ref h11, .ref h12, .ref h13, .int x10, .int x11, .int u124_0, .int x13, .int x14, .long z0])), (h9, .inl (y0, 2501, .inl f0))]) hP hD hS hA [7, 2] (by decide) rfl
                have hKc := hK.sub (tys' := [(y0, .int)]) [1] rfl
                refine va_calli (va_runV (As := []) (rest := [.int 1, .ref h0]) ⟨hx, hb, hml, hown, hG⟩ (cX10_place_1 l dC dI h1 h8 h9 h10 h11 h12 h13 y0 H.size x10 x11 u124_0 x13 x14 z0 f0 ix10 ix11 iu124_0) (cwV 0 hG (gV wd_572 wd_573 wd_574 wd_11 wd_575) rfl rfl rfl (by decide +kernel) ⟨Nat.le_of_ble_eq_true rfl, Nat.le_of_ble_eq_true rfl⟩) ⟨fun a U g mk q => by obtain ⟨q0, q1, qP, qK, qD⟩ := q; exact ⟨q0, q1, qP, va_K.moved (u := U) (U := U.calling g mk a) (Vm.Alike.refl U.vm) qK, qD⟩, va_recv hKc hPc (ci := 10) (q0 := 0) rfl rfl, fun U hU hW => ⟨rfl, by rw [hU], by rw [hU]; exact hPc, va_K.moved hW.alike hKc, hDc.weaken (fun _ _ _ _ => trivial)⟩⟩ rfl rfl hl.1 rfl (lv_room (Nat.le_of_ble_eq_true rfl)) dX0_expression_166 ⟨by decide, by decide⟩) hS (fun q _ h => hFc q h) hFc (fun r151 u152 t H1 locs ht hvm hw hB hz1 hk1 hS => ?_)
                obtain ⟨hP1, hK1, hD1⟩ := hB
                rw [ht] at hP1
                have hK1 := va_K.moved hvm.symm hK1
                obtain ⟨hP, hD⟩ := nv_join (wf := [(h0, .inr (0, [.ref h1, .ref h2, .ref h3, .ref h4, .ref h5, .ref h6, .ref h7, .int x0, .int x1, .int x2, .int x3, .int x4, .int r63, .int r1, .int 0, .int x8, .int x9])), (h10, .inl (y2, 2501, .inl f2)), (h11, .inl (y3, 2501, .inr (.inl g0))), (h6, .inr (4, [.ref h14, .ref h15, .ref h16, .int x15])), (h14, .inl (y4, 60, .inr (.inl g1))), (h15, .inl (y5, 60, .inl f3)), (h8, .inl (y1, 2501, .inl f1)), (h1, .inr (10, [.ref h8, .ref h9, .ref h10, .ref h11, .ref h12, .ref h13, .int x10, .int x11, .int u124_0, .int x13, .int x14, .long z0])), (h9, .inl (y0, 2501, .inl f0))]) hP hD [7, 2] [0, 1, 3, 4, 5, 6, 8] rfl rfl (by decide) (by decide) hk1 hFc hP1 hD1 rfl
                have hK := (hK.sub (tys' := [(y2, .int), (y3, .long), (y4, .long), (y5, .int), (y1, .int)]) [0, 2, 3, 4, 5] rfl).app hK1
                generalize H1 = H at hP hS ⊢
                have hK : va_K (dC, dI) vwCl [(y2, .int), (y3, .long), (y4, .long), (y5, .int), (y1, .int), (y0, .int)] s := hK
                obtain ⟨hPc, hDc, hFc⟩ := nv_sub3 (wc := [(h0, .inr (0, [.ref h1, .ref h2, .ref h3, .ref h4, .ref h5, .ref h6, .ref h7, .int x0, .int x1, .int x2, .int x3, .int x4, .int r63, .int r1, .int 0, .int x8, .int x9]))]) hP hD hS hA [0] (by decide) rfl
                have hKc := hK.sub (tys' := []) [] rfl
                refine va_calli (va_runV (As := [.int 1, .int r151]) (rest := []) ⟨hx, hb, hml, hown, hG⟩ (cX0_fail_1 l dC dI h0 h1 h2 h3 h4 h5 h6 h7 H.size 1 r151 x0 x1 x2 x3 x4 r63 r1 0 x8 x9 ix0 (iv_w j110 (by decide) (by decide)) (iv_w (by decide : iv 0 0 0) (by decide) (by decide))) (cwV 2 hG (gV wd_437 wd_439 wp_1 wd_8 wd_440) rfl rfl rfl (by decide +kernel) ⟨Nat.le_of_ble_eq_true rfl, Nat.le_of_ble_eq_true rfl⟩) ⟨fun a U g mk q => by obtain ⟨q0, q1, qP, qK, qD⟩ := q; exact ⟨q0, q1, qP, va_K.moved (u := U) (U := U.calling g mk a) (Vm.Alike.refl U.vm) qK, qD⟩, va_recv hKc hPc (ci := 0) (q0 := 0) rfl rfl, fun U hU hW => ⟨rfl, by rw [hU], by rw [hU]; exact hPc, va_K.moved hW.alike hKc, hDc.weaken (fun _ _ _ _ => trivial)⟩⟩ rfl rfl hl.1 rfl (lv_room (Nat.le_of_ble_eq_true rfl)) dX0_expression_169 ⟨by decide, by decide⟩) hS (fun q _ h => hFc q h) hFc (fun r153 u154 t H1 locs ht hvm hw hB hz1 hk1 hS => ?_)
                have hw : r153 = 0 ∧ True := hw
                obtain ⟨er153, -⟩ := hw
                obtain ⟨hP1, hK1, hD1⟩ := hB
                rw [ht] at hP1
                have hK1 := va_K.moved hvm.symm hK1
                obtain ⟨hP, hD⟩ := nv_join (wf := [(h10, .inl (y2, 2501, .inl f2)), (h11, .inl (y3, 2501, .inr (.inl g0))), (h6, .inr (4, [.ref h14, .ref h15, .ref h16, .int x15])), (h14, .inl (y4, 60, .inr (.inl g1))), (h15, .inl (y5, 60, .inl f3)), (h8, .inl (y1, 2501, .inl f1)), (h1, .inr (10, [.ref h8, .ref h9, .ref h10, .ref h11, .ref h12, .ref h13, .int x10, .int x11, .int u124_0, .int x13, .int x14, .long z0])), (h9, .inl (y0, 2501, .inl f0)), (h0, .inr (0, [.ref h1, .ref h2, .ref h3, .ref h4, .ref h5, .ref h6, .ref h7, .int x0, .int x1, .int x2, .int x3, .int x4, .int r63, .int r1, .int 0, .int 1, .int r151]))]) hP hD [0] [1, 2, 3, 4, 5, 6, 7, 8] rfl rfl (by decide) (by decide) hk1 hFc hP1 hD1 rfl
                have hK := (hK.sub (tys' := [(y2, .int), (y3, .long), (y4, .long), (y5, .int), (y1, .int), (y0, .int)]) [0, 1, 2, 3, 4, 5] rfl).app hK1
                generalize H1 = H at hP hS ⊢
                have hK : va_K (dC, dI) vwCl [(y2, .int), (y3, .long), (y4, .long), (y5, .int), (y1, .int), (y0, .int)] s := hK
                subst er153
                rw [hQ]
                obtain ⟨hP9, hD9⟩ := nv_sub2 (wc := [(h0, .inr (0, [.ref h1, .ref h2, .ref h3, .ref h4, .ref h5, .ref h6, .ref h7, .int x0, .int x1, .int x2, .int x3, .int x4, .int r63, .int r1, .int 0, .int 1, .int r151])), (h1, .inr (10, [.ref h8, .ref h9, .ref h10, .ref h11, .ref h12, .ref h13, .int x10, .int x11, .int u124_0, .int x13, .int x14, .long z0])), (h9, .inl (y0, 2501, .inl f0)), (h8, .inl (y1, 2501, .inl f1)), (h10, .inl (y2, 2501, .inl f2)), (h11, .inl (y3, 2501, .inr (.inl g0))), (h6, .inr (4, [.ref h14, .ref h15, .ref h16, .int x15])), (h14, .inl (y4, 60, .inr (.inl g1))), (h15, .inl (y5, 60, .inl f3))]) hP hD [8, 6, 7, 5, 0, 1, 2, 3, 4] (by decide) rfl
                have hK9 := hK.sub (tys' := [(y0, .int), (y1, .int), (y2, .int), (y3, .long), (y4, .long), (y5, .int)]) [5, 4, 0, 1, 2, 3] rfl
                exact W.zret (v := 0) hx hb hr rfl (fun t ht hW => ⟨⟨0, (x1, r63, r1, 0, 1, r151, u124_0), rfl, ⟨iv_w (by decide : iv 0 0 0) (by decide) (by decide), iv_w j110 (by decide) (by decide), iv_w (by decide : iv 0 0 0) (by decide) (by decide), iv_w iu124_0 (by decide) (by decide), trivial⟩, by rw [ht]; exact hP9, va_K.moved hW.alike hK9, hD9⟩, hS.F ht⟩) hS.2.2 dX0_expression_172
            · skip
              subst c121
              refine lv_iconst (v := 1) hx hb dX0_expression_136 (by decide) ?_
              rw [hQ]
              obtain ⟨hP9, hD9⟩ := nv_sub2 (wc := [(h0, .inr (0, [.ref h1, .ref h2, .ref h3, .ref h4, .ref h5, .ref h6, .ref h7, .int x0, .int x1, .int x2, .int x3, .int x4, .int r63, .int r1, .int 0, .int x8, .int x9])), (h1, .inr (10, [.ref h8, .ref h9, .ref h10, .ref h11, .ref h12, .ref h13, .int x10, .int x11, .int u113_0, .int x13, .int x14, .long z0])), (h9, .inl (y0, 2501, .inl f0)), (h8, .inl (y1, 2501, .inl f1)), (h10, .inl (y2, 2501, .inl f2)), (h11, .inl (y3, 2501, .inr (.inl g0))), (h6, .inr (4, [.ref h14, .ref h15, .ref h16, .int x15])), (h14, .inl (y4, 60, .inr (.inl g1))), (h15, .inl (y5, 60, .inl f3))]) hP hD [0, 7, 2, 8, 1, 3, 4, 5, 6] (by decide) rfl
              have hK9 := hK.sub (tys' := [(y0, .int), (y1, .int), (y2, .int), (y3, .long), (y4, .long), (y5, .int)]) [1, 5, 0, 2, 3, 4] rfl
              exact W.zret (v := 1) hx hb hr rfl (fun t ht hW => ⟨⟨1, (x1, r63, r1, 0, x8, x9, u113_0), rfl, ⟨iv_w (by decide : iv 1 1 1) (by decide) (by decide), iv_w j110 (by decide) (by decide), iv_w (by decide : iv 0 0 0) (by decide) (by decide), iv_w iu113_0 (by decide) (by decide), trivial⟩, by rw [ht]; exact hP9, va_K.moved hW.alike hK9, hD9⟩, hS.F ht⟩) hS.2.2 dX0_expression_137
          refine lv_icmp_eq (tgt := 119) hx hb dX0_expression_103 (by decide) (fun c116 => ?_) (fun c116 => ?_)
          · skip
            subst c116
            refine lv_iconst (v := 1) hx hb dX0_expression_119 (by decide) ?_
            refine lv_goto (tgt := 124) hx hb dX0_expression_120 (by decide) ?_
            exact j120 1 45 (iv_w (by decide : iv 1 1 1) (by decide) (by decide)) _ _ hK hP hD hS ls hl
          · skip
            refine lv_iload_n hx hb dX0_expression_106 rfl (lv_at hl 0 rfl) ?_
            refine lv_bipush (v := 43) hx hb dX0_expression_107 (by decide) ?_
            refine lv_icmp_ne (tgt := 123) hx hb dX0_expression_109 (by decide) (fun c155 => ?_) (fun c155 => ?_)
            · skip
              refine lv_iconst (v := 0) hx hb dX0_expression_123 (by decide) ?_
              exact j120 0 r114 (iv_w (by decide : iv 0 0 0) (by decide) (by decide)) _ _ hK hP hD hS ls hl
            · skip
              subst c155
              refine lv_aload_n hx hb dX0_expression_112 rfl (lv_at hl 1 rfl) ?_
              refine va_get (D := (dC, dI)) (ci := 0) (v := .int 0) (C := RX0) (T := TX0) (N := 17) hx hb hG inGX0 hown hK hP 0 rfl rfl 14 (by decide) (hG _ wd_335) (fun _ h9 => h9) rfl dX0_expression_113 ?_
              refine lv_if_ne (tgt := 123) hx hb dX0_expression_116 (by decide) (fun c => absurd (by decide) c) (fun _ => ?_)
              refine lv_iconst (v := 1) hx hb dX0_expression_119 (by decide) ?_
              refine lv_goto (tgt := 124) hx hb dX0_expression_120 (by decide) ?_
              exact j120 1 43 (iv_w (by decide : iv 1 1 1) (by decide) (by decide)) _ _ hK hP hD hS ls hl
        · skip
          subst c111
          refine lv_aload_n hx hb dX0_expression_70 rfl (lv_at hl 1 rfl) ?_
          refine lv_iconst (v := 4) hx hb dX0_expression_71 (by decide) ?_
          refine lv_aload_n hx hb dX0_expression_72 rfl (lv_at hl 1 rfl) ?_
          refine va_get (D := (dC, dI)) (ci := 0) (v := .int r1) (C := RX0) (T := TX0) (N := 17) hx hb hG inGX0 hown hK hP 0 rfl rfl 13 (by decide) (hG _ wd_334) (fun _ h9 => h9) rfl dX0_expression_73 ?_
          obtain ⟨hPc, hDc, hFc⟩ := nv_sub3 (wc := [(h0, .inr (0, [.ref h1, .ref h2, .ref h3, .ref h4, .ref h5, .ref h6, .ref h7, .int x0, .int x1, .int x2, .int x3, .int x4, .int 0, .int r1, .int 0, .int x8, .int x9]))]) hP hD hS hA [0] (by decide) rfl
          have hKc := hK.sub (tys' := []) [] rfl
          refine va_calli (va_runV (As := [.int 4, .int r1]) (rest := []) ⟨hx, hb, hml, hown, hG⟩ (cX0_fail_1 l dC dI h0 h1 h2 h3 h4 h5 h6 h7 H.size 4 r1 x0 x1 x2 x3 x4 0 r1 0 x8 x9 ix0 (iv_w j110 (by decide) (by decide)) (iv_w (by decide : iv 0 0 0) (by decide) (by decide))) (cwV 2 hG (gV wd_437 wd_439 wp_1 wd_8 wd_440) rfl rfl rfl (by decide +kernel) ⟨Nat.le_of_ble_eq_true rfl, Nat.le_of_ble_eq_true rfl⟩) ⟨fun a U g mk q => by obtain ⟨q0, q1, qP, qK, qD⟩ := q; exact ⟨q0, q1, qP, va_K.moved (u := U) (U := U.calling g mk a) (Vm.Alike.refl U.vm) qK, qD⟩, va_recv hKc hPc (ci := 0) (q0 := 0) rfl rfl, fun U hU hW => ⟨rfl, by rw [hU], by rw [hU]; exact hPc, va_K.moved hW.alike hKc, hDc.weaken (fun _ _ _ _ => trivial)⟩⟩ rfl rfl hl.1 rfl (lv_room (Nat.le_of_ble_eq_true rfl)) dX0_expression_76 ⟨by decide, by decide⟩) hS (fun q _ h => hFc q h) hFc (fun r156 u157 t H1 locs ht hvm hw hB hz1 hk1 hS => ?_)
          have hw : r156 = 0 ∧ True := hw
          obtain ⟨er156, -⟩ := hw
          obtain ⟨hP1, hK1, hD1⟩ := hB
          rw [ht] at hP1
          have hK1 := va_K.moved hvm.symm hK1
          obtain ⟨hP, hD⟩ := nv_join (wf := [(h10, .inl (y2, 2501, .inl f2)), (h9, .inl (y0, 2501, .inl f0)), (h8, .inl (y1, 2501, .inl f1)), (h1, .inr (10, [.ref h8, .ref h9, .ref h10, .ref h11, .ref h12, .ref h13, .int x10, .int x11, .int x12, .int x13, .int x14, .long z0])), (h11, .inl (y3, 2501, .inr (.inl g0))), (h6, .inr (4, [.ref h14, .ref h15, .ref h16, .int x15])), (h14, .inl (y4, 60, .inr (.inl g1))), (h15, .inl (y5, 60, .inl f3)), (h0, .inr (0, [.ref h1, .ref h2, .ref h3, .ref h4, .ref h5, .ref h6, .ref h7, .int x0, .int x1, .int x2, .int x3, .int x4, .int 0, .int r1, .int 0, .int 4, .int r1]))]) hP hD [0] [1, 2, 3, 4, 5, 6, 7, 8] rfl rfl (by decide) (by decide) hk1 hFc hP1 hD1 rfl
          have hK := (hK.sub (tys' := [(y2, .int), (y0, .int), (y1, .int), (y3, .long), (y4, .long), (y5, .int)]) [0, 1, 2, 3, 4, 5] rfl).app hK1
          generalize H1 = H at hP hS ⊢
          have hK : va_K (dC, dI) vwCl [(y2, .int), (y0, .int), (y1, .int), (y3, .long), (y4, .long), (y5, .int)] s := hK
          subst er156
          rw [hQ]
          obtain ⟨hP9, hD9⟩ := nv_sub2 (wc := [(h0, .inr (0, [.ref h1, .ref h2, .ref h3, .ref h4, .ref h5, .ref h6, .ref h7, .int x0, .int x1, .int x2, .int x3, .int x4, .int 0, .int r1, .int 0, .int 4, .int r1])), (h1, .inr (10, [.ref h8, .ref h9, .ref h10, .ref h11, .ref h12, .ref h13, .int x10, .int x11, .int x12, .int x13, .int x14, .long z0])), (h9, .inl (y0, 2501, .inl f0)), (h8, .inl (y1, 2501, .inl f1)), (h10, .inl (y2, 2501, .inl f2)), (h11, .inl (y3, 2501, .inr (.inl g0))), (h6, .inr (4, [.ref h14, .ref h15, .ref h16, .int x15])), (h14, .inl (y4, 60, .inr (.inl g1))), (h15, .inl (y5, 60, .inl f3))]) hP hD [8, 3, 1, 2, 0, 4, 5, 6, 7] (by decide) rfl
          have hK9 := hK.sub (tys' := [(y0, .int), (y1, .int), (y2, .int), (y3, .long), (y4, .long), (y5, .int)]) [1, 2, 0, 3, 4, 5] rfl
          exact W.zret (v := 0) hx hb hr rfl (fun t ht hW => ⟨⟨0, (x1, 0, r1, 0, 4, r1, x12), rfl, ⟨iv_w (by decide : iv 0 0 0) (by decide) (by decide), iv_w j110 (by decide) (by decide), iv_w (by decide : iv 0 0 0) (by decide) (by decide), iv_w ix12 (by decide) (by decide), trivial⟩, by rw [ht]; exact hP9, va_K.moved hW.alike hK9, hD9⟩, hS.F ht⟩) hS.2.2 dX0_expression_79
  refine lv_icmp_eq (tgt := 32) hx hb dX0_expression_25 (by decide) (fun c5 => ?_) (fun c5 => ?_)
  · skip
    subst c5
    refine lv_iconst (v := 0) hx hb dX0_expression_32 (by decide) ?_
    exact j7 0 (iv_w (by decide : iv 0 0 0) (by decide) (by decide)) _ _ hK hP hD hS ls hl
  · skip
    refine lv_iconst (v := 1) hx hb dX0_expression_28 (by decide) ?_
    refine lv_goto (tgt := 33) hx hb dX0_expression_29 (by decide) ?_
    exact j7 1 (iv_w (by decide : iv 1 1 1) (by decide) (by decide)) _ _ hK hP hD hS ls hl
set_option maxHeartbeats 100000000 in
set_option maxRecDepth 100000 in
theorem cX6_takeWithNext_1 (l : Launch) (dC : Nat → ClassId) (dI : Nat → Nat → Nat) (h0 : Nat) (sz : Nat) (x0 x1 x2 x3 x4 x5 x6 x7 : Int32) (ix6 : iv x6 0 1) (ix7 : iv x7 0 1) : Met l yX6_takeWithNext (Cond.code yX6_takeWithNext cX6_takeWithNext 4 none :: lw_G) ({ frames := 0, cells := 0, slots := 0, locals := 0 }) (va_Pc [.ref h0, .int x0, .int x1, .int x2] (fun U => U.heap.size = sz ∧ va_P (dC, dI) vwCl [(h0, .inr (6, [.int x3, .int x4, .int x5, .int x6, .int x7]))] U.heap ∧ va_K (dC, dI) vwCl [] U ∧ va_D (fun _ => True) [(h0, .inr (6, [.int x3, .int x4, .int x5, .int x6, .int x7]))])) (va_Qv (fun (u : Unit) => True) (fun (u : Unit) (t : State) => va_P (dC, dI) vwCl [(h0, .inr (6, [.int x0, .int x1, .int x2, .int 1, .int 0]))] t.heap ∧ va_K (dC, dI) vwCl [] t ∧ va_D (va_A [(h0, .inr (6, [.int x3, .int x4, .int x5, .int x6, .int x7]))] sz) [(h0, .inr (6, [.int x0, .int x1, .int x2, .int 1, .int 0]))]) (va_A [(h0, .inr (6, [.int x3, .int x4, .int x5, .int x6, .int x7]))] sz)) 0 0 (va_A [(h0, .inr (6, [.int x3, .int x4, .int x5, .int x6, .int x7]))] sz) := by
  refine Met.ofW (cc := cX6_takeWithNext) (maxL := 4) (ret := none) (by decide) rfl ?_
  intro p e s m args below meth c s₁ B hml hv
  obtain ⟨rfl, hsz, hP, hK, hD0⟩ := hv
  have hx := B.exec
  have hb := B.bytes
  have hr := B.returns
  have hts0 := atoms_spec (ws := Cond.code yX6_takeWithNext cX6_takeWithNext 4 none :: lw_G) B.pre
  have hG : ∀ w ∈ lw_G, w.before _ s = true := fun w h => hts0 w (List.mem_cons_of_mem _ h)
  have hown : s.vm.findClass RX6 = some m.cls := findClass_of_methodNamed B.named
  have hlocks := B.notSynchronized
  subst hsz
  have hD := hD0.self (sz := s.heap.size)
  generalize hAe : va_A [(h0, .inr (6, [.int x3, .int x4, .int x5, .int x6, .int x7]))] s.heap.size = A at hD ⊢
  have hA : ∀ q : Nat, s.heap.size ≤ q → A q := fun q h => by rw [← hAe]; exact Or.inr h
  have hS : va_S A s.heap s.heap [] := va_S.rf
  have hP : va_P (dC, dI) vwCl [(h0, .inr (6, [.int x3, .int x4, .int x5, .int x6, .int x7]))] s.heap := hP
  have hl := lv_entry ([.ref h0, .int x0, .int x1, .int x2]) (n := 4) (Nat.le_of_ble_eq_true rfl)
  rw [lg_entry_eq]
  generalize (lg_sl ([.ref h0, .int x0, .int x1, .int x2]) ++ List.replicate (4 - (lg_sl ([.ref h0, .int x0, .int x1, .int x2])).length) Slot.unset).toArray = ls at hl ⊢
  have hl : lv_has ls 4 [(0, .ref h0), (1, .int x0), (2, .int x1), (3, .int x2)] := hl
  generalize ([.ref h0, .int x0, .int x1, .int x2] : List Value).toArray = ar at hG ⊢
  refine wq (fun Q hQ => ?_)
  refine lv_aload_n hx hb dX6_takeWithNext_0 rfl (lv_at hl 0 rfl) ?_
  refine lv_iload_n hx hb dX6_takeWithNext_1 rfl (lv_at hl 1 rfl) ?_
  refine va_put (D := (dC, dI)) (ci := 6) (v := .int x0) (ty := .int) (C := RX6) (T := TX6) (N := 5) hx hb hG inGX6 tyX6 tyX6_ok nmX6 hown hK hP hD hS 0 rfl rfl 0 (by decide) (hG _ wd_186) (fun _ h9 => h9) rfl (by decide +kernel) rfl rfl (Nat.le_of_ble_eq_true rfl) dX6_takeWithNext_2 (fun H locs hP hD hS => ?_)
  obtain ⟨hP, hD⟩ := nv_eq (ws' := [(h0, .inr (6, [.int x0, .int x4, .int x5, .int x6, .int x7]))]) hP hD rfl
  refine lv_aload_n hx hb dX6_takeWithNext_5 rfl (lv_at hl 0 rfl) ?_
  refine lv_iload_n hx hb dX6_takeWithNext_6 rfl (lv_at hl 2 rfl) ?_
  refine va_put (D := (dC, dI)) (ci := 6) (v := .int x1) (ty := .int) (C := RX6) (T := TX6) (N := 5) hx hb hG inGX6 tyX6 tyX6_ok nmX6 hown hK hP hD hS 0 rfl rfl 1 (by decide) (hG _ wd_187) (fun _ h9 => h9) rfl (by decide +kernel) rfl rfl (Nat.le_of_ble_eq_true rfl) dX6_takeWithNext_7 (fun H locs hP hD hS => ?_)
  obtain ⟨hP, hD⟩ := nv_eq (ws' := [(h0, .inr (6, [.int x0, .int x1, .int x5, .int x6, .int x7]))]) hP hD rfl
  refine lv_aload_n hx hb dX6_takeWithNext_10 rfl (lv_at hl 0 rfl) ?_
  refine lv_iload_n hx hb dX6_takeWithNext_11 rfl (lv_at hl 3 rfl) ?_
  refine va_put (D := (dC, dI)) (ci := 6) (v := .int x2) (ty := .int) (C := RX6) (T := TX6) (N := 5) hx hb hG inGX6 tyX6 tyX6_ok nmX6 hown hK hP hD hS 0 rfl rfl 2 (by decide) (hG _ wd_188) (fun _ h9 => h9) rfl (by decide +kernel) rfl rfl (Nat.le_of_ble_eq_true rfl) dX6_takeWithNext_12 (fun H locs hP hD hS => ?_)
  obtain ⟨hP, hD⟩ := nv_eq (ws' := [(h0, .inr (6, [.int x0, .int x1, .int x2, .int x6, .int x7]))]) hP hD rfl
  refine lv_aload_n hx hb dX6_takeWithNext_15 rfl (lv_at hl 0 rfl) ?_
  refine lv_iconst (v := 1) hx hb dX6_takeWithNext_16 (by decide) ?_
  refine va_put (D := (dC, dI)) (ci := 6) (v := .int 1) (ty := .boolean) (C := RX6) (T := TX6) (N := 5) hx hb hG inGX6 tyX6 tyX6_ok nmX6 hown hK hP hD hS 0 rfl rfl 3 (by decide) (hG _ wd_189) (fun _ h9 => h9) rfl (by decide +kernel) rfl rfl (Nat.le_of_ble_eq_true rfl) dX6_takeWithNext_17 (fun H locs hP hD hS => ?_)
  obtain ⟨hP, hD⟩ := nv_eq (ws' := [(h0, .inr (6, [.int x0, .int x1, .int x2, .int 1, .int x7]))]) hP hD rfl
  refine lv_aload_n hx hb dX6_takeWithNext_20 rfl (lv_at hl 0 rfl) ?_
  refine lv_iconst (v := 0) hx hb dX6_takeWithNext_21 (by decide) ?_
  refine va_put (D := (dC, dI)) (ci := 6) (v := .int 0) (ty := .boolean) (C := RX6) (T := TX6) (N := 5) hx hb hG inGX6 tyX6 tyX6_ok nmX6 hown hK hP hD hS 0 rfl rfl 4 (by decide) (hG _ wd_190) (fun _ h9 => h9) rfl (by decide +kernel) rfl rfl (Nat.le_of_ble_eq_true rfl) dX6_takeWithNext_22 (fun H locs hP hD hS => ?_)
  obtain ⟨hP, hD⟩ := nv_eq (ws' := [(h0, .inr (6, [.int x0, .int x1, .int x2, .int 1, .int 0]))]) hP hD rfl
  rw [hQ]
  obtain ⟨hP9, hD9⟩ := nv_sub2 (wc := [(h0, .inr (6, [.int x0, .int x1, .int x2, .int 1, .int 0]))]) hP hD [0] (by decide) rfl
  have hK9 := hK.sub (tys' := []) [] rfl
  exact W.vret hx hb hr (fun t ht hW => ⟨⟨(), rfl, trivial, by rw [ht]; exact hP9, va_K.moved hW.alike hK9, hD9⟩, hS.F ht⟩) hS.2.2 dX6_takeWithNext_25
set_option maxHeartbeats 100000000 in
set_option maxRecDepth 100000 in
theorem cX6_takeSymbolic_1 (l : Launch) (dC : Nat → ClassId) (dI : Nat → Nat → Nat) (h0 : Nat) (sz : Nat) (x0 x1 x2 x3 x4 x5 : Int32) (ix4 : iv x4 0 1) (ix5 : iv x5 0 1) : Met l yX6_takeSymbolic (Cond.code yX6_takeSymbolic cX6_takeSymbolic 2 none :: lw_G) ({ frames := 1, cells := 0, slots := 0, locals := 23 }) (va_Pc [.ref h0, .int x0] (fun U => U.heap.size = sz ∧ va_P (dC, dI) vwCl [(h0, .inr (6, [.int x1, .int x2, .int x3, .int x4, .int x5]))] U.heap ∧ va_K (dC, dI) vwCl [] U ∧ va_D (fun _ => True) [(h0, .inr (6, [.int x1, .int x2, .int x3, .int x4, .int x5]))])) (va_Qv (fun (u : Unit) => True) (fun (u : Unit) (t : State) => va_P (dC, dI) vwCl [(h0, .inr (6, [.int 1, .int 0, .int x0, .int 1, .int 1]))] t.heap ∧ va_K (dC, dI) vwCl [] t ∧ va_D (va_A [(h0, .inr (6, [.int x1, .int x2, .int x3, .int x4, .int x5]))] sz) [(h0, .inr (6, [.int 1, .int 0, .int x0, .int 1, .int 1]))]) (va_A [(h0, .inr (6, [.int x1, .int x2, .int x3, .int x4, .int x5]))] sz)) 0 0 (va_A [(h0, .inr (6, [.int x1, .int x2, .int x3, .int x4, .int x5]))] sz) := by
  refine Met.ofW (cc := cX6_takeSymbolic) (maxL := 2) (ret := none) (by decide) rfl ?_
  intro p e s m args below meth c s₁ B hml hv
  obtain ⟨rfl, hsz, hP, hK, hD0⟩ := hv
  have hx := B.exec
  have hb := B.bytes
  have hr := B.returns
  have hts0 := atoms_spec (ws := Cond.code yX6_takeSymbolic cX6_takeSymbolic 2 none :: lw_G) B.pre
  have hG : ∀ w ∈ lw_G, w.before _ s = true := fun w h => hts0 w (List.mem_cons_of_mem _ h)
  have hown : s.vm.findClass RX6 = some m.cls := findClass_of_methodNamed B.named
  have hlocks := B.notSynchronized
  subst hsz
  have hD := hD0.self (sz := s.heap.size)
  generalize hAe : va_A [(h0, .inr (6, [.int x1, .int x2, .int x3, .int x4, .int x5]))] s.heap.size = A at hD ⊢
  have hA : ∀ q : Nat, s.heap.size ≤ q → A q := fun q h => by rw [← hAe]; exact Or.inr h
  have hS : va_S A s.heap s.heap [] := va_S.rf
  have hP : va_P (dC, dI) vwCl [(h0, .inr (6, [.int x1, .int x2, .int x3, .int x4, .int x5]))] s.heap := hP
  have hl := lv_entry ([.ref h0, .int x0]) (n := 2) (Nat.le_of_ble_eq_true rfl)
  rw [lg_entry_eq]
  generalize (lg_sl ([.ref h0, .int x0]) ++ List.replicate (2 - (lg_sl ([.ref h0, .int x0])).length) Slot.unset).toArray = ls at hl ⊢
  have hl : lv_has ls 2 [(0, .ref h0), (1, .int x0)] := hl
  generalize ([.ref h0, .int x0] : List Value).toArray = ar at hG ⊢
  refine wq (fun Q hQ => ?_)
  refine lv_aload_n hx hb dX6_takeSymbolic_0 rfl (lv_at hl 0 rfl) ?_
  refine lv_iconst (v := 1) hx hb dX6_takeSymbolic_1 (by decide) ?_
  refine lv_iconst (v := 0) hx hb dX6_takeSymbolic_2 (by decide) ?_
  refine lv_iload_n hx hb dX6_takeSymbolic_3 rfl (lv_at hl 1 rfl) ?_
  obtain ⟨hPc, hDc, hFc⟩ := nv_sub3 (wc := [(h0, .inr (6, [.int x1, .int x2, .int x3, .int x4, .int x5]))]) hP hD hS hA [0] (by decide) rfl
  have hKc := hK.sub (tys' := []) [] rfl
  refine va_callv (va_runV (As := [.int 1, .int 0, .int x0]) (rest := []) ⟨hx, hb, hml, hown, hG⟩ (cX6_takeWithNext_1 l dC dI h0 s.heap.size 1 0 x0 x1 x2 x3 x4 x5 ix4 ix5) (cwV 3 hG (gV wd_644 wd_645 wd_646 wd_9 wd_647) rfl rfl rfl (by decide +kernel) ⟨Nat.le_of_ble_eq_true rfl, Nat.le_of_ble_eq_true rfl⟩) ⟨fun a U g mk q => by obtain ⟨q0, q1, qP, qK, qD⟩ := q; exact ⟨q0, q1, qP, va_K.moved (u := U) (U := U.calling g mk a) (Vm.Alike.refl U.vm) qK, qD⟩, va_recv hKc hPc (ci := 6) (q0 := 0) rfl rfl, fun U hU hW => ⟨rfl, by rw [hU], by rw [hU]; exact hPc, va_K.moved hW.alike hKc, hDc.weaken (fun _ _ _ _ => trivial)⟩⟩ rfl rfl hl.1 rfl (lv_room (Nat.le_of_ble_eq_true rfl)) dX6_takeSymbolic_4 ⟨by decide, by decide⟩) hS (fun q _ h => hFc q h) hFc (fun u2 t H1 locs ht hvm hw hB hz1 hk1 hS => ?_)
  obtain ⟨hP1, hK1, hD1⟩ := hB
  rw [ht] at hP1
  have hK1 := va_K.moved hvm.symm hK1
  obtain ⟨hP, hD⟩ := nv_join (wf := [(h0, .inr (6, [.int 1, .int 0, .int x0, .int 1, .int 0]))]) hP hD [0] [] rfl rfl (by decide) (by decide) hk1 hFc hP1 hD1 rfl
  have hK := (hK.sub (tys' := []) [] rfl).app hK1
  generalize H1 = H at hP hS ⊢
  have hK : va_K (dC, dI) vwCl [] s := hK
  refine lv_aload_n hx hb dX6_takeSymbolic_7 rfl (lv_at hl 0 rfl) ?_
  refine lv_iconst (v := 1) hx hb dX6_takeSymbolic_8 (by decide) ?_
  refine va_put (D := (dC, dI)) (ci := 6) (v := .int 1) (ty := .boolean) (C := RX6) (T := TX6) (N := 5) hx hb hG inGX6 tyX6 tyX6_ok nmX6 hown hK hP hD hS 0 rfl rfl 4 (by decide) (hG _ wd_190) (fun _ h9 => h9) rfl (by decide +kernel) rfl rfl (Nat.le_of_ble_eq_true rfl) dX6_takeSymbolic_9 (fun H locs hP hD hS => ?_)
  obtain ⟨hP, hD⟩ := nv_eq (ws' := [(h0, .inr (6, [.int 1, .int 0, .int x0, .int 1, .int 1]))]) hP hD rfl
  rw [hQ]
  obtain ⟨hP9, hD9⟩ := nv_sub2 (wc := [(h0, .inr (6, [.int 1, .int 0, .int x0, .int 1, .int 1]))]) hP hD [0] (by decide) rfl
  have hK9 := hK.sub (tys' := []) [] rfl
  exact W.vret hx hb hr (fun t ht hW => ⟨⟨(), rfl, trivial, by rw [ht]; exact hP9, va_K.moved hW.alike hK9, hD9⟩, hS.F ht⟩) hS.2.2 dX6_takeSymbolic_12
set_option maxHeartbeats 100000000 in
set_option maxRecDepth 100000 in
theorem cX10_isBase_1 (l : Launch) (dC : Nat → ClassId) (dI : Nat → Nat → Nat) (h0 h1 h2 h3 h4 h5 h6 : Nat) (y0 y1 : ClassId) (sz : Nat) (x0 x1 x2 x3 x4 : Int32) (z0 : Int64) (f0 f1 : Nat → Int32) (ix0 : iv x0 0 2600) (ix1 : iv x1 0 2501) (ix2 : iv x2 0 2500) : Met l yX10_isBase (Cond.code yX10_isBase cX10_isBase 2 (some .boolean) :: lw_G) ({ frames := 0, cells := 0, slots := 0, locals := 0 }) (va_Pc [.ref h0] (fun U => U.heap.size = sz ∧ va_P (dC, dI) vwCl [(h0, .inr (10, [.ref h1, .ref h2, .ref h3, .ref h4, .ref h5, .ref h6, .int x0, .int x1, .int x2, .int x3, .int x4, .long z0])), (h1, .inl (y0, 2501, .inl f0)), (h3, .inl (y1, 2501, .inl f1))] U.heap ∧ va_K (dC, dI) vwCl [(y0, .int), (y1, .int)] U ∧ va_D (fun _ => True) [(h0, .inr (10, [.ref h1, .ref h2, .ref h3, .ref h4, .ref h5, .ref h6, .int x0, .int x1, .int x2, .int x3, .int x4, .long z0])), (h1, .inl (y0, 2501, .inl f0)), (h3, .inl (y1, 2501, .inl f1))])) (va_Qi (fun (r : Int32) (u : Unit) => iv r 0 1 ∧ True) (fun (u : Unit) (t : State) => va_P (dC, dI) vwCl [(h0, .inr (10, [.ref h1, .ref h2, .ref h3, .ref h4, .ref h5, .ref h6, .int x0, .int x1, .int x2, .int x3, .int x4, .long z0])), (h1, .inl (y0, 2501, .inl f0)), (h3, .inl (y1, 2501, .inl f1))] t.heap ∧ va_K (dC, dI) vwCl [(y0, .int), (y1, .int)] t ∧ va_D (va_A [(h0, .inr (10, [.ref h1, .ref h2, .ref h3, .ref h4, .ref h5, .ref h6, .int x0, .int x1, .int x2, .int x3, .int x4, .long z0])), (h1, .inl (y0, 2501, .inl f0)), (h3, .inl (y1, 2501, .inl f1))] sz) [(h0, .inr (10, [.ref h1, .ref h2, .ref h3, .ref h4, .ref h5, .ref h6, .int x0, .int x1, .int x2, .int x3, .int x4, .long z0])), (h1, .inl (y0, 2501, .inl f0)), (h3, .inl (y1, 2501, .inl f1))]) (va_A [(h0, .inr (10, [.ref h1, .ref h2, .ref h3, .ref h4, .ref h5, .ref h6, .int x0, .int x1, .int x2, .int x3, .int x4, .long z0])), (h1, .inl (y0, 2501, .inl f0)), (h3, .inl (y1, 2501, .inl f1))] sz)) 0 0 (va_A [(h0, .inr (10, [.ref h1, .ref h2, .ref h3, .ref h4, .ref h5, .ref h6, .int x0, .int x1, .int x2, .int x3, .int x4, .long z0])), (h1, .inl (y0, 2501, .inl f0)), (h3, .inl (y1, 2501, .inl f1))] sz) := by
  refine Met.ofW (cc := cX10_isBase) (maxL := 2) (ret := (some .boolean)) (by decide) rfl ?_
  intro p e s m args below meth c s₁ B hml hv
  obtain ⟨rfl, hsz, hP, hK, hD0⟩ := hv
  have hx := B.exec
  have hb := B.bytes
  have hr := B.returns
  have hts0 := atoms_spec (ws := Cond.code yX10_isBase cX10_isBase 2 (some .boolean) :: lw_G) B.pre
  have hG : ∀ w ∈ lw_G, w.before _ s = true := fun w h => hts0 w (List.mem_cons_of_mem _ h)
  have hown : s.vm.findClass RX10 = some m.cls := findClass_of_methodNamed B.named
  have hlocks := B.notSynchronized
  subst hsz
  have hD := hD0.self (sz := s.heap.size)
  generalize hAe : va_A [(h0, .inr (10, [.ref h1, .ref h2, .ref h3, .ref h4, .ref h5, .ref h6, .int x0, .int x1, .int x2, .int x3, .int x4, .long z0])), (h1, .inl (y0, 2501, .inl f0)), (h3, .inl (y1, 2501, .inl f1))] s.heap.size = A at hD ⊢
  have hA : ∀ q : Nat, s.heap.size ≤ q → A q := fun q h => by rw [← hAe]; exact Or.inr h
  have hS : va_S A s.heap s.heap [] := va_S.rf
  have hP : va_P (dC, dI) vwCl [(h0, .inr (10, [.ref h1, .ref h2, .ref h3, .ref h4, .ref h5, .ref h6, .int x0, .int x1, .int x2, .int x3, .int x4, .long z0])), (h1, .inl (y0, 2501, .inl f0)), (h3, .inl (y1, 2501, .inl f1))] s.heap := hP
  have hl := lv_entry ([.ref h0]) (n := 2) (Nat.le_of_ble_eq_true rfl)
  rw [lg_entry_eq]
  generalize (lg_sl ([.ref h0]) ++ List.replicate (2 - (lg_sl ([.ref h0])).length) Slot.unset).toArray = ls at hl ⊢
  have hl : lv_has ls 2 [(0, .ref h0)] := hl
  generalize ([.ref h0] : List Value).toArray = ar at hG ⊢
  refine wq (fun Q hQ => ?_)
  refine lv_aload_n hx hb dX10_isBase_0 rfl (lv_at hl 0 rfl) ?_
  refine va_get (D := (dC, dI)) (ci := 10) (v := .int x2) (C := RX10) (T := TX10) (N := 12) hx hb hG inGX10 hown hK hP 0 rfl rfl 8 (by decide) (hG _ wd_291) (fun _ h9 => h9) rfl dX10_isBase_1 ?_
  refine lv_sipush (v := 2501) hx hb dX10_isBase_4 (by decide) ?_
  refine lv_icmp_ge (tgt := 27) hx hb dX10_isBase_7 (by decide) (fun c => absurd c (iv_nle (by decide : iv 2501 2501 2501) ix2 (by decide))) (fun _ => ?_)
  refine lv_aload_n hx hb dX10_isBase_10 rfl (lv_at hl 0 rfl) ?_
  refine va_get (D := (dC, dI)) (ci := 10) (v := .ref h1) (C := RX10) (T := TX10) (N := 12) hx hb hG inGX10 hown hK hP 0 rfl rfl 0 (by decide) (hG _ wd_283) (fun _ h9 => h9) rfl dX10_isBase_11 ?_
  refine lv_aload_n hx hb dX10_isBase_14 rfl (lv_at hl 0 rfl) ?_
  refine va_get (D := (dC, dI)) (ci := 10) (v := .int x2) (C := RX10) (T := TX10) (N := 12) hx hb hG inGX10 hown hK hP 0 rfl rfl 8 (by decide) (hG _ wd_291) (fun _ h9 => h9) rfl dX10_isBase_15 ?_
  refine va_iald hx hb hK hP 1 0 rfl rfl (iv_in ix2 (by decide) (by decide) : vp_in x2 2501) dX10_isBase_18 ?_
  refine lv_topi (fun v1 ev1 => ?_)
  refine lv_iconst (v := 4) hx hb dX10_isBase_19 (by decide) ?_
  refine jcut (a := ∀ (b3 : Int32) (ib3 : iv b3 0 1) (H : Heap) (locs : List Loc) (hK : va_K (dC, dI) vwCl [(y0, .int), (y1, .int)] s) (hP : va_P (dC, dI) vwCl [(h0, .inr (10, [.ref h1, .ref h2, .ref h3, .ref h4, .ref h5, .ref h6, .int x0, .int x1, .int x2, .int x3, .int x4, .long z0])), (h1, .inl (y0, 2501, .inl f0)), (h3, .inl (y1, 2501, .inl f1))] H) (hD : va_D A [(h0, .inr (10, [.ref h1, .ref h2, .ref h3, .ref h4, .ref h5, .ref h6, .int x0, .int x1, .int x2, .int x3, .int x4, .long z0])), (h1, .inl (y0, 2501, .inl f0)), (h3, .inl (y1, 2501, .inl f1))]) (hS : va_S A s.heap H locs) (ls : Array Slot) (hl : lv_has ls 2 [(0, .ref h0)]), W p l e (headSpec (Cond.code yX10_isBase cX10_isBase 2 (some .boolean) :: lw_G) ({ frames := 0, cells := 0, slots := 0, locals := 0 })).room s m ar below meth c H locs 0 0 Q (F0 m 28 ls [.int b3])) ?_ (fun j4 => ?_)
  · skip
    intro b3 ib3 H locs hK hP hD hS ls hl
    refine lv_istore_n (lv' := [(1, .int b3), (0, .ref h0)]) hx hb dX10_isBase_28 rfl hl (by decide) rfl (fun ls hl => ?_)
    refine lv_iload_n hx hb dX10_isBase_29 rfl (lv_at hl 0 rfl) ?_
    refine jcut (a := ∀ (b13 : Int32) (ib13 : iv b13 0 1) (H : Heap) (locs : List Loc) (hK : va_K (dC, dI) vwCl [(y0, .int), (y1, .int)] s) (hP : va_P (dC, dI) vwCl [(h0, .inr (10, [.ref h1, .ref h2, .ref h3, .ref h4, .ref h5, .ref h6, .int x0, .int x1, .int x2, .int x3, .int x4, .long z0])), (h1, .inl (y0, 2501, .inl f0)), (h3, .inl (y1, 2501, .inl f1))] H) (hD : va_D A [(h0, .inr (10, [.ref h1, .ref h2, .ref h3, .ref h4, .ref h5, .ref h6, .int x0, .int x1, .int x2, .int x3, .int x4, .long z0])), (h1, .inl (y0, 2501, .inl f0)), (h3, .inl (y1, 2501, .inl f1))]) (hS : va_S A s.heap H locs) (ls : Array Slot) (hl : lv_has ls 2 []), W p l e (headSpec (Cond.code yX10_isBase cX10_isBase 2 (some .boolean) :: lw_G) ({ frames := 0, cells := 0, slots := 0, locals := 0 })).room s m ar below meth c H locs 0 0 Q (F0 m 76 ls [.int b13])) ?_ (fun j14 => ?_)
    · skip
      intro b13 ib13 H locs hK hP hD hS ls hl
      rw [hQ]
      obtain ⟨hP9, hD9⟩ := nv_sub2 (wc := [(h0, .inr (10, [.ref h1, .ref h2, .ref h3, .ref h4, .ref h5, .ref h6, .int x0, .int x1, .int x2, .int x3, .int x4, .long z0])), (h1, .inl (y0, 2501, .inl f0)), (h3, .inl (y1, 2501, .inl f1))]) hP hD [0, 1, 2] (by decide) rfl
      have hK9 := hK.sub (tys' := [(y0, .int), (y1, .int)]) [0, 1] rfl
      exact W.zret (v := b13) hx hb hr (iv_z (iv_w ib13 (by decide) (by decide))).1 (fun t ht hW => ⟨⟨b13, (), rfl, ⟨iv_w ib13 (by decide) (by decide), trivial⟩, by rw [ht]; exact hP9, va_K.moved hW.alike hK9, hD9⟩, hS.F ht⟩) hS.2.2 dX10_isBase_76
    refine lv_if_eq (tgt := 75) hx hb dX10_isBase_30 (by decide) (fun c5 => ?_) (fun c5 => ?_)
    · skip
      subst c5
      refine lv_iconst (v := 0) hx hb dX10_isBase_75 (by decide) ?_
      exact j14 0 (iv_w (by decide : iv 0 0 0) (by decide) (by decide)) _ _ hK hP hD hS ls (lv_sub hl [] rfl)
    · skip
      have j15 : iv b3 1 1 := iv_neLo ib3 (by decide : iv 0 0 0) c5 (by decide)
      refine lv_aload_n hx hb dX10_isBase_33 rfl (lv_at hl 1 rfl) ?_
      refine va_get (D := (dC, dI)) (ci := 10) (v := .ref h3) (C := RX10) (T := TX10) (N := 12) hx hb hG inGX10 hown hK hP 0 rfl rfl 2 (by decide) (hG _ wd_285) (fun _ h9 => h9) rfl dX10_isBase_34 ?_
      refine lv_aload_n hx hb dX10_isBase_37 rfl (lv_at hl 1 rfl) ?_
      refine va_get (D := (dC, dI)) (ci := 10) (v := .int x2) (C := RX10) (T := TX10) (N := 12) hx hb hG inGX10 hown hK hP 0 rfl rfl 8 (by decide) (hG _ wd_291) (fun _ h9 => h9) rfl dX10_isBase_38 ?_
      refine va_iald hx hb hK hP 2 1 rfl rfl (iv_in ix2 (by decide) (by decide) : vp_in x2 2501) dX10_isBase_41 ?_
      refine lv_topi (fun v16 ev16 => ?_)
      refine lv_if_eq (tgt := 75) hx hb dX10_isBase_42 (by decide) (fun c17 => ?_) (fun c17 => ?_)
      · skip
        subst c17
        refine lv_iconst (v := 0) hx hb dX10_isBase_75 (by decide) ?_
        exact j14 0 (iv_w (by decide : iv 0 0 0) (by decide) (by decide)) _ _ hK hP hD hS ls (lv_sub hl [] rfl)
      · skip
        refine lv_aload_n hx hb dX10_isBase_45 rfl (lv_at hl 1 rfl) ?_
        refine va_get (D := (dC, dI)) (ci := 10) (v := .ref h3) (C := RX10) (T := TX10) (N := 12) hx hb hG inGX10 hown hK hP 0 rfl rfl 2 (by decide) (hG _ wd_285) (fun _ h9 => h9) rfl dX10_isBase_46 ?_
        refine lv_aload_n hx hb dX10_isBase_49 rfl (lv_at hl 1 rfl) ?_
        refine va_get (D := (dC, dI)) (ci := 10) (v := .int x2) (C := RX10) (T := TX10) (N := 12) hx hb hG inGX10 hown hK hP 0 rfl rfl 8 (by decide) (hG _ wd_291) (fun _ h9 => h9) rfl dX10_isBase_50 ?_
        refine va_iald hx hb hK hP 2 1 rfl rfl (iv_in ix2 (by decide) (by decide) : vp_in x2 2501) dX10_isBase_53 ?_
        refine lv_topi (fun v18 ev18 => ?_)
        refine lv_iconst (v := 2) hx hb dX10_isBase_54 (by decide) ?_
        refine lv_icmp_eq (tgt := 75) hx hb dX10_isBase_55 (by decide) (fun c19 => ?_) (fun c19 => ?_)
        · skip
          subst c19
          refine lv_iconst (v := 0) hx hb dX10_isBase_75 (by decide) ?_
          exact j14 0 (iv_w (by decide : iv 0 0 0) (by decide) (by decide)) _ _ hK hP hD hS ls (lv_sub hl [] rfl)
        · skip
          refine lv_aload_n hx hb dX10_isBase_58 rfl (lv_at hl 1 rfl) ?_
          refine va_get (D := (dC, dI)) (ci := 10) (v := .ref h3) (C := RX10) (T := TX10) (N := 12) hx hb hG inGX10 hown hK hP 0 rfl rfl 2 (by decide) (hG _ wd_285) (fun _ h9 => h9) rfl dX10_isBase_59 ?_
          refine lv_aload_n hx hb dX10_isBase_62 rfl (lv_at hl 1 rfl) ?_
          refine va_get (D := (dC, dI)) (ci := 10) (v := .int x2) (C := RX10) (T := TX10) (N := 12) hx hb hG inGX10 hown hK hP 0 rfl rfl 8 (by decide) (hG _ wd_291) (fun _ h9 => h9) rfl dX10_isBase_63 ?_
          refine va_iald hx hb hK hP 2 1 rfl rfl (iv_in ix2 (by decide) (by decide) : vp_in x2 2501) dX10_isBase_66 ?_
          refine lv_topi (fun v20 ev20 => ?_)
          refine lv_iconst (v := 3) hx hb dX10_isBase_67 (by decide) ?_
          refine lv_icmp_eq (tgt := 75) hx hb dX10_isBase_68 (by decide) (fun c21 => ?_) (fun c21 => ?_)
          · skip
            subst c21
            refine lv_iconst (v := 0) hx hb dX10_isBase_75 (by decide) ?_
            exact j14 0 (iv_w (by decide : iv 0 0 0) (by decide) (by decide)) _ _ hK hP hD hS ls (lv_sub hl [] rfl)
          · skip
            refine lv_iconst (v := 1) hx hb dX10_isBase_71 (by decide) ?_
            refine lv_goto (tgt := 76) hx hb dX10_isBase_72 (by decide) ?_
            exact j14 1 (iv_w (by decide : iv 1 1 1) (by decide) (by decide)) _ _ hK hP hD hS ls (lv_sub hl [] rfl)
  refine lv_icmp_ne (tgt := 27) hx hb dX10_isBase_20 (by decide) (fun c2 => ?_) (fun c2 => ?_)
  · skip
    refine lv_iconst (v := 0) hx hb dX10_isBase_27 (by decide) ?_
    exact j4 0 (iv_w (by decide : iv 0 0 0) (by decide) (by decide)) _ _ hK hP hD hS ls hl
  · skip
    subst c2
    refine lv_iconst (v := 1) hx hb dX10_isBase_23 (by decide) ?_
    refine lv_goto (tgt := 28) hx hb dX10_isBase_24 (by decide) ?_
    exact j4 1 (iv_w (by decide : iv 1 1 1) (by decide) (by decide)) _ _ hK hP hD hS ls hl
set_option maxHeartbeats 100000000 in
set_option maxRecDepth 100000 in
theorem cX0_indexed_1 (l : Launch) (dC : Nat → ClassId) (dI : Nat → Nat → Nat) (h0 h1 h2 h3 h4 h5 h6 h7 h8 h9 h10 h11 h12 h13 : Nat) (y0 y1 y2 : ClassId) (sz : Nat) (x0 x1 x2 x3 x4 x5 x6 x7 x8 x9 x10 x11 x12 x13 x14 x15 x16 x17 x18 x19 : Int32) (z0 : Int64) (f0 f1 f2 : Nat → Int32) (ix0 : iv x0 0 2600) (ix1 : iv x1 0 1) (ix7 : iv x7 0 1) (ix10 : iv x10 0 2600) (ix11 : iv x11 0 2501) (ix12 : iv x12 0 2500) (ix18 : iv x18 0 1) (ix19 : iv x19 0 1) : Met l yX0_indexed (Cond.code yX0_indexed cX0_indexed 2 (some .boolean) :: lw_G) ({ frames := 1, cells := 0, slots := 0, locals := 23 }) (va_Pc [.ref h0, .ref h1] (fun U => U.heap.size = sz ∧ va_P (dC, dI) vwCl [(h0, .inr (0, [.ref h2, .ref h3, .ref h1, .ref h4, .ref h5, .ref h6, .ref h7, .int x0, .int x1, .int x2, .int x3, .int x4, .int x5, .int x6, .int x7, .int x8, .int x9])), (h2, .inr (10, [.ref h8, .ref h9, .ref h10, .ref h11, .ref h12, .ref h13, .int x10, .int x11, .int x12, .int x13, .int x14, .long z0])), (h8, .inl (y0, 2501, .inl f0)), (h10, .inl (y1, 2501, .inl f1)), (h1, .inr (6, [.int x15, .int x16, .int x17, .int x18, .int x19])), (h9, .inl (y2, 2501, .inl f2))] U.heap ∧ va_K (dC, dI) vwCl [(y0, .int), (y1, .int), (y2, .int)] U ∧ va_D (fun _ => True) [(h0, .inr (0, [.ref h2, .ref h3, .ref h1, .ref h4, .ref h5, .ref h6, .ref h7, .int x0, .int x1, .int x2, .int x3, .int x4, .int x5, .int x6, .int x7, .int x8, .int x9])), (h2, .inr (10, [.ref h8, .ref h9, .ref h10, .ref h11, .ref h12, .ref h13, .int x10, .int x11, .int x12, .int x13, .int x14, .long z0])), (h8, .inl (y0, 2501, .inl f0)), (h10, .inl (y1, 2501, .inl f1)), (h1, .inr (6, [.int x15, .int x16, .int x17, .int x18, .int x19])), (h9, .inl (y2, 2501, .inl f2))])) (va_Qi (fun (r : Int32) (u : Int32 × Int32 × Int32 × Int32 × Int32 × Int32 × Int32 × Int32) => iv r 0 1 ∧ iv u.2.2.1 0 2500 ∧ iv u.2.2.2.2.2.2.1 0 1 ∧ iv u.2.2.2.2.2.2.2 0 1 ∧ True) (fun (u : Int32 × Int32 × Int32 × Int32 × Int32 × Int32 × Int32 × Int32) (t : State) => va_P (dC, dI) vwCl [(h0, .inr (0, [.ref h2, .ref h3, .ref h1, .ref h4, .ref h5, .ref h6, .ref h7, .int x0, .int x1, .int x2, .int x3, .int x4, .int x5, .int x6, .int x7, .int u.1, .int u.2.1])), (h2, .inr (10, [.ref h8, .ref h9, .ref h10, .ref h11, .ref h12, .ref h13, .int x10, .int x11, .int u.2.2.1, .int x13, .int x14, .long z0])), (h8, .inl (y0, 2501, .inl f0)), (h10, .inl (y1, 2501, .inl f1)), (h1, .inr (6, [.int u.2.2.2.1, .int u.2.2.2.2.1, .int u.2.2.2.2.2.1, .int u.2.2.2.2.2.2.1, .int u.2.2.2.2.2.2.2])), (h9, .inl (y2, 2501, .inl f2))] t.heap ∧ va_K (dC, dI) vwCl [(y0, .int), (y1, .int), (y2, .int)] t ∧ va_D (va_A [(h0, .inr (0, [.ref h2, .ref h3, .ref h1, .ref h4, .ref h5, .ref h6, .ref h7, .int x0, .int x1, .int x2, .int x3, .int x4, .int x5, .int x6, .int x7, .int x8, .int x9])), (h2, .inr (10, [.ref h8, .ref h9, .ref h10, .ref h11, .ref h12, .ref h13, .int x10, .int x11, .int x12, .int x13, .int x14, .long z0])), (h8, .inl (y0, 2501, .inl f0)), (h10, .inl (y1, 2501, .inl f1)), (h1, .inr (6, [.int x15, .int x16, .int x17, .int x18, .int x19])), (h9, .inl (y2, 2501, .inl f2))] sz) [(h0, .inr (0, [.ref h2, .ref h3, .ref h1, .ref h4, .ref h5, .ref h6, .ref h7, .int x0, .int x1, .int x2, .int x3, .int x4, .int x5, .int x6, .int x7, .int u.1, .int u.2.1])), (h2, .inr (10, [.ref h8, .ref h9, .ref h10, .ref h11, .ref h12, .ref h13, .int x10, .int x11, .int u.2.2.1, .int x13, .int x14, .long z0])), (h8, .inl (y0, 2501, .inl f0)), (h10, .inl (y1, 2501, .inl f1)), (h1, .inr (6, [.int u.2.2.2.1, .int u.2.2.2.2.1, .int u.2.2.2.2.2.1, .int u.2.2.2.2.2.2.1, .int u.2.2.2.2.2.2.2])), (h9, .inl (y2, 2501, .inl f2))]) (va_A [(h0, .inr (0, [.ref h2, .ref h3, .ref h1, .ref h4, .ref h5, .ref h6, .ref h7, .int x0, .int x1, .int x2, .int x3, .int x4, .int x5, .int x6, .int x7, .int x8, .int x9])), (h2, .inr (10, [.ref h8, .ref h9, .ref h10, .ref h11, .ref h12, .ref h13, .int x10, .int x11, .int x12, .int x13, .int x14, .long z0])), (h8, .inl (y0, 2501, .inl f0)), (h10, .inl (y1, 2501, .inl f1)), (h1, .inr (6, [.int x15, .int x16, .int x17, .int x18, .int x19])), (h9, .inl (y2, 2501, .inl f2))] sz)) 0 0 (va_A [(h0, .inr (0, [.ref h2, .ref h3, .ref h1, .ref h4, .ref h5, .ref h6, .ref h7, .int x0, .int x1, .int x2, .int x3, .int x4, .int x5, .int x6, .int x7, .int x8, .int x9])), (h2, .inr (10, [.ref h8, .ref h9, .ref h10, .ref h11, .ref h12, .ref h13, .int x10, .int x11, .int x12, .int x13, .int x14, .long z0])), (h8, .inl (y0, 2501, .inl f0)), (h10, .inl (y1, 2501, .inl f1)), (h1, .inr (6, [.int x15, .int x16, .int x17, .int x18, .int x19])), (h9, .inl (y2, 2501, .inl f2))] sz) := by
  refine Met.ofW (cc := cX0_indexed) (maxL := 2) (ret := (some .boolean)) (by decide) rfl ?_
  intro p e s m args below meth c s₁ B hml hv
  obtain ⟨rfl, hsz, hP, hK, hD0⟩ := hv
  have hx := B.exec
  have hb := B.bytes
  have hr := B.returns
  have hts0 := atoms_spec (ws := Cond.code yX0_indexed cX0_indexed 2 (some .boolean) :: lw_G) B.pre
  have hG : ∀ w ∈ lw_G, w.before _ s = true := fun w h => hts0 w (List.mem_cons_of_mem _ h)
  have hown : s.vm.findClass RX0 = some m.cls := findClass_of_methodNamed B.named
  have hlocks := B.notSynchronized
  subst hsz
  have hD := hD0.self (sz := s.heap.size)
  generalize hAe : va_A [(h0, .inr (0, [.ref h2, .ref h3, .ref h1, .ref h4, .ref h5, .ref h6, .ref h7, .int x0, .int x1, .int x2, .int x3, .int x4, .int x5, .int x6, .int x7, .int x8, .int x9])), (h2, .inr (10, [.ref h8, .ref h9, .ref h10, .ref h11, .ref h12, .ref h13, .int x10, .int x11, .int x12, .int x13, .int x14, .long z0])), (h8, .inl (y0, 2501, .inl f0)), (h10, .inl (y1, 2501, .inl f1)), (h1, .inr (6, [.int x15, .int x16, .int x17, .int x18, .int x19])), (h9, .inl (y2, 2501, .inl f2))] s.heap.size = A at hD ⊢
  have hA : ∀ q : Nat, s.heap.size ≤ q → A q := fun q h => by rw [← hAe]; exact Or.inr h
  have hS : va_S A s.heap s.heap [] := va_S.rf
  have hP : va_P (dC, dI) vwCl [(h0, .inr (0, [.ref h2, .ref h3, .ref h1, .ref h4, .ref h5, .ref h6, .ref h7, .int x0, .int x1, .int x2, .int x3, .int x4, .int x5, .int x6, .int x7, .int x8, .int x9])), (h2, .inr (10, [.ref h8, .ref h9, .ref h10, .ref h11, .ref h12, .ref h13, .int x10, .int x11, .int x12, .int x13, .int x14, .long z0])), (h8, .inl (y0, 2501, .inl f0)), (h10, .inl (y1, 2501, .inl f1)), (h1, .inr (6, [.int x15, .int x16, .int x17, .int x18, .int x19])), (h9, .inl (y2, 2501, .inl f2))] s.heap := hP
  have hl := lv_entry ([.ref h0, .ref h1]) (n := 2) (Nat.le_of_ble_eq_true rfl)
  rw [lg_entry_eq]
  generalize (lg_sl ([.ref h0, .ref h1]) ++ List.replicate (2 - (lg_sl ([.ref h0, .ref h1])).length) Slot.unset).toArray = ls at hl ⊢
  have hl : lv_has ls 2 [(0, .ref h0), (1, .ref h1)] := hl
  generalize ([.ref h0, .ref h1] : List Value).toArray = ar at hG ⊢
  refine wq (fun Q hQ => ?_)
  refine lv_aload_n hx hb dX0_indexed_0 rfl (lv_at hl 0 rfl) ?_
  refine va_get (D := (dC, dI)) (ci := 0) (v := .ref h2) (C := RX0) (T := TX0) (N := 17) hx hb hG inGX0 hown hK hP 0 rfl rfl 0 (by decide) (hG _ wd_321) (fun _ h9 => h9) rfl dX0_indexed_1 ?_
  obtain ⟨hPc, hDc, hFc⟩ := nv_sub3 (wc := [(h2, .inr (10, [.ref h8, .ref h9, .ref h10, .ref h11, .ref h12, .ref h13, .int x10, .int x11, .int x12, .int x13, .int x14, .long z0]))]) hP hD hS hA [1] (by decide) rfl
  have hKc := hK.sub (tys' := []) [] rfl
  refine va_callv (va_runV (As := []) (rest := []) ⟨hx, hb, hml, hown, hG⟩ (cX10_skip_1 l dC dI h2 h8 h9 h10 h11 h12 h13 s.heap.size x10 x11 x12 x13 x14 z0 ix10 ix11 ix12) (cwV 0 hG (gV wd_576 wd_577 wd_578 wd_11 wd_579) rfl rfl rfl (by decide +kernel) ⟨Nat.le_of_ble_eq_true rfl, Nat.le_of_ble_eq_true rfl⟩) ⟨fun a U g mk q => by obtain ⟨q0, q1, qP, qK, qD⟩ := q; exact ⟨q0, q1, qP, va_K.moved (u := U) (U := U.calling g mk a) (Vm.Alike.refl U.vm) qK, qD⟩, va_recv hKc hPc (ci := 10) (q0 := 0) rfl rfl, fun U hU hW => ⟨rfl, by rw [hU], by rw [hU]; exact hPc, va_K.moved hW.alike hKc, hDc.weaken (fun _ _ _ _ => trivial)⟩⟩ rfl rfl hl.1 rfl (lv_room (Nat.le_of_ble_eq_true rfl)) dX0_indexed_4 ⟨by decide, by decide⟩) hS (fun q _ h => hFc q h) hFc (fun u2 t H1 locs ht hvm hw hB hz1 hk1 hS => ?_)
  obtain ⟨u2_0, rfl⟩ : ∃ z, z = u2 := ⟨_, rfl⟩
  have hw : iv u2_0 0 2500 ∧ True := hw
  obtain ⟨iu2_0, -⟩ := hw
  obtain ⟨hP1, hK1, hD1⟩ := hB
  rw [ht] at hP1
  have hK1 := va_K.moved hvm.symm hK1
  obtain ⟨hP, hD⟩ := nv_join (wf := [(h0, .inr (0, [.ref h2, .ref h3, .ref h1, .ref h4, .ref h5, .ref h6, .ref h7, .int x0, .int x1, .int x2, .int x3, .int x4, .int x5, .int x6, .int x7, .int x8, .int x9])), (h8, .inl (y0, 2501, .inl f0)), (h10, .inl (y1, 2501, .inl f1)), (h1, .inr (6, [.int x15, .int x16, .int x17, .int x18, .int x19])), (h9, .inl (y2, 2501, .inl f2)), (h2, .inr (10, [.ref h8, .ref h9, .ref h10, .ref h11, .ref h12, .ref h13, .int x10, .int x11, .int u2_0, .int x13, .int x14, .long z0]))]) hP hD [1] [0, 2, 3, 4, 5] rfl rfl (by decide) (by decide) hk1 hFc hP1 hD1 rfl
  have hK := (hK.sub (tys' := [(y0, .int), (y1, .int), (y2, .int)]) [0, 1, 2] rfl).app hK1
  generalize H1 = H at hP hS ⊢
  have hK : va_K (dC, dI) vwCl [(y0, .int), (y1, .int), (y2, .int)] s := hK
  refine lv_aload_n hx hb dX0_indexed_7 rfl (lv_at hl 0 rfl) ?_
  refine va_get (D := (dC, dI)) (ci := 0) (v := .ref h2) (C := RX0) (T := TX0) (N := 17) hx hb hG inGX0 hown hK hP 0 rfl rfl 0 (by decide) (hG _ wd_321) (fun _ h9 => h9) rfl dX0_indexed_8 ?_
  obtain ⟨hPc, hDc, hFc⟩ := nv_sub3 (wc := [(h2, .inr (10, [.ref h8, .ref h9, .ref h10, .ref h11, .ref h12, .ref h13, .int x10, .int x11, .int u2_0, .int x13, .int x14, .long z0])), (h8, .inl (y0, 2501, .inl f0)), (h10, .inl (y1, 2501, .inl f1))]) hP hD hS hA [5, 1, 2] (by decide) rfl
  have hKc := hK.sub (tys' := [(y0, .int), (y1, .int)]) [0, 1] rfl
  refine va_calli (va_runV (As := []) (rest := []) ⟨hx, hb, hml, hown, hG⟩ (cX10_isBase_1 l dC dI h2 h8 h9 h10 h11 h12 h13 y0 y1 H.size x10 x11 u2_0 x13 x14 z0 f0 f1 ix10 ix11 iu2_0) (cwV 0 hG (gV wd_634 wd_635 wd_636 wd_11 wd_637) rfl rfl rfl (by decide +kernel) ⟨Nat.le_of_ble_eq_true rfl, Nat.le_of_ble_eq_true rfl⟩) ⟨fun a U g mk q => by obtain ⟨q0, q1, qP, qK, qD⟩ := q; exact ⟨q0, q1, qP, va_K.moved (u := U) (U := U.calling g mk a) (Vm.Alike.refl U.vm) qK, qD⟩, va_recv hKc hPc (ci := 10) (q0 := 0) rfl rfl, fun U hU hW => ⟨rfl, by rw [hU], by rw [hU]; exact hPc, va_K.moved hW.alike hKc, hDc.weaken (fun _ _ _ _ => trivial)⟩⟩ rfl rfl hl.1 rfl (lv_room (Nat.le_of_ble_eq_true rfl)) dX0_indexed_11 ⟨by decide, by decide⟩) hS (fun q _ h => hFc q h) hFc (fun r3 u4 t H1 locs ht hvm hw hB hz1 hk1 hS => ?_)
  have hw : iv r3 0 1 ∧ True := hw
  obtain ⟨ir3, -⟩ := hw
  obtain ⟨hP1, hK1, hD1⟩ := hB
  rw [ht] at hP1
  have hK1 := va_K.moved hvm.symm hK1
  obtain ⟨hP, hD⟩ := nv_join (wf := [(h0, .inr (0, [.ref h2, .ref h3, .ref h1, .ref h4, .ref h5, .ref h6, .ref h7, .int x0, .int x1, .int x2, .int x3, .int x4, .int x5, .int x6, .int x7, .int x8, .int x9])), (h1, .inr (6, [.int x15, .int x16, .int x17, .int x18, .int x19])), (h9, .inl (y2, 2501, .inl f2)), (h2, .inr (10, [.ref h8, .ref h9, .ref h10, .ref h11, .ref h12, .ref h13, .int x10, .int x11, .int u2_0, .int x13, .int x14, .long z0])), (h8, .inl (y0, 2501, .inl f0)), (h10, .inl (y1, 2501, .inl f1))]) hP hD [5, 1, 2] [0, 3, 4] rfl rfl (by decide) (by decide) hk1 hFc hP1 hD1 rfl
  have hK := (hK.sub (tys' := [(y2, .int)]) [2] rfl).app hK1
  generalize H1 = H at hP hS ⊢
  have hK : va_K (dC, dI) vwCl [(y2, .int), (y0, .int), (y1, .int)] s := hK
  refine lv_if_ne (tgt := 30) hx hb dX0_indexed_14 (by decide) (fun c5 => ?_) (fun c5 => ?_)
  · skip
    have j6 : iv r3 1 1 := iv_neLo ir3 (by decide : iv 0 0 0) c5 (by decide)
    refine lv_aload_n hx hb dX0_indexed_30 rfl (lv_at hl 1 rfl) ?_
    refine lv_iconst (v := 1) hx hb dX0_indexed_31 (by decide) ?_
    refine lv_aload_n hx hb dX0_indexed_32 rfl (lv_at hl 0 rfl) ?_
    refine va_get (D := (dC, dI)) (ci := 0) (v := .ref h2) (C := RX0) (T := TX0) (N := 17) hx hb hG inGX0 hown hK hP 0 rfl rfl 0 (by decide) (hG _ wd_321) (fun _ h9 => h9) rfl dX0_indexed_33 ?_
    obtain ⟨hPc, hDc, hFc⟩ := nv_sub3 (wc := [(h2, .inr (10, [.ref h8, .ref h9, .ref h10, .ref h11, .ref h12, .ref h13, .int x10, .int x11, .int u2_0, .int x13, .int x14, .long z0])), (h10, .inl (y1, 2501, .inl f1))]) hP hD hS hA [3, 5] (by decide) rfl
    have hKc := hK.sub (tys' := [(y1, .int)]) [2] rfl
    refine va_calli (va_runV (As := []) (rest := [.int 1, .ref h1]) ⟨hx, hb, hml, hown, hG⟩ (cX10_value_1 l dC dI h2 h8 h9 h10 h11 h12 h13 y1 H.size x10 x11 u2_0 x13 x14 z0 f1 ix10 ix11 iu2_0) (cwV 0 hG (gV wd_584 wd_585 wd_586 wd_11 wd_587) rfl rfl rfl (by decide +kernel) ⟨Nat.le_of_ble_eq_true rfl, Nat.le_of_ble_eq_true rfl⟩) ⟨fun a U g mk q => by obtain ⟨q0, q1, qP, qK, qD⟩ := q; exact ⟨q0, q1, qP, va_K.moved (u := U) (U := U.calling g mk a) (Vm.Alike.refl U.vm) qK, qD⟩, va_recv hKc hPc (ci := 10) (q0 := 0) rfl rfl, fun U hU hW => ⟨rfl, by rw [hU], by rw [hU]; exact hPc, va_K.moved hW.alike hKc, hDc.weaken (fun _ _ _ _ => trivial)⟩⟩ rfl rfl hl.1 rfl (lv_room (Nat.le_of_ble_eq_true rfl)) dX0_indexed_36 ⟨by decide, by decide⟩) hS (fun q _ h => hFc q h) hFc (fun r7 u8 t H1 locs ht hvm hw hB hz1 hk1 hS => ?_)
    obtain ⟨hP1, hK1, hD1⟩ := hB
    rw [ht] at hP1
    have hK1 := va_K.moved hvm.symm hK1
    obtain ⟨hP, hD⟩ := nv_join (wf := [(h0, .inr (0, [.ref h2, .ref h3, .ref h1, .ref h4, .ref h5, .ref h6, .ref h7, .int x0, .int x1, .int x2, .int x3, .int x4, .int x5, .int x6, .int x7, .int x8, .int x9])), (h1, .inr (6, [.int x15, .int x16, .int x17, .int x18, .int x19])), (h9, .inl (y2, 2501, .inl f2)), (h8, .inl (y0, 2501, .inl f0)), (h2, .inr (10, [.ref h8, .ref h9, .ref h10, .ref h11, .ref h12, .ref h13, .int x10, .int x11, .int u2_0, .int x13, .int x14, .long z0])), (h10, .inl (y1, 2501, .inl f1))]) hP hD [3, 5] [0, 1, 2, 4] rfl rfl (by decide) (by decide) hk1 hFc hP1 hD1 rfl
    have hK := (hK.sub (tys' := [(y2, .int), (y0, .int)]) [0, 1] rfl).app hK1
    generalize H1 = H at hP hS ⊢
    have hK : va_K (dC, dI) vwCl [(y2, .int), (y0, .int), (y1, .int)] s := hK
    refine lv_aload_n hx hb dX0_indexed_39 rfl (lv_at hl 0 rfl) ?_
    refine va_get (D := (dC, dI)) (ci := 0) (v := .int x5) (C := RX0) (T := TX0) (N := 17) hx hb hG inGX0 hown hK hP 0 rfl rfl 12 (by decide) (hG _ wd_333) (fun _ h9 => h9) rfl dX0_indexed_40 ?_
    obtain ⟨hPc, hDc, hFc⟩ := nv_sub3 (wc := [(h1, .inr (6, [.int x15, .int x16, .int x17, .int x18, .int x19]))]) hP hD hS hA [1] (by decide) rfl
    have hKc := hK.sub (tys' := []) [] rfl
    refine va_callv (va_runV (As := [.int 1, .int r7, .int x5]) (rest := []) ⟨hx, hb, hml, hown, hG⟩ (cX6_takeWithNext_1 l dC dI h1 H.size 1 r7 x5 x15 x16 x17 x18 x19 ix18 ix19) (cwV 3 hG (gV wd_648 wd_645 wd_646 wd_9 wd_647) rfl rfl rfl (by decide +kernel) ⟨Nat.le_of_ble_eq_true rfl, Nat.le_of_ble_eq_true rfl⟩) ⟨fun a U g mk q => by obtain ⟨q0, q1, qP, qK, qD⟩ := q; exact ⟨q0, q1, qP, va_K.moved (u := U) (U := U.calling g mk a) (Vm.Alike.refl U.vm) qK, qD⟩, va_recv hKc hPc (ci := 6) (q0 := 0) rfl rfl, fun U hU hW => ⟨rfl, by rw [hU], by rw [hU]; exact hPc, va_K.moved hW.alike hKc, hDc.weaken (fun _ _ _ _ => trivial)⟩⟩ rfl rfl hl.1 rfl (lv_room (Nat.le_of_ble_eq_true rfl)) dX0_indexed_43 ⟨by decide, by decide⟩) hS (fun q _ h => hFc q h) hFc (fun u10 t H1 locs ht hvm hw hB hz1 hk1 hS => ?_)
    obtain ⟨hP1, hK1, hD1⟩ := hB
    rw [ht] at hP1
    have hK1 := va_K.moved hvm.symm hK1
    obtain ⟨hP, hD⟩ := nv_join (wf := [(h0, .inr (0, [.ref h2, .ref h3, .ref h1, .ref h4, .ref h5, .ref h6, .ref h7, .int x0, .int x1, .int x2, .int x3, .int x4, .int x5, .int x6, .int x7, .int x8, .int x9])), (h9, .inl (y2, 2501, .inl f2)), (h8, .inl (y0, 2501, .inl f0)), (h2, .inr (10, [.ref h8, .ref h9, .ref h10, .ref h11, .ref h12, .ref h13, .int x10, .int x11, .int u2_0, .int x13, .int x14, .long z0])), (h10, .inl (y1, 2501, .inl f1)), (h1, .inr (6, [.int 1, .int r7, .int x5, .int 1, .int 0]))]) hP hD [1] [0, 2, 3, 4, 5] rfl rfl (by decide) (by decide) hk1 hFc hP1 hD1 rfl
    have hK := (hK.sub (tys' := [(y2, .int), (y0, .int), (y1, .int)]) [0, 1, 2] rfl).app hK1
    generalize H1 = H at hP hS ⊢
    have hK : va_K (dC, dI) vwCl [(y2, .int), (y0, .int), (y1, .int)] s := hK
    refine lv_aload_n hx hb dX0_indexed_46 rfl (lv_at hl 0 rfl) ?_
    refine va_get (D := (dC, dI)) (ci := 0) (v := .ref h2) (C := RX0) (T := TX0) (N := 17) hx hb hG inGX0 hown hK hP 0 rfl rfl 0 (by decide) (hG _ wd_321) (fun _ h9 => h9) rfl dX0_indexed_47 ?_
    obtain ⟨hPc, hDc, hFc⟩ := nv_sub3 (wc := [(h2, .inr (10, [.ref h8, .ref h9, .ref h10, .ref h11, .ref h12, .ref h13, .int x10, .int x11, .int u2_0, .int x13, .int x14, .long z0]))]) hP hD hS hA [3] (by decide) rfl
    have hKc := hK.sub (tys' := []) [] rfl
    refine va_callv (va_runV (As := []) (rest := []) ⟨hx, hb, hml, hown, hG⟩ (cX10_skip_1 l dC dI h2 h8 h9 h10 h11 h12 h13 H.size x10 x11 u2_0 x13 x14 z0 ix10 ix11 iu2_0) (cwV 0 hG (gV wd_576 wd_577 wd_578 wd_11 wd_579) rfl rfl rfl (by decide +kernel) ⟨Nat.le_of_ble_eq_true rfl, Nat.le_of_ble_eq_true rfl⟩) ⟨fun a U g mk q => by obtain ⟨q0, q1, qP, qK, qD⟩ := q; exact ⟨q0, q1, qP, va_K.moved (u := U) (U := U.calling g mk a) (Vm.Alike.refl U.vm) qK, qD⟩, va_recv hKc hPc (ci := 10) (q0 := 0) rfl rfl, fun U hU hW => ⟨rfl, by rw [hU], by rw [hU]; exact hPc, va_K.moved hW.alike hKc, hDc.weaken (fun _ _ _ _ => trivial)⟩⟩ rfl rfl hl.1 rfl (lv_room (Nat.le_of_ble_eq_true rfl)) dX0_indexed_50 ⟨by decide, by decide⟩) hS (fun q _ h => hFc q h) hFc (fun u12 t H1 locs ht hvm hw hB hz1 hk1 hS => ?_)
    obtain ⟨u12_0, rfl⟩ : ∃ z, z = u12 := ⟨_, rfl⟩
    have hw : iv u12_0 0 2500 ∧ True := hw
    obtain ⟨iu12_0, -⟩ := hw
    obtain ⟨hP1, hK1, hD1⟩ := hB
    rw [ht] at hP1
    have hK1 := va_K.moved hvm.symm hK1
    obtain ⟨hP, hD⟩ := nv_join (wf := [(h0, .inr (0, [.ref h2, .ref h3, .ref h1, .ref h4, .ref h5, .ref h6, .ref h7, .int x0, .int x1, .int x2, .int x3, .int x4, .int x5, .int x6, .int x7, .int x8, .int x9])), (h9, .inl (y2, 2501, .inl f2)), (h8, .inl (y0, 2501, .inl f0)), (h10, .inl (y1, 2501, .inl f1)), (h1, .inr (6, [.int 1, .int r7, .int x5, .int 1, .int 0])), (h2, .inr (10, [.ref h8, .ref h9, .ref h10, .ref h11, .ref h12, .ref h13, .int x10, .int x11, .int u12_0, .int x13, .int x14, .long z0]))]) hP hD [3] [0, 1, 2, 4, 5] rfl rfl (by decide) (by decide) hk1 hFc hP1 hD1 rfl
    have hK := (hK.sub (tys' := [(y2, .int), (y0, .int), (y1, .int)]) [0, 1, 2] rfl).app hK1
    generalize H1 = H at hP hS ⊢
    have hK : va_K (dC, dI) vwCl [(y2, .int), (y0, .int), (y1, .int)] s := hK
    refine lv_aload_n hx hb dX0_indexed_53 rfl (lv_at hl 0 rfl) ?_
    refine va_get (D := (dC, dI)) (ci := 0) (v := .ref h2) (C := RX0) (T := TX0) (N := 17) hx hb hG inGX0 hown hK hP 0 rfl rfl 0 (by decide) (hG _ wd_321) (fun _ h9 => h9) rfl dX0_indexed_54 ?_
    obtain ⟨hPc, hDc, hFc⟩ := nv_sub3 (wc := [(h2, .inr (10, [.ref h8, .ref h9, .ref h10, .ref h11, .ref h12, .ref h13, .int x10, .int x11, .int u12_0, .int x13, .int x14, .long z0])), (h8, .inl (y0, 2501, .inl f0))]) hP hD hS hA [5, 2] (by decide) rfl
    have hKc := hK.sub (tys' := [(y0, .int)]) [1] rfl
    refine va_calli (va_runV (As := []) (rest := []) ⟨hx, hb, hml, hown, hG⟩ (cX10_kind_1 l dC dI h2 h8 h9 h10 h11 h12 h13 y0 H.size x10 x11 u12_0 x13 x14 z0 f0 ix10 ix11 iu12_0) (cwV 0 hG (gV wd_556 wd_557 wd_558 wd_11 wd_559) rfl rfl rfl (by decide +kernel) ⟨Nat.le_of_ble_eq_true rfl, Nat.le_of_ble_eq_true rfl⟩) ⟨fun a U g mk q => by obtain ⟨q0, q1, qP, qK, qD⟩ := q; exact ⟨q0, q1, qP, va_K.moved (u := U) (U := U.calling g mk a) (Vm.Alike.refl U.vm) qK, qD⟩, va_recv hKc hPc (ci := 10) (q0 := 0) rfl rfl, fun U hU hW => ⟨rfl, by rw [hU], by rw [hU]; exact hPc, va_K.moved hW.alike hKc, hDc.weaken (fun _ _ _ _ => trivial)⟩⟩ rfl rfl hl.1 rfl (lv_room (Nat.le_of_ble_eq_true rfl)) dX0_indexed_57 ⟨by decide, by decide⟩) hS (fun q _ h => hFc q h) hFc (fun r13 u14 t H1 locs ht hvm hw hB hz1 hk1 hS => ?_)
    obtain ⟨hP1, hK1, hD1⟩ := hB
    rw [ht] at hP1
    have hK1 := va_K.moved hvm.symm hK1
    obtain ⟨hP, hD⟩ := nv_join (wf := [(h0, .inr (0, [.ref h2, .ref h3, .ref h1, .ref h4, .ref h5, .ref h6, .ref h7, .int x0, .int x1, .int x2, .int x3, .int x4, .int x5, .int x6, .int x7, .int x8, .int x9])), (h9, .inl (y2, 2501, .inl f2)), (h10, .inl (y1, 2501, .inl f1)), (h1, .inr (6, [.int 1, .int r7, .int x5, .int 1, .int 0])), (h2, .inr (10, [.ref h8, .ref h9, .ref h10, .ref h11, .ref h12, .ref h13, .int x10, .int x11, .int u12_0, .int x13, .int x14, .long z0])), (h8, .inl (y0, 2501, .inl f0))]) hP hD [5, 2] [0, 1, 3, 4] rfl rfl (by decide) (by decide) hk1 hFc hP1 hD1 rfl
    have hK := (hK.sub (tys' := [(y2, .int), (y1, .int)]) [0, 2] rfl).app hK1
    generalize H1 = H at hP hS ⊢
    have hK : va_K (dC, dI) vwCl [(y2, .int), (y1, .int), (y0, .int)] s := hK
    refine lv_bipush (v := 41) hx hb dX0_indexed_60 (by decide) ?_
    refine lv_icmp_eq (tgt := 78) hx hb dX0_indexed_62 (by decide) (fun c15 => ?_) (fun c15 => ?_)
    · skip
      subst c15
      refine lv_aload_n hx hb dX0_indexed_78 rfl (lv_at hl 0 rfl) ?_
      refine va_get (D := (dC, dI)) (ci := 0) (v := .ref h2) (C := RX0) (T := TX0) (N := 17) hx hb hG inGX0 hown hK hP 0 rfl rfl 0 (by decide) (hG _ wd_321) (fun _ h9 => h9) rfl dX0_indexed_79 ?_
      obtain ⟨hPc, hDc, hFc⟩ := nv_sub3 (wc := [(h2, .inr (10, [.ref h8, .ref h9, .ref h10, .ref h11, .ref h12, .ref h13, .int x10, .int x11, .int u12_0, .int x13, .int x14, .long z0]))]) hP hD hS hA [4] (by decide) rfl
      have hKc := hK.sub (tys' := []) [] rfl
      refine va_callv (va_runV (As := []) (rest := []) ⟨hx, hb, hml, hown, hG⟩ (cX10_skip_1 l dC dI h2 h8 h9 h10 h11 h12 h13 H.size x10 x11 u12_0 x13 x14 z0 ix10 ix11 iu12_0) (cwV 0 hG (gV wd_576 wd_577 wd_578 wd_11 wd_579) rfl rfl rfl (by decide +kernel) ⟨Nat.le_of_ble_eq_true rfl, Nat.le_of_ble_eq_true rfl⟩) ⟨fun a U g mk q => by obtain ⟨q0, q1, qP, qK, qD⟩ := q; exact ⟨q0, q1, qP, va_K.moved (u := U) (U := U.calling g mk a) (Vm.Alike.refl U.vm) qK, qD⟩, va_recv hKc hPc (ci := 10) (q0 := 0) rfl rfl, fun U hU hW => ⟨rfl, by rw [hU], by rw [hU]; exact hPc, va_K.moved hW.alike hKc, hDc.weaken (fun _ _ _ _ => trivial)⟩⟩ rfl rfl hl.1 rfl (lv_room (Nat.le_of_ble_eq_true rfl)) dX0_indexed_82 ⟨by decide, by decide⟩) hS (fun q _ h => hFc q h) hFc (fun u17 t H1 locs ht hvm hw hB hz1 hk1 hS => ?_)
      obtain ⟨u17_0, rfl⟩ : ∃ z, z = u17 := ⟨_, rfl⟩
      have hw : iv u17_0 0 2500 ∧ True := hw
      obtain ⟨iu17_0, -⟩ := hw
      obtain ⟨hP1, hK1, hD1⟩ := hB
      rw [ht] at hP1
      have hK1 := va_K.moved hvm.symm hK1
      obtain ⟨hP, hD⟩ := nv_join (wf := [(h0, .inr (0, [.ref h2, .ref h3, .ref h1, .ref h4, .ref h5, .ref h6, .ref h7, .int x0, .int x1, .int x2, .int x3, .int x4, .int x5, .int x6, .int x7, .int x8, .int x9])), (h9, .inl (y2, 2501, .inl f2)), (h10, .inl (y1, 2501, .inl f1)), (h1, .inr (6, [.int 1, .int r7, .int x5, .int 1, .int 0])), (h8, .inl (y0, 2501, .inl f0)), (h2, .inr (10, [.ref h8, .ref h9, .ref h10, .ref h11, .ref h12, .ref h13, .int x10, .int x11, .int u17_0, .int x13, .int x14, .long z0]))]) hP hD [4] [0, 1, 2, 3, 5] rfl rfl (by decide) (by decide) hk1 hFc hP1 hD1 rfl
      have hK := (hK.sub (tys' := [(y2, .int), (y1, .int), (y0, .int)]) [0, 1, 2] rfl).app hK1
      generalize H1 = H at hP hS ⊢
      have hK : va_K (dC, dI) vwCl [(y2, .int), (y1, .int), (y0, .int)] s := hK
      refine lv_iconst (v := 1) hx hb dX0_indexed_85 (by decide) ?_
      rw [hQ]
      obtain ⟨hP9, hD9⟩ := nv_sub2 (wc := [(h0, .inr (0, [.ref h2, .ref h3, .ref h1, .ref h4, .ref h5, .ref h6, .ref h7, .int x0, .int x1, .int x2, .int x3, .int x4, .int x5, .int x6, .int x7, .int x8, .int x9])), (h2, .inr (10, [.ref h8, .ref h9, .ref h10, .ref h11, .ref h12, .ref h13, .int x10, .int x11, .int u17_0, .int x13, .int x14, .long z0])), (h8, .inl (y0, 2501, .inl f0)), (h10, .inl (y1, 2501, .inl f1)), (h1, .inr (6, [.int 1, .int r7, .int x5, .int 1, .int 0])), (h9, .inl (y2, 2501, .inl f2))]) hP hD [0, 5, 4, 2, 3, 1] (by decide) rfl
      have hK9 := hK.sub (tys' := [(y0, .int), (y1, .int), (y2, .int)]) [2, 1, 0] rfl
      exact W.zret (v := 1) hx hb hr rfl (fun t ht hW => ⟨⟨1, (x8, x9, u17_0, 1, r7, x5, 1, 0), rfl, ⟨iv_w (by decide : iv 1 1 1) (by decide) (by decide), iv_w iu17_0 (by decide) (by decide), iv_w (by decide : iv 1 1 1) (by decide) (by decide), iv_w (by decide : iv 0 0 0) (by decide) (by decide), trivial⟩, by rw [ht]; exact hP9, va_K.moved hW.alike hK9, hD9⟩, hS.F ht⟩) hS.2.2 dX0_indexed_86
    · skip
      refine lv_aload_n hx hb dX0_indexed_65 rfl (lv_at hl 0 rfl) ?_
      refine lv_iconst (v := 1) hx hb dX0_indexed_66 (by decide) ?_
      refine lv_aload_n hx hb dX0_indexed_67 rfl (lv_at hl 0 rfl) ?_
      refine va_get (D := (dC, dI)) (ci := 0) (v := .ref h2) (C := RX0) (T := TX0) (N := 17) hx hb hG inGX0 hown hK hP 0 rfl rfl 0 (by decide) (hG _ wd_321) (fun _ h9 => h9) rfl dX0_indexed_68 ?_
      obtain ⟨hPc, hDc, hFc⟩ := nv_sub3 (wc := [(h2, .inr (10, [.ref h8, .ref h9, .ref h10, .ref h11, .ref h12, .ref h13, .int x10, .int x11, .int u12_0, .int x13, .int x14, .long z0])), (h9, .inl (y2, 2501, .inl f2))]) hP hD hS hA [4, 1] (by decide) rfl
      have hKc := hK.sub (tys' := [(y2, .int)]) [0] rfl
      refine va_calli (va_runV (As := []) (rest := [.int 1, .ref h0]) ⟨hx, hb, hml, hown, hG⟩ (cX10_place_1 l dC dI h2 h8 h9 h10 h11 h12 h13 y2 H.size x10 x11 u12_0 x13 x14 z0 f2 ix10 ix11 iu12_0) (cwV 0 hG (gV wd_572 wd_573 wd_574 wd_11 wd_575) rfl rfl rfl (by decide +kernel) ⟨Nat.le_of_ble_eq_true rfl, Nat.le_of_ble_eq_true rfl⟩) ⟨fun a U g mk q => by obtain ⟨q0, q1, qP, qK, qD⟩ := q; exact ⟨q0, q1, qP, va_K.moved (u := U) (U := U.calling g mk a) (Vm.Alike.refl U.vm) qK, qD⟩, va_recv hKc hPc (ci := 10) (q0 := 0) rfl rfl, fun U hU hW => ⟨rfl, by rw [hU], by rw [hU]; exact hPc, va_K.moved hW.alike hKc, hDc.weaken (fun _ _ _ _ => trivial)⟩⟩ rfl rfl hl.1 rfl (lv_room (Nat.le_of_ble_eq_true rfl)) dX0_indexed_71 ⟨by decide, by decide⟩) hS (fun q _ h => hFc q h) hFc (fun r18 u19 t H1 locs ht hvm hw hB hz1 hk1 hS => ?_)
      obtain ⟨hP1, hK1, hD1⟩ := hB
      rw [ht] at hP1
      have hK1 := va_K.moved hvm.symm hK1
      obtain ⟨hP, hD⟩ := nv_join (wf := [(h0, .inr (0, [.ref h2, .ref h3, .ref h1, .ref h4, .ref h5, .ref h6, .ref h7, .int x0, .int x1, .int x2, .int x3, .int x4, .int x5, .int x6, .int x7, .int x8, .int x9])), (h10, .inl (y1, 2501, .inl f1)), (h1, .inr (6, [.int 1, .int r7, .int x5, .int 1, .int 0])), (h8, .inl (y0, 2501, .inl f0)), (h2, .inr (10, [.ref h8, .ref h9, .ref h10, .ref h11, .ref h12, .ref h13, .int x10, .int x11, .int u12_0, .int x13, .int x14, .long z0])), (h9, .inl (y2, 2501, .inl f2))]) hP hD [4, 1] [0, 2, 3, 5] rfl rfl (by decide) (by decide) hk1 hFc hP1 hD1 rfl
      have hK := (hK.sub (tys' := [(y1, .int), (y0, .int)]) [1, 2] rfl).app hK1
      generalize H1 = H at hP hS ⊢
      have hK : va_K (dC, dI) vwCl [(y1, .int), (y0, .int), (y2, .int)] s := hK
      obtain ⟨hPc, hDc, hFc⟩ := nv_sub3 (wc := [(h0, .inr (0, [.ref h2, .ref h3, .ref h1, .ref h4, .ref h5, .ref h6, .ref h7, .int x0, .int x1, .int x2, .int x3, .int x4, .int x5, .int x6, .int x7, .int x8, .int x9]))]) hP hD hS hA [0] (by decide) rfl
      have hKc := hK.sub (tys' := []) [] rfl
      refine va_calli (va_runV (As := [.int 1, .int r18]) (rest := []) ⟨hx, hb, hml, hown, hG⟩ (cX0_fail_1 l dC dI h0 h2 h3 h1 h4 h5 h6 h7 H.size 1 r18 x0 x1 x2 x3 x4 x5 x6 x7 x8 x9 ix0 ix1 ix7) (cwV 2 hG (gV wd_437 wd_439 wp_1 wd_8 wd_440) rfl rfl rfl (by decide +kernel) ⟨Nat.le_of_ble_eq_true rfl, Nat.le_of_ble_eq_true rfl⟩) ⟨fun a U g mk q => by obtain ⟨q0, q1, qP, qK, qD⟩ := q; exact ⟨q0, q1, qP, va_K.moved (u := U) (U := U.calling g mk a) (Vm.Alike.refl U.vm) qK, qD⟩, va_recv hKc hPc (ci := 0) (q0 := 0) rfl rfl, fun U hU hW => ⟨rfl, by rw [hU], by rw [hU]; exact hPc, va_K.moved hW.alike hKc, hDc.weaken (fun _ _ _ _ => trivial)⟩⟩ rfl rfl hl.1 rfl (lv_room (Nat.le_of_ble_eq_true rfl)) dX0_indexed_74 ⟨by decide, by decide⟩) hS (fun q _ h => hFc q h) hFc (fun r20 u21 t H1 locs ht hvm hw hB hz1 hk1 hS => ?_)
      have hw : r20 = 0 ∧ True := hw
      obtain ⟨er20, -⟩ := hw
      obtain ⟨hP1, hK1, hD1⟩ := hB
      rw [ht] at hP1
      have hK1 := va_K.moved hvm.symm hK1
      obtain ⟨hP, hD⟩ := nv_join (wf := [(h10, .inl (y1, 2501, .inl f1)), (h1, .inr (6, [.int 1, .int r7, .int x5, .int 1, .int 0])), (h8, .inl (y0, 2501, .inl f0)), (h2, .inr (10, [.ref h8, .ref h9, .ref h10, .ref h11, .ref h12, .ref h13, .int x10, .int x11, .int u12_0, .int x13, .int x14, .long z0])), (h9, .inl (y2, 2501, .inl f2)), (h0, .inr (0, [.ref h2, .ref h3, .ref h1, .ref h4, .ref h5, .ref h6, .ref h7, .int x0, .int x1, .int x2, .int x3, .int x4, .int x5, .int x6, .int x7, .int 1, .int r18]))]) hP hD [0] [1, 2, 3, 4, 5] rfl rfl (by decide) (by decide) hk1 hFc hP1 hD1 rfl
      have hK := (hK.sub (tys' := [(y1, .int), (y0, .int), (y2, .int)]) [0, 1, 2] rfl).app hK1
      generalize H1 = H at hP hS ⊢
      have hK : va_K (dC, dI) vwCl [(y1, .int), (y0, .int), (y2, .int)] s := hK
      subst er20
      rw [hQ]
      obtain ⟨hP9, hD9⟩ := nv_sub2 (wc := [(h0, .inr (0, [.ref h2, .ref h3, .ref h1, .ref h4, .ref h5, .ref h6, .ref h7, .int x0, .int x1, .int x2, .int x3, .int x4, .int x5, .int x6, .int x7, .int 1, .int r18])), (h2, .inr (10, [.ref h8, .ref h9, .ref h10, .ref h11, .ref h12, .ref h13, .int x10, .int x11, .int u12_0, .int x13, .int x14, .long z0])), (h8, .inl (y0, 2501, .inl f0)), (h10, .inl (y1, 2501, .inl f1)), (h1, .inr (6, [.int 1, .int r7, .int x5, .int 1, .int 0])), (h9, .inl (y2, 2501, .inl f2))]) hP hD [5, 3, 2, 0, 1, 4] (by decide) rfl
      have hK9 := hK.sub (tys' := [(y0, .int), (y1, .int), (y2, .int)]) [1, 0, 2] rfl
      exact W.zret (v := 0) hx hb hr rfl (fun t ht hW => ⟨⟨0, (1, r18, u12_0, 1, r7, x5, 1, 0), rfl, ⟨iv_w (by decide : iv 0 0 0) (by decide) (by decide), iv_w iu12_0 (by decide) (by decide), iv_w (by decide : iv 1 1 1) (by decide) (by decide), iv_w (by decide : iv 0 0 0) (by decide) (by decide), trivial⟩, by rw [ht]; exact hP9, va_K.moved hW.alike hK9, hD9⟩, hS.F ht⟩) hS.2.2 dX0_indexed_77
  · skip
    subst c5
    refine lv_aload_n hx hb dX0_indexed_17 rfl (lv_at hl 0 rfl) ?_
    refine lv_iconst (v := 1) hx hb dX0_indexed_18 (by decide) ?_
    refine lv_aload_n hx hb dX0_indexed_19 rfl (lv_at hl 0 rfl) ?_
    refine va_get (D := (dC, dI)) (ci := 0) (v := .ref h2) (C := RX0) (T := TX0) (N := 17) hx hb hG inGX0 hown hK hP 0 rfl rfl 0 (by decide) (hG _ wd_321) (fun _ h9 => h9) rfl dX0_indexed_20 ?_
    obtain ⟨hPc, hDc, hFc⟩ := nv_sub3 (wc := [(h2, .inr (10, [.ref h8, .ref h9, .ref h10, .ref h11, .ref h12, .ref h13, .int x10, .int x11, .int u2_0, .int x13, .int x14, .long z0])), (h9, .inl (y2, 2501, .inl f2))]) hP hD hS hA [3, 2] (by decide) rfl
    have hKc := hK.sub (tys' := [(y2, .int)]) [0] rfl
    refine va_calli (va_runV (As := []) (rest := [.int 1, .ref h0]) ⟨hx, hb, hml, hown, hG⟩ (cX10_place_1 l dC dI h2 h8 h9 h10 h11 h12 h13 y2 H.size x10 x11 u2_0 x13 x14 z0 f2 ix10 ix11 iu2_0) (cwV 0 hG (gV wd_572 wd_573 wd_574 wd_11 wd_575) rfl rfl rfl (by decide +kernel) ⟨Nat.le_of_ble_eq_true rfl, Nat.le_of_ble_eq_true rfl⟩) ⟨fun a U g mk q => by obtain ⟨q0, q1, qP, qK, qD⟩ := q; exact ⟨q0, q1, qP, va_K.moved (u := U) (U := U.calling g mk a) (Vm.Alike.refl U.vm) qK, qD⟩, va_recv hKc hPc (ci := 10) (q0 := 0) rfl rfl, fun U hU hW => ⟨rfl, by rw [hU], by rw [hU]; exact hPc, va_K.moved hW.alike hKc, hDc.weaken (fun _ _ _ _ => trivial)⟩⟩ rfl rfl hl.1 rfl (lv_room (Nat.le_of_ble_eq_true rfl)) dX0_indexed_23 ⟨by decide, by decide⟩) hS (fun q _ h => hFc q h) hFc (fun r22 u23 t H1 locs ht hvm hw hB hz1 hk1 hS => ?_)
    obtain ⟨hP1, hK1, hD1⟩ := hB
    rw [ht] at hP1
    have hK1 := va_K.moved hvm.symm hK1
    obtain ⟨hP, hD⟩ := nv_join (wf := [(h0, .inr (0, [.ref h2, .ref h3, .ref h1, .ref h4, .ref h5, .ref h6, .ref h7, .int x0, .int x1, .int x2, .int x3, .int x4, .int x5, .int x6, .int x7, .int x8, .int x9])), (h1, .inr (6, [.int x15, .int x16, .int x17, .int x18, .int x19])), (h8, .inl (y0, 2501, .inl f0)), (h10, .inl (y1, 2501, .inl f1)), (h2, .inr (10, [.ref h8, .ref h9, .ref h10, .ref h11, .ref h12, .ref h13, .int x10, .int x11, .int u2_0, .int x13, .int x14, .long z0])), (h9, .inl (y2, 2501, .inl f2))]) hP hD [3, 2] [0, 1, 4, 5] rfl rfl (by decide) (by decide) hk1 hFc hP1 hD1 rfl
    have hK := (hK.sub (tys' := [(y0, .int), (y1, .int)]) [1, 2] rfl).app hK1
    generalize H1 = H at hP hS ⊢
    have hK : va_K (dC, dI) vwCl [(y0, .int), (y1, .int), (y2, .int)] s := hK
    obtain ⟨hPc, hDc, hFc⟩ := nv_sub3 (wc := [(h0, .inr (0, [.ref h2, .ref h3, .ref h1, .ref h4, .ref h5, .ref h6, .ref h7, .int x0, .int x1, .int x2, .int x3, .int x4, .int x5, .int x6, .int x7, .int x8, .int x9]))]) hP hD hS hA [0] (by decide) rfl
    have hKc := hK.sub (tys' := []) [] rfl
    refine va_calli (va_runV (As := [.int 1, .int r22]) (rest := []) ⟨hx, hb, hml, hown, hG⟩ (cX0_fail_1 l dC dI h0 h2 h3 h1 h4 h5 h6 h7 H.size 1 r22 x0 x1 x2 x3 x4 x5 x6 x7 x8 x9 ix0 ix1 ix7) (cwV 2 hG (gV wd_437 wd_439 wp_1 wd_8 wd_440) rfl rfl rfl (by decide +kernel) ⟨Nat.le_of_ble_eq_true rfl, Nat.le_of_ble_eq_true rfl⟩) ⟨fun a U g mk q => by obtain ⟨q0, q1, qP, qK, qD⟩ := q; exact ⟨q0, q1, qP, va_K.moved (u := U) (U := U.calling g mk a) (Vm.Alike.refl U.vm) qK, qD⟩, va_recv hKc hPc (ci := 0) (q0 := 0) rfl rfl, fun U hU hW => ⟨rfl, by rw [hU], by rw [hU]; exact hPc, va_K.moved hW.alike hKc, hDc.weaken (fun _ _ _ _ => trivial)⟩⟩ rfl rfl hl.1 rfl (lv_room (Nat.le_of_ble_eq_true rfl)) dX0_indexed_26 ⟨by decide, by decide⟩) hS (fun q _ h => hFc q h) hFc (fun r24 u25 t H1 locs ht hvm hw hB hz1 hk1 hS => ?_)
    have hw : r24 = 0 ∧ True := hw
    obtain ⟨er24, -⟩ := hw
    obtain ⟨hP1, hK1, hD1⟩ := hB
    rw [ht] at hP1
    have hK1 := va_K.moved hvm.symm hK1
    obtain ⟨hP, hD⟩ := nv_join (wf := [(h1, .inr (6, [.int x15, .int x16, .int x17, .int x18, .int x19])), (h8, .inl (y0, 2501, .inl f0)), (h10, .inl (y1, 2501, .inl f1)), (h2, .inr (10, [.ref h8, .ref h9, .ref h10, .ref h11, .ref h12, .ref h13, .int x10, .int x11, .int u2_0, .int x13, .int x14, .long z0])), (h9, .inl (y2, 2501, .inl f2)), (h0, .inr (0, [.ref h2, .ref h3, .ref h1, .ref h4, .ref h5, .ref h6, .ref h7, .int x0, .int x1, .int x2, .int x3, .int x4, .int x5, .int x6, .int x7, .int 1, .int r22]))]) hP hD [0] [1, 2, 3, 4, 5] rfl rfl (by decide) (by decide) hk1 hFc hP1 hD1 rfl
    have hK := (hK.sub (tys' := [(y0, .int), (y1, .int), (y2, .int)]) [0, 1, 2] rfl).app hK1
    generalize H1 = H at hP hS ⊢
    have hK : va_K (dC, dI) vwCl [(y0, .int), (y1, .int), (y2, .int)] s := hK
    subst er24
    rw [hQ]
    obtain ⟨hP9, hD9⟩ := nv_sub2 (wc := [(h0, .inr (0, [.ref h2, .ref h3, .ref h1, .ref h4, .ref h5, .ref h6, .ref h7, .int x0, .int x1, .int x2, .int x3, .int x4, .int x5, .int x6, .int x7, .int 1, .int r22])), (h2, .inr (10, [.ref h8, .ref h9, .ref h10, .ref h11, .ref h12, .ref h13, .int x10, .int x11, .int u2_0, .int x13, .int x14, .long z0])), (h8, .inl (y0, 2501, .inl f0)), (h10, .inl (y1, 2501, .inl f1)), (h1, .inr (6, [.int x15, .int x16, .int x17, .int x18, .int x19])), (h9, .inl (y2, 2501, .inl f2))]) hP hD [5, 3, 1, 2, 0, 4] (by decide) rfl
    have hK9 := hK.sub (tys' := [(y0, .int), (y1, .int), (y2, .int)]) [0, 1, 2] rfl
    exact W.zret (v := 0) hx hb hr rfl (fun t ht hW => ⟨⟨0, (1, r22, u2_0, x15, x16, x17, x18, x19), rfl, ⟨iv_w (by decide : iv 0 0 0) (by decide) (by decide), iv_w iu2_0 (by decide) (by decide), iv_w ix18 (by decide) (by decide), iv_w ix19 (by decide) (by decide), trivial⟩, by rw [ht]; exact hP9, va_K.moved hW.alike hK9, hD9⟩, hS.F ht⟩) hS.2.2 dX0_indexed_29
