set_option maxHeartbeats 100000000 in
set_option maxRecDepth 100000 in
theorem cX10_scanOne_1 (l : Launch) (dC : Nat → ClassId) (dI : Nat → Nat → Nat) (adK adV : Nat → Nat) (h0 h1 h2 h3 h4 h5 h6 : Nat) (y0 y1 : ClassId) (sz : Nat) (x0 x1 x2 x3 x4 x5 x6 : Int32) (z0 : Int64) (f0 : Nat → Int32) (g0 : Nat → Int64) (ix1 : iv x1 0 1) (ix2 : iv x2 0 2600) (ix3 : iv x3 0 2501) (ix4 : iv x4 0 2500) : Met l yX10_scanOne (Cond.code yX10_scanOne cX10_scanOne 4 (some .int) :: lw_G) ({ frames := 4, cells := 0, slots := 0, locals := 91 }) (va_Pc [.ref h0, .int x0, .int x1] (fun U => U.heap.size = sz ∧ va_P (dC, dI) vwCl [(h0, .inr (10, [.ref h1, .ref h2, .ref h3, .ref h4, .ref h5, .ref h6, .int x2, .int x3, .int x4, .int x5, .int x6, .long z0])), (h6, .inl (y0, 2600, .inl f0)), (h5, .inl (y1, 35, .inr (.inl g0)))] U.heap ∧ va_K (dC, dI) vwCl [(y0, .int), (y1, .long)] U ∧ va_D (fun _ => True) [(h0, .inr (10, [.ref h1, .ref h2, .ref h3, .ref h4, .ref h5, .ref h6, .int x2, .int x3, .int x4, .int x5, .int x6, .long z0])), (h6, .inl (y0, 2600, .inl f0)), (h5, .inl (y1, 35, .inr (.inl g0)))] ∧ ev adK adV (va_A [(h0, .inr (10, [.ref h1, .ref h2, .ref h3, .ref h4, .ref h5, .ref h6, .int x2, .int x3, .int x4, .int x5, .int x6, .long z0])), (h6, .inl (y0, 2600, .inl f0)), (h5, .inl (y1, 35, .inr (.inl g0)))] sz) U U.heap)) (va_Qi (fun (r : Int32) (u : Int32 × Int32 × Int64) => True) (fun (u : Int32 × Int32 × Int64) (t : State) => va_P (dC, dI) vwCl [(h0, .inr (10, [.ref h1, .ref h2, .ref h3, .ref h4, .ref h5, .ref h6, .int x2, .int x3, .int x4, .int u.1, .int u.2.1, .long u.2.2])), (h6, .inl (y0, 2600, .inl f0)), (h5, .inl (y1, 35, .inr (.inl g0)))] t.heap ∧ va_K (dC, dI) vwCl [(y0, .int), (y1, .long)] t ∧ va_D (va_A [(h0, .inr (10, [.ref h1, .ref h2, .ref h3, .ref h4, .ref h5, .ref h6, .int x2, .int x3, .int x4, .int x5, .int x6, .long z0])), (h6, .inl (y0, 2600, .inl f0)), (h5, .inl (y1, 35, .inr (.inl g0)))] sz) [(h0, .inr (10, [.ref h1, .ref h2, .ref h3, .ref h4, .ref h5, .ref h6, .int x2, .int x3, .int x4, .int u.1, .int u.2.1, .long u.2.2])), (h6, .inl (y0, 2600, .inl f0)), (h5, .inl (y1, 35, .inr (.inl g0)))]) (va_A [(h0, .inr (10, [.ref h1, .ref h2, .ref h3, .ref h4, .ref h5, .ref h6, .int x2, .int x3, .int x4, .int x5, .int x6, .long z0])), (h6, .inl (y0, 2600, .inl f0)), (h5, .inl (y1, 35, .inr (.inl g0)))] sz)) 0 0 (va_A [(h0, .inr (10, [.ref h1, .ref h2, .ref h3, .ref h4, .ref h5, .ref h6, .int x2, .int x3, .int x4, .int x5, .int x6, .long z0])), (h6, .inl (y0, 2600, .inl f0)), (h5, .inl (y1, 35, .inr (.inl g0)))] sz) := by
  refine Met.ofW (cc := cX10_scanOne) (maxL := 4) (ret := (some .int)) (by decide) rfl ?_
  intro p e s m args below meth c s₁ B hml hv
  obtain ⟨rfl, hsz, hP, hK, hD0, hE⟩ := hv
  have hx := B.exec
  have hb := B.bytes
  have hr := B.returns
  have hts0 := atoms_spec (ws := Cond.code yX10_scanOne cX10_scanOne 4 (some .int) :: lw_G) B.pre
  have hG : ∀ w ∈ lw_G, w.before _ s = true := fun w h => hts0 w (List.mem_cons_of_mem _ h)
  have hown : s.vm.findClass RX10 = some m.cls := findClass_of_methodNamed B.named
  have hlocks := B.notSynchronized
  subst hsz
  have hD := hD0.self (sz := s.heap.size)
  generalize hAe : va_A [(h0, .inr (10, [.ref h1, .ref h2, .ref h3, .ref h4, .ref h5, .ref h6, .int x2, .int x3, .int x4, .int x5, .int x6, .long z0])), (h6, .inl (y0, 2600, .inl f0)), (h5, .inl (y1, 35, .inr (.inl g0)))] s.heap.size = A at hD hE ⊢
  have hA : ∀ q : Nat, s.heap.size ≤ q → A q := fun q h => by rw [← hAe]; exact Or.inr h
  have hS : va_S A s.heap s.heap [] := va_S.rf
  have hP : va_P (dC, dI) vwCl [(h0, .inr (10, [.ref h1, .ref h2, .ref h3, .ref h4, .ref h5, .ref h6, .int x2, .int x3, .int x4, .int x5, .int x6, .long z0])), (h6, .inl (y0, 2600, .inl f0)), (h5, .inl (y1, 35, .inr (.inl g0)))] s.heap := hP
  have hl := lv_entry ([.ref h0, .int x0, .int x1]) (n := 4) (Nat.le_of_ble_eq_true rfl)
  rw [lg_entry_eq]
  generalize (lg_sl ([.ref h0, .int x0, .int x1]) ++ List.replicate (4 - (lg_sl ([.ref h0, .int x0, .int x1])).length) Slot.unset).toArray = ls at hl ⊢
  have hl : lv_has ls 4 [(0, .ref h0), (1, .int x0), (2, .int x1)] := hl
  generalize ([.ref h0, .int x0, .int x1] : List Value).toArray = ar at hG ⊢
  refine wq (fun Q hQ => ?_)
  refine lv_aload_n hx hb dX10_scanOne_0 rfl (lv_at hl 0 rfl) ?_
  refine lv_iload_n hx hb dX10_scanOne_1 rfl (lv_at hl 1 rfl) ?_
  obtain ⟨hPc, hDc, hFc⟩ := nv_sub3 (wc := [(h0, .inr (10, [.ref h1, .ref h2, .ref h3, .ref h4, .ref h5, .ref h6, .int x2, .int x3, .int x4, .int x5, .int x6, .long z0])), (h6, .inl (y0, 2600, .inl f0))]) hP hD hS hA [0, 1] (by decide) rfl
  have hKc := hK.sub (tys' := [(y0, .int)]) [0] rfl
  refine va_calli (va_runV (As := [.int x0]) (rest := []) ⟨hx, hb, hml, hown, hG⟩ (cX10_sign_1 l dC dI h0 h1 h2 h3 h4 h5 h6 y0 s.heap.size x0 x2 x3 x4 x5 x6 z0 f0 ix2 ix3 ix4) (cwV 1 hG (gV wd_449 wd_451 wp_3 wd_11 wd_452) rfl rfl rfl (by decide +kernel) ⟨Nat.le_of_ble_eq_true rfl, Nat.le_of_ble_eq_true rfl⟩) ⟨fun a U g mk q => by obtain ⟨q0, q1, qP, qK, qD⟩ := q; exact ⟨q0, q1, qP, va_K.moved (u := U) (U := U.calling g mk a) (Vm.Alike.refl U.vm) qK, qD⟩, va_recv hKc hPc (ci := 10) (q0 := 0) rfl rfl, fun U hU hW => ⟨rfl, by rw [hU], by rw [hU]; exact hPc, va_K.moved hW.alike hKc, hDc.weaken (fun _ _ _ _ => trivial)⟩⟩ rfl rfl hl.1 rfl (lv_room (Nat.le_of_ble_eq_true rfl)) dX10_scanOne_2 ⟨by decide, by decide⟩) hS (fun q _ h => hFc q h) hFc (fun r1 u2 t H1 locs ht hvm hw hB hz1 hk1 hS => ?_)
  obtain ⟨hP1, hK1, hD1⟩ := hB
  rw [ht] at hP1
  have hK1 := va_K.moved hvm.symm hK1
  obtain ⟨hP, hD⟩ := nv_join (wf := [(h5, .inl (y1, 35, .inr (.inl g0))), (h0, .inr (10, [.ref h1, .ref h2, .ref h3, .ref h4, .ref h5, .ref h6, .int x2, .int x3, .int x4, .int x5, .int x6, .long z0])), (h6, .inl (y0, 2600, .inl f0))]) hP hD [0, 1] [2] rfl rfl (by decide) (by decide) hk1 hFc hP1 hD1 rfl
  have hK := (hK.sub (tys' := [(y1, .long)]) [1] rfl).app hK1
  generalize H1 = H at hP hS ⊢
  have hK : va_K (dC, dI) vwCl [(y1, .long), (y0, .int)] s := hK
  refine lv_istore_n (lv' := [(3, .int r1), (0, .ref h0), (1, .int x0), (2, .int x1)]) hx hb dX10_scanOne_5 rfl hl (by decide) rfl (fun ls hl => ?_)
  refine lv_aload_n hx hb dX10_scanOne_6 rfl (lv_at hl 1 rfl) ?_
  refine lv_iconst (v := 0) hx hb dX10_scanOne_7 (by decide) ?_
  refine va_put (D := (dC, dI)) (ci := 10) (v := .int 0) (ty := .int) (C := RX10) (T := TX10) (N := 12) hx hb hG inGX10 tyX10 tyX10_ok nmX10 hown hK hP hD hS 1 rfl rfl 10 (by decide) (hG _ wd_293) (fun _ h9 => h9) rfl (by decide +kernel) rfl rfl (Nat.le_of_ble_eq_true rfl) dX10_scanOne_8 (fun H locs hP hD hS => ?_)
  obtain ⟨hP, hD⟩ := nv_eq (ws' := [(h5, .inl (y1, 35, .inr (.inl g0))), (h0, .inr (10, [.ref h1, .ref h2, .ref h3, .ref h4, .ref h5, .ref h6, .int x2, .int x3, .int x4, .int x5, .int 0, .long z0])), (h6, .inl (y0, 2600, .inl f0))]) hP hD rfl
  refine lv_aload_n hx hb dX10_scanOne_11 rfl (lv_at hl 1 rfl) ?_
  refine lv_lconst (v := 0) hx hb dX10_scanOne_12 (by decide) ?_
  refine va_put (D := (dC, dI)) (ci := 10) (v := .long 0) (ty := .long) (C := RX10) (T := TX10) (N := 12) hx hb hG inGX10 tyX10 tyX10_ok nmX10 hown hK hP hD hS 1 rfl rfl 11 (by decide) (hG _ wd_294) (fun _ h9 => h9) rfl (by decide +kernel) rfl rfl (Nat.le_of_ble_eq_true rfl) dX10_scanOne_13 (fun H locs hP hD hS => ?_)
  obtain ⟨hP, hD⟩ := nv_eq (ws' := [(h5, .inl (y1, 35, .inr (.inl g0))), (h0, .inr (10, [.ref h1, .ref h2, .ref h3, .ref h4, .ref h5, .ref h6, .int x2, .int x3, .int x4, .int x5, .int 0, .long 0])), (h6, .inl (y0, 2600, .inl f0))]) hP hD rfl
  refine lv_iload_n hx hb dX10_scanOne_16 rfl (lv_at hl 0 rfl) ?_
  refine lv_iconst (v := (-1)) hx hb dX10_scanOne_17 (by decide) ?_
  refine lv_icmp_eq (tgt := 27) hx hb dX10_scanOne_18 (by decide) (fun c3 => ?_) (fun c3 => ?_)
  · skip
    subst c3
    refine lv_aload_n hx hb dX10_scanOne_27 rfl (lv_at hl 1 rfl) ?_
    refine lv_iconst (v := 0) hx hb dX10_scanOne_28 (by decide) ?_
    refine va_put (D := (dC, dI)) (ci := 10) (v := .int 0) (ty := .int) (C := RX10) (T := TX10) (N := 12) hx hb hG inGX10 tyX10 tyX10_ok nmX10 hown hK hP hD hS 1 rfl rfl 9 (by decide) (hG _ wd_292) (fun _ h9 => h9) rfl (by decide +kernel) rfl rfl (Nat.le_of_ble_eq_true rfl) dX10_scanOne_29 (fun H locs hP hD hS => ?_)
    obtain ⟨hP, hD⟩ := nv_eq (ws' := [(h5, .inl (y1, 35, .inr (.inl g0))), (h0, .inr (10, [.ref h1, .ref h2, .ref h3, .ref h4, .ref h5, .ref h6, .int x2, .int x3, .int x4, .int 0, .int 0, .long 0])), (h6, .inl (y0, 2600, .inl f0))]) hP hD rfl
    refine lv_goto (tgt := 122) hx hb dX10_scanOne_32 (by decide) ?_
    refine lv_iload_n hx hb dX10_scanOne_122 rfl (lv_at hl 2 rfl) ?_
    refine lv_iconst (v := 1) hx hb dX10_scanOne_123 (by decide) ?_
    refine lv_iadd hx hb dX10_scanOne_124 ?_
    refine lv_topi (fun v4 ev4 => ?_)
    rw [hQ]
    obtain ⟨hP9, hD9⟩ := nv_sub2 (wc := [(h0, .inr (10, [.ref h1, .ref h2, .ref h3, .ref h4, .ref h5, .ref h6, .int x2, .int x3, .int x4, .int 0, .int 0, .long 0])), (h6, .inl (y0, 2600, .inl f0)), (h5, .inl (y1, 35, .inr (.inl g0)))]) hP hD [1, 2, 0] (by decide) rfl
    have hK9 := hK.sub (tys' := [(y0, .int), (y1, .long)]) [1, 0] rfl
    exact W.iret (v := v4) hx hb hr (fun t ht hW => ⟨⟨v4, (0, 0, 0), rfl, trivial, by rw [ht]; exact hP9, va_K.moved hW.alike hK9, hD9⟩, hS.F ht⟩) hS.2.2 dX10_scanOne_125
  · skip
    refine lv_iload_n hx hb dX10_scanOne_21 rfl (lv_at hl 0 rfl) ?_
    refine lv_bipush (v := 10) hx hb dX10_scanOne_22 (by decide) ?_
    refine lv_icmp_ne (tgt := 35) hx hb dX10_scanOne_24 (by decide) (fun c5 => ?_) (fun c5 => ?_)
    · skip
      refine lv_iload_n hx hb dX10_scanOne_35 rfl (lv_at hl 0 rfl) ?_
      refine lv_bipush (v := 97) hx hb dX10_scanOne_36 (by decide) ?_
      refine lv_icmp_lt (tgt := 53) hx hb dX10_scanOne_38 (by decide) (fun c6 => ?_) (fun c6 => ?_)
      · skip
        have j7 : iv r1 (-2147483648) 96 := iv_ltL (iv_any r1) (by decide : iv 97 97 97) c6 (by decide)
        refine lv_iload_n hx hb dX10_scanOne_53 rfl (lv_at hl 0 rfl) ?_
        refine lv_bipush (v := 48) hx hb dX10_scanOne_54 (by decide) ?_
        refine lv_icmp_lt (tgt := 71) hx hb dX10_scanOne_56 (by decide) (fun c8 => ?_) (fun c8 => ?_)
        · skip
          have j9 : iv r1 (-2147483648) 47 := iv_ltL j7 (by decide : iv 48 48 48) c8 (by decide)
          refine lv_iload_n hx hb dX10_scanOne_71 rfl (lv_at hl 0 rfl) ?_
          refine lv_bipush (v := 46) hx hb dX10_scanOne_72 (by decide) ?_
          refine lv_icmp_ne (tgt := 103) hx hb dX10_scanOne_74 (by decide) (fun c10 => ?_) (fun c10 => ?_)
          · skip
            refine lv_aload_n hx hb dX10_scanOne_103 rfl (lv_at hl 1 rfl) ?_
            refine va_ldcS (q := adK 1) hx hb hown (evR1 hE) dX10_scanOne_104 ?_
            refine lv_iload_n hx hb dX10_scanOne_106 rfl (lv_at hl 0 rfl) ?_
            refine lv_i2c (v := _) hx hb dX10_scanOne_107 rfl ?_
            refine lv_topi (fun v11 ev11 => ?_)
            have iv11 : iv v11 0 65535 := iv_eq ev11 (iv_i2c _)
            obtain ⟨hPc, hDc, hFc⟩ := nv_sub3 (wc := []) hP hD hS hA [] (by decide) rfl
            have hKc := hK.sub (tys' := []) [] rfl
            refine va_calli (va_runV (As := [.int v11]) (rest := [.ref h0]) ⟨hx, hb, hml, hown, hG⟩ (cJ0_indexOf_0f7a4_1 l dC dI adK adV H.size v11) (cwV 1 hG (gV wd_480 wd_481 wd_482 wd_12 wd_483) rfl rfl rfl (by decide +kernel) ⟨Nat.le_of_ble_eq_true rfl, Nat.le_of_ble_eq_true rfl⟩) ⟨fun a U g mk q => by obtain ⟨q0, q1, qP, qK, qD, qE⟩ := q; exact ⟨q0, q1, qP, va_K.moved (u := U) (U := U.calling g mk a) (Vm.Alike.refl U.vm) qK, qD, qE.same rfl⟩, vk_recv hE.1 (i := 1) (by decide) hS, fun U hU hW => ⟨rfl, by rw [hU], by rw [hU]; exact hPc, va_K.moved hW.alike hKc, hDc.weaken (fun _ _ _ _ => trivial), by rw [hU]; exact ((hE.kept hS.2.1).narrow hFc).warm hW⟩⟩ rfl rfl hl.1 rfl (lv_room (Nat.le_of_ble_eq_true rfl)) dX10_scanOne_108 ⟨by decide, by decide⟩) hS (fun q _ h => hFc q h) hFc (fun r12 u13 t H1 locs ht hvm hw hB hz1 hk1 hS => ?_)
            have hw : iv r12 (-1) 8 ∧ True := hw
            obtain ⟨ir12, -⟩ := hw
            obtain ⟨hP1, hK1, hD1⟩ := hB
            rw [ht] at hP1
            have hK1 := va_K.moved hvm.symm hK1
            obtain ⟨hP, hD⟩ := nv_join (wf := [(h5, .inl (y1, 35, .inr (.inl g0))), (h0, .inr (10, [.ref h1, .ref h2, .ref h3, .ref h4, .ref h5, .ref h6, .int x2, .int x3, .int x4, .int x5, .int 0, .long 0])), (h6, .inl (y0, 2600, .inl f0))]) hP hD [] [0, 1, 2] rfl rfl (by decide) (by decide) hk1 hFc hP1 hD1 rfl
            have hK := (hK.sub (tys' := [(y1, .long), (y0, .int)]) [0, 1] rfl).app hK1
            generalize H1 = H at hP hS ⊢
            have hK : va_K (dC, dI) vwCl [(y1, .long), (y0, .int)] s := hK
            refine jcut (a := ∀ (b17 : Int32) (ib17 : iv b17 (-2147483648) 47) (H : Heap) (locs : List Loc) (hK : va_K (dC, dI) vwCl [(y1, .long), (y0, .int)] s) (hP : va_P (dC, dI) vwCl [(h5, .inl (y1, 35, .inr (.inl g0))), (h0, .inr (10, [.ref h1, .ref h2, .ref h3, .ref h4, .ref h5, .ref h6, .int x2, .int x3, .int x4, .int x5, .int 0, .long 0])), (h6, .inl (y0, 2600, .inl f0))] H) (hD : va_D A [(h5, .inl (y1, 35, .inr (.inl g0))), (h0, .inr (10, [.ref h1, .ref h2, .ref h3, .ref h4, .ref h5, .ref h6, .int x2, .int x3, .int x4, .int x5, .int 0, .long 0])), (h6, .inl (y0, 2600, .inl f0))]) (hS : va_S A s.heap H locs) (ls : Array Slot) (hl : lv_has ls 4 [(1, .int x0)]), W p l e (headSpec (Cond.code yX10_scanOne cX10_scanOne 4 (some .int) :: lw_G) ({ frames := 4, cells := 0, slots := 0, locals := 91 })).room s m ar below meth c H locs 0 0 Q (F0 m 119 ls [.int b17, .ref h0])) ?_ (fun j18 => ?_)
            · skip
              intro b17 ib17 H locs hK hP hD hS ls hl
              refine va_put (D := (dC, dI)) (ci := 10) (v := .int b17) (ty := .int) (C := RX10) (T := TX10) (N := 12) hx hb hG inGX10 tyX10 tyX10_ok nmX10 hown hK hP hD hS 1 rfl rfl 9 (by decide) (hG _ wd_292) (fun _ h9 => h9) rfl (by decide +kernel) rfl rfl (Nat.le_of_ble_eq_true rfl) dX10_scanOne_119 (fun H locs hP hD hS => ?_)
              obtain ⟨hP, hD⟩ := nv_eq (ws' := [(h5, .inl (y1, 35, .inr (.inl g0))), (h0, .inr (10, [.ref h1, .ref h2, .ref h3, .ref h4, .ref h5, .ref h6, .int x2, .int x3, .int x4, .int b17, .int 0, .long 0])), (h6, .inl (y0, 2600, .inl f0))]) hP hD rfl
              refine lv_iload_n hx hb dX10_scanOne_122 rfl (lv_at hl 0 rfl) ?_
              refine lv_iconst (v := 1) hx hb dX10_scanOne_123 (by decide) ?_
              refine lv_iadd hx hb dX10_scanOne_124 ?_
              refine lv_topi (fun v19 ev19 => ?_)
              rw [hQ]
              obtain ⟨hP9, hD9⟩ := nv_sub2 (wc := [(h0, .inr (10, [.ref h1, .ref h2, .ref h3, .ref h4, .ref h5, .ref h6, .int x2, .int x3, .int x4, .int b17, .int 0, .long 0])), (h6, .inl (y0, 2600, .inl f0)), (h5, .inl (y1, 35, .inr (.inl g0)))]) hP hD [1, 2, 0] (by decide) rfl
              have hK9 := hK.sub (tys' := [(y0, .int), (y1, .long)]) [1, 0] rfl
              exact W.iret (v := v19) hx hb hr (fun t ht hW => ⟨⟨v19, (b17, 0, 0), rfl, trivial, by rw [ht]; exact hP9, va_K.moved hW.alike hK9, hD9⟩, hS.F ht⟩) hS.2.2 dX10_scanOne_125
            refine lv_if_lt (tgt := 118) hx hb dX10_scanOne_111 (by decide) (fun c14 => ?_) (fun c14 => ?_)
            · skip
              have j20 : iv r12 (-1) (-1) := iv_ltL ir12 (by decide : iv 0 0 0) c14 (by decide)
              refine lv_iconst (v := 1) hx hb dX10_scanOne_118 (by decide) ?_
              exact j18 1 (iv_w (by decide : iv 1 1 1) (by decide) (by decide)) _ _ hK hP hD hS ls (lv_sub hl [2] rfl)
            · skip
              have j21 : iv r12 0 8 := iv_nltL ir12 (by decide : iv 0 0 0) c14 (by decide)
              refine lv_iload_n hx hb dX10_scanOne_114 rfl (lv_at hl 0 rfl) ?_
              refine lv_goto (tgt := 119) hx hb dX10_scanOne_115 (by decide) ?_
              exact j18 r1 j9 _ _ hK hP hD hS ls (lv_sub hl [2] rfl)
          · skip
            subst c10
            refine lv_iload_n hx hb dX10_scanOne_77 rfl (lv_at hl 3 rfl) ?_
            refine lv_if_eq (tgt := 103) hx hb dX10_scanOne_78 (by decide) (fun c22 => ?_) (fun c22 => ?_)
            · skip
              subst c22
              refine lv_aload_n hx hb dX10_scanOne_103 rfl (lv_at hl 1 rfl) ?_
              refine va_ldcS (q := adK 1) hx hb hown (evR1 hE) dX10_scanOne_104 ?_
              refine lv_iload_n hx hb dX10_scanOne_106 rfl (lv_at hl 0 rfl) ?_
              refine lv_i2c (v := _) hx hb dX10_scanOne_107 rfl ?_
              refine lv_val (y := 46) (by decide +kernel) ?_
              obtain ⟨hPc, hDc, hFc⟩ := nv_sub3 (wc := []) hP hD hS hA [] (by decide) rfl
              have hKc := hK.sub (tys' := []) [] rfl
              refine va_calli (va_runV (As := [.int 46]) (rest := [.ref h0]) ⟨hx, hb, hml, hown, hG⟩ (cJ0_indexOf_0f7a4_1 l dC dI adK adV H.size 46) (cwV 1 hG (gV wd_480 wd_481 wd_482 wd_12 wd_483) rfl rfl rfl (by decide +kernel) ⟨Nat.le_of_ble_eq_true rfl, Nat.le_of_ble_eq_true rfl⟩) ⟨fun a U g mk q => by obtain ⟨q0, q1, qP, qK, qD, qE⟩ := q; exact ⟨q0, q1, qP, va_K.moved (u := U) (U := U.calling g mk a) (Vm.Alike.refl U.vm) qK, qD, qE.same rfl⟩, vk_recv hE.1 (i := 1) (by decide) hS, fun U hU hW => ⟨rfl, by rw [hU], by rw [hU]; exact hPc, va_K.moved hW.alike hKc, hDc.weaken (fun _ _ _ _ => trivial), by rw [hU]; exact ((hE.kept hS.2.1).narrow hFc).warm hW⟩⟩ rfl rfl hl.1 rfl (lv_room (Nat.le_of_ble_eq_true rfl)) dX10_scanOne_108 ⟨by decide, by decide⟩) hS (fun q _ h => hFc q h) hFc (fun r23 u24 t H1 locs ht hvm hw hB hz1 hk1 hS => ?_)
              have hw : iv r23 (-1) 8 ∧ True := hw
              obtain ⟨ir23, -⟩ := hw
              obtain ⟨hP1, hK1, hD1⟩ := hB
              rw [ht] at hP1
              have hK1 := va_K.moved hvm.symm hK1
              obtain ⟨hP, hD⟩ := nv_join (wf := [(h5, .inl (y1, 35, .inr (.inl g0))), (h0, .inr (10, [.ref h1, .ref h2, .ref h3, .ref h4, .ref h5, .ref h6, .int x2, .int x3, .int x4, .int x5, .int 0, .long 0])), (h6, .inl (y0, 2600, .inl f0))]) hP hD [] [0, 1, 2] rfl rfl (by decide) (by decide) hk1 hFc hP1 hD1 rfl
              have hK := (hK.sub (tys' := [(y1, .long), (y0, .int)]) [0, 1] rfl).app hK1
              generalize H1 = H at hP hS ⊢
              have hK : va_K (dC, dI) vwCl [(y1, .long), (y0, .int)] s := hK
              refine jcut (a := ∀ (b28 : Int32) (ib28 : iv b28 1 46) (H : Heap) (locs : List Loc) (hK : va_K (dC, dI) vwCl [(y1, .long), (y0, .int)] s) (hP : va_P (dC, dI) vwCl [(h5, .inl (y1, 35, .inr (.inl g0))), (h0, .inr (10, [.ref h1, .ref h2, .ref h3, .ref h4, .ref h5, .ref h6, .int x2, .int x3, .int x4, .int x5, .int 0, .long 0])), (h6, .inl (y0, 2600, .inl f0))] H) (hD : va_D A [(h5, .inl (y1, 35, .inr (.inl g0))), (h0, .inr (10, [.ref h1, .ref h2, .ref h3, .ref h4, .ref h5, .ref h6, .int x2, .int x3, .int x4, .int x5, .int 0, .long 0])), (h6, .inl (y0, 2600, .inl f0))]) (hS : va_S A s.heap H locs) (ls : Array Slot) (hl : lv_has ls 4 [(1, .int x0)]), W p l e (headSpec (Cond.code yX10_scanOne cX10_scanOne 4 (some .int) :: lw_G) ({ frames := 4, cells := 0, slots := 0, locals := 91 })).room s m ar below meth c H locs 0 0 Q (F0 m 119 ls [.int b28, .ref h0])) ?_ (fun j29 => ?_)
              · skip
                intro b28 ib28 H locs hK hP hD hS ls hl
                refine va_put (D := (dC, dI)) (ci := 10) (v := .int b28) (ty := .int) (C := RX10) (T := TX10) (N := 12) hx hb hG inGX10 tyX10 tyX10_ok nmX10 hown hK hP hD hS 1 rfl rfl 9 (by decide) (hG _ wd_292) (fun _ h9 => h9) rfl (by decide +kernel) rfl rfl (Nat.le_of_ble_eq_true rfl) dX10_scanOne_119 (fun H locs hP hD hS => ?_)
                obtain ⟨hP, hD⟩ := nv_eq (ws' := [(h5, .inl (y1, 35, .inr (.inl g0))), (h0, .inr (10, [.ref h1, .ref h2, .ref h3, .ref h4, .ref h5, .ref h6, .int x2, .int x3, .int x4, .int b28, .int 0, .long 0])), (h6, .inl (y0, 2600, .inl f0))]) hP hD rfl
                refine lv_iload_n hx hb dX10_scanOne_122 rfl (lv_at hl 0 rfl) ?_
                refine lv_iconst (v := 1) hx hb dX10_scanOne_123 (by decide) ?_
                refine lv_iadd hx hb dX10_scanOne_124 ?_
                refine lv_topi (fun v30 ev30 => ?_)
                rw [hQ]
                obtain ⟨hP9, hD9⟩ := nv_sub2 (wc := [(h0, .inr (10, [.ref h1, .ref h2, .ref h3, .ref h4, .ref h5, .ref h6, .int x2, .int x3, .int x4, .int b28, .int 0, .long 0])), (h6, .inl (y0, 2600, .inl f0)), (h5, .inl (y1, 35, .inr (.inl g0)))]) hP hD [1, 2, 0] (by decide) rfl
                have hK9 := hK.sub (tys' := [(y0, .int), (y1, .long)]) [1, 0] rfl
                exact W.iret (v := v30) hx hb hr (fun t ht hW => ⟨⟨v30, (b28, 0, 0), rfl, trivial, by rw [ht]; exact hP9, va_K.moved hW.alike hK9, hD9⟩, hS.F ht⟩) hS.2.2 dX10_scanOne_125
              refine lv_if_lt (tgt := 118) hx hb dX10_scanOne_111 (by decide) (fun c25 => ?_) (fun c25 => ?_)
              · skip
                have j31 : iv r23 (-1) (-1) := iv_ltL ir23 (by decide : iv 0 0 0) c25 (by decide)
                refine lv_iconst (v := 1) hx hb dX10_scanOne_118 (by decide) ?_
                exact j29 1 (iv_w (by decide : iv 1 1 1) (by decide) (by decide)) _ _ hK hP hD hS ls (lv_sub hl [2] rfl)
              · skip
                have j32 : iv r23 0 8 := iv_nltL ir23 (by decide : iv 0 0 0) c25 (by decide)
                refine lv_iload_n hx hb dX10_scanOne_114 rfl (lv_at hl 0 rfl) ?_
                refine lv_goto (tgt := 119) hx hb dX10_scanOne_115 (by decide) ?_
                exact j29 46 (iv_w (by decide : iv 46 46 46) (by decide) (by decide)) _ _ hK hP hD hS ls (lv_sub hl [2] rfl)
            · skip
              have j33 : iv x1 1 1 := iv_neLo ix1 (by decide : iv 0 0 0) c22 (by decide)
              refine lv_aload_n hx hb dX10_scanOne_81 rfl (lv_at hl 1 rfl) ?_
              refine lv_iload_n hx hb dX10_scanOne_82 rfl (lv_at hl 2 rfl) ?_
              refine lv_iconst (v := 1) hx hb dX10_scanOne_83 (by decide) ?_
              refine lv_iadd hx hb dX10_scanOne_84 ?_
              refine lv_topi (fun v34 ev34 => ?_)
              obtain ⟨hPc, hDc, hFc⟩ := nv_sub3 (wc := [(h0, .inr (10, [.ref h1, .ref h2, .ref h3, .ref h4, .ref h5, .ref h6, .int x2, .int x3, .int x4, .int x5, .int 0, .long 0])), (h6, .inl (y0, 2600, .inl f0))]) hP hD hS hA [1, 2] (by decide) rfl
              have hKc := hK.sub (tys' := [(y0, .int)]) [1] rfl
              refine va_calli (va_runV (As := [.int v34]) (rest := []) ⟨hx, hb, hml, hown, hG⟩ (cX10_sign_1 l dC dI h0 h1 h2 h3 h4 h5 h6 y0 H.size v34 x2 x3 x4 x5 0 0 f0 ix2 ix3 ix4) (cwV 1 hG (gV wd_449 wd_451 wp_3 wd_11 wd_452) rfl rfl rfl (by decide +kernel) ⟨Nat.le_of_ble_eq_true rfl, Nat.le_of_ble_eq_true rfl⟩) ⟨fun a U g mk q => by obtain ⟨q0, q1, qP, qK, qD⟩ := q; exact ⟨q0, q1, qP, va_K.moved (u := U) (U := U.calling g mk a) (Vm.Alike.refl U.vm) qK, qD⟩, va_recv hKc hPc (ci := 10) (q0 := 0) rfl rfl, fun U hU hW => ⟨rfl, by rw [hU], by rw [hU]; exact hPc, va_K.moved hW.alike hKc, hDc.weaken (fun _ _ _ _ => trivial)⟩⟩ rfl rfl hl.1 rfl (lv_room (Nat.le_of_ble_eq_true rfl)) dX10_scanOne_85 ⟨by decide, by decide⟩) hS (fun q _ h => hFc q h) hFc (fun r35 u36 t H1 locs ht hvm hw hB hz1 hk1 hS => ?_)
              obtain ⟨hP1, hK1, hD1⟩ := hB
              rw [ht] at hP1
              have hK1 := va_K.moved hvm.symm hK1
              obtain ⟨hP, hD⟩ := nv_join (wf := [(h5, .inl (y1, 35, .inr (.inl g0))), (h0, .inr (10, [.ref h1, .ref h2, .ref h3, .ref h4, .ref h5, .ref h6, .int x2, .int x3, .int x4, .int x5, .int 0, .long 0])), (h6, .inl (y0, 2600, .inl f0))]) hP hD [1, 2] [0] rfl rfl (by decide) (by decide) hk1 hFc hP1 hD1 rfl
              have hK := (hK.sub (tys' := [(y1, .long)]) [0] rfl).app hK1
              generalize H1 = H at hP hS ⊢
              have hK : va_K (dC, dI) vwCl [(y1, .long), (y0, .int)] s := hK
              refine lv_bipush (v := 98) hx hb dX10_scanOne_88 (by decide) ?_
              refine lv_icmp_ne (tgt := 103) hx hb dX10_scanOne_90 (by decide) (fun c37 => ?_) (fun c37 => ?_)
              · skip
                refine lv_aload_n hx hb dX10_scanOne_103 rfl (lv_at hl 1 rfl) ?_
                refine va_ldcS (q := adK 1) hx hb hown (evR1 hE) dX10_scanOne_104 ?_
                refine lv_iload_n hx hb dX10_scanOne_106 rfl (lv_at hl 0 rfl) ?_
                refine lv_i2c (v := _) hx hb dX10_scanOne_107 rfl ?_
                refine lv_val (y := 46) (by decide +kernel) ?_
                obtain ⟨hPc, hDc, hFc⟩ := nv_sub3 (wc := []) hP hD hS hA [] (by decide) rfl
                have hKc := hK.sub (tys' := []) [] rfl
                refine va_calli (va_runV (As := [.int 46]) (rest := [.ref h0]) ⟨hx, hb, hml, hown, hG⟩ (cJ0_indexOf_0f7a4_1 l dC dI adK adV H.size 46) (cwV 1 hG (gV wd_480 wd_481 wd_482 wd_12 wd_483) rfl rfl rfl (by decide +kernel) ⟨Nat.le_of_ble_eq_true rfl, Nat.le_of_ble_eq_true rfl⟩) ⟨fun a U g mk q => by obtain ⟨q0, q1, qP, qK, qD, qE⟩ := q; exact ⟨q0, q1, qP, va_K.moved (u := U) (U := U.calling g mk a) (Vm.Alike.refl U.vm) qK, qD, qE.same rfl⟩, vk_recv hE.1 (i := 1) (by decide) hS, fun U hU hW => ⟨rfl, by rw [hU], by rw [hU]; exact hPc, va_K.moved hW.alike hKc, hDc.weaken (fun _ _ _ _ => trivial), by rw [hU]; exact ((hE.kept hS.2.1).narrow hFc).warm hW⟩⟩ rfl rfl hl.1 rfl (lv_room (Nat.le_of_ble_eq_true rfl)) dX10_scanOne_108 ⟨by decide, by decide⟩) hS (fun q _ h => hFc q h) hFc (fun r38 u39 t H1 locs ht hvm hw hB hz1 hk1 hS => ?_)
                have hw : iv r38 (-1) 8 ∧ True := hw
                obtain ⟨ir38, -⟩ := hw
                obtain ⟨hP1, hK1, hD1⟩ := hB
                rw [ht] at hP1
                have hK1 := va_K.moved hvm.symm hK1
                obtain ⟨hP, hD⟩ := nv_join (wf := [(h5, .inl (y1, 35, .inr (.inl g0))), (h0, .inr (10, [.ref h1, .ref h2, .ref h3, .ref h4, .ref h5, .ref h6, .int x2, .int x3, .int x4, .int x5, .int 0, .long 0])), (h6, .inl (y0, 2600, .inl f0))]) hP hD [] [0, 1, 2] rfl rfl (by decide) (by decide) hk1 hFc hP1 hD1 rfl
                have hK := (hK.sub (tys' := [(y1, .long), (y0, .int)]) [0, 1] rfl).app hK1
                generalize H1 = H at hP hS ⊢
                have hK : va_K (dC, dI) vwCl [(y1, .long), (y0, .int)] s := hK
                refine jcut (a := ∀ (b43 : Int32) (ib43 : iv b43 1 46) (H : Heap) (locs : List Loc) (hK : va_K (dC, dI) vwCl [(y1, .long), (y0, .int)] s) (hP : va_P (dC, dI) vwCl [(h5, .inl (y1, 35, .inr (.inl g0))), (h0, .inr (10, [.ref h1, .ref h2, .ref h3, .ref h4, .ref h5, .ref h6, .int x2, .int x3, .int x4, .int x5, .int 0, .long 0])), (h6, .inl (y0, 2600, .inl f0))] H) (hD : va_D A [(h5, .inl (y1, 35, .inr (.inl g0))), (h0, .inr (10, [.ref h1, .ref h2, .ref h3, .ref h4, .ref h5, .ref h6, .int x2, .int x3, .int x4, .int x5, .int 0, .long 0])), (h6, .inl (y0, 2600, .inl f0))]) (hS : va_S A s.heap H locs) (ls : Array Slot) (hl : lv_has ls 4 [(1, .int x0)]), W p l e (headSpec (Cond.code yX10_scanOne cX10_scanOne 4 (some .int) :: lw_G) ({ frames := 4, cells := 0, slots := 0, locals := 91 })).room s m ar below meth c H locs 0 0 Q (F0 m 119 ls [.int b43, .ref h0])) ?_ (fun j44 => ?_)
                · skip
                  intro b43 ib43 H locs hK hP hD hS ls hl
                  refine va_put (D := (dC, dI)) (ci := 10) (v := .int b43) (ty := .int) (C := RX10) (T := TX10) (N := 12) hx hb hG inGX10 tyX10 tyX10_ok nmX10 hown hK hP hD hS 1 rfl rfl 9 (by decide) (hG _ wd_292) (fun _ h9 => h9) rfl (by decide +kernel) rfl rfl (Nat.le_of_ble_eq_true rfl) dX10_scanOne_119 (fun H locs hP hD hS => ?_)
                  obtain ⟨hP, hD⟩ := nv_eq (ws' := [(h5, .inl (y1, 35, .inr (.inl g0))), (h0, .inr (10, [.ref h1, .ref h2, .ref h3, .ref h4, .ref h5, .ref h6, .int x2, .int x3, .int x4, .int b43, .int 0, .long 0])), (h6, .inl (y0, 2600, .inl f0))]) hP hD rfl
                  refine lv_iload_n hx hb dX10_scanOne_122 rfl (lv_at hl 0 rfl) ?_
                  refine lv_iconst (v := 1) hx hb dX10_scanOne_123 (by decide) ?_
                  refine lv_iadd hx hb dX10_scanOne_124 ?_
                  refine lv_topi (fun v45 ev45 => ?_)
                  rw [hQ]
                  obtain ⟨hP9, hD9⟩ := nv_sub2 (wc := [(h0, .inr (10, [.ref h1, .ref h2, .ref h3, .ref h4, .ref h5, .ref h6, .int x2, .int x3, .int x4, .int b43, .int 0, .long 0])), (h6, .inl (y0, 2600, .inl f0)), (h5, .inl (y1, 35, .inr (.inl g0)))]) hP hD [1, 2, 0] (by decide) rfl
                  have hK9 := hK.sub (tys' := [(y0, .int), (y1, .long)]) [1, 0] rfl
                  exact W.iret (v := v45) hx hb hr (fun t ht hW => ⟨⟨v45, (b43, 0, 0), rfl, trivial, by rw [ht]; exact hP9, va_K.moved hW.alike hK9, hD9⟩, hS.F ht⟩) hS.2.2 dX10_scanOne_125
                refine lv_if_lt (tgt := 118) hx hb dX10_scanOne_111 (by decide) (fun c40 => ?_) (fun c40 => ?_)
                · skip
                  have j46 : iv r38 (-1) (-1) := iv_ltL ir38 (by decide : iv 0 0 0) c40 (by decide)
                  refine lv_iconst (v := 1) hx hb dX10_scanOne_118 (by decide) ?_
                  exact j44 1 (iv_w (by decide : iv 1 1 1) (by decide) (by decide)) _ _ hK hP hD hS ls (lv_sub hl [2] rfl)
                · skip
                  have j47 : iv r38 0 8 := iv_nltL ir38 (by decide : iv 0 0 0) c40 (by decide)
                  refine lv_iload_n hx hb dX10_scanOne_114 rfl (lv_at hl 0 rfl) ?_
                  refine lv_goto (tgt := 119) hx hb dX10_scanOne_115 (by decide) ?_
                  exact j44 46 (iv_w (by decide : iv 46 46 46) (by decide) (by decide)) _ _ hK hP hD hS ls (lv_sub hl [2] rfl)
              · skip
                subst c37
                refine lv_aload_n hx hb dX10_scanOne_93 rfl (lv_at hl 1 rfl) ?_
                refine lv_bipush (v := 6) hx hb dX10_scanOne_94 (by decide) ?_
                refine va_put (D := (dC, dI)) (ci := 10) (v := .int 6) (ty := .int) (C := RX10) (T := TX10) (N := 12) hx hb hG inGX10 tyX10 tyX10_ok nmX10 hown hK hP hD hS 1 rfl rfl 9 (by decide) (hG _ wd_292) (fun _ h9 => h9) rfl (by decide +kernel) rfl rfl (Nat.le_of_ble_eq_true rfl) dX10_scanOne_96 (fun H locs hP hD hS => ?_)
                obtain ⟨hP, hD⟩ := nv_eq (ws' := [(h5, .inl (y1, 35, .inr (.inl g0))), (h0, .inr (10, [.ref h1, .ref h2, .ref h3, .ref h4, .ref h5, .ref h6, .int x2, .int x3, .int x4, .int 6, .int 0, .long 0])), (h6, .inl (y0, 2600, .inl f0))]) hP hD rfl
                refine lv_iload_n hx hb dX10_scanOne_99 rfl (lv_at hl 2 rfl) ?_
                refine lv_iconst (v := 2) hx hb dX10_scanOne_100 (by decide) ?_
                refine lv_iadd hx hb dX10_scanOne_101 ?_
                refine lv_topi (fun v48 ev48 => ?_)
                rw [hQ]
                obtain ⟨hP9, hD9⟩ := nv_sub2 (wc := [(h0, .inr (10, [.ref h1, .ref h2, .ref h3, .ref h4, .ref h5, .ref h6, .int x2, .int x3, .int x4, .int 6, .int 0, .long 0])), (h6, .inl (y0, 2600, .inl f0)), (h5, .inl (y1, 35, .inr (.inl g0)))]) hP hD [1, 2, 0] (by decide) rfl
                have hK9 := hK.sub (tys' := [(y0, .int), (y1, .long)]) [1, 0] rfl
                exact W.iret (v := v48) hx hb hr (fun t ht hW => ⟨⟨v48, (6, 0, 0), rfl, trivial, by rw [ht]; exact hP9, va_K.moved hW.alike hK9, hD9⟩, hS.F ht⟩) hS.2.2 dX10_scanOne_102
        · skip
          have j49 : iv r1 48 96 := iv_nltL j7 (by decide : iv 48 48 48) c8 (by decide)
          refine lv_iload_n hx hb dX10_scanOne_59 rfl (lv_at hl 0 rfl) ?_
          refine lv_bipush (v := 57) hx hb dX10_scanOne_60 (by decide) ?_
          refine lv_icmp_gt (tgt := 71) hx hb dX10_scanOne_62 (by decide) (fun c50 => ?_) (fun c50 => ?_)
          · skip
            have j51 : iv r1 58 96 := iv_ltR (by decide : iv 57 57 57) j49 c50 (by decide)
            refine lv_iload_n hx hb dX10_scanOne_71 rfl (lv_at hl 0 rfl) ?_
            refine lv_bipush (v := 46) hx hb dX10_scanOne_72 (by decide) ?_
            refine lv_icmp_ne (tgt := 103) hx hb dX10_scanOne_74 (by decide) (fun _ => ?_) (fun c => absurd c (iv_ne j51 (by decide : iv 46 46 46) (by decide)))
            refine lv_aload_n hx hb dX10_scanOne_103 rfl (lv_at hl 1 rfl) ?_
            refine va_ldcS (q := adK 1) hx hb hown (evR1 hE) dX10_scanOne_104 ?_
            refine lv_iload_n hx hb dX10_scanOne_106 rfl (lv_at hl 0 rfl) ?_
            refine lv_i2c (v := _) hx hb dX10_scanOne_107 rfl ?_
            refine lv_topi (fun v52 ev52 => ?_)
            have iv52 : iv v52 0 65535 := iv_eq ev52 (iv_i2c _)
            obtain ⟨hPc, hDc, hFc⟩ := nv_sub3 (wc := []) hP hD hS hA [] (by decide) rfl
            have hKc := hK.sub (tys' := []) [] rfl
            refine va_calli (va_runV (As := [.int v52]) (rest := [.ref h0]) ⟨hx, hb, hml, hown, hG⟩ (cJ0_indexOf_0f7a4_1 l dC dI adK adV H.size v52) (cwV 1 hG (gV wd_480 wd_481 wd_482 wd_12 wd_483) rfl rfl rfl (by decide +kernel) ⟨Nat.le_of_ble_eq_true rfl, Nat.le_of_ble_eq_true rfl⟩) ⟨fun a U g mk q => by obtain ⟨q0, q1, qP, qK, qD, qE⟩ := q; exact ⟨q0, q1, qP, va_K.moved (u := U) (U := U.calling g mk a) (Vm.Alike.refl U.vm) qK, qD, qE.same rfl⟩, vk_recv hE.1 (i := 1) (by decide) hS, fun U hU hW => ⟨rfl, by rw [hU], by rw [hU]; exact hPc, va_K.moved hW.alike hKc, hDc.weaken (fun _ _ _ _ => trivial), by rw [hU]; exact ((hE.kept hS.2.1).narrow hFc).warm hW⟩⟩ rfl rfl hl.1 rfl (lv_room (Nat.le_of_ble_eq_true rfl)) dX10_scanOne_108 ⟨by decide, by decide⟩) hS (fun q _ h => hFc q h) hFc (fun r53 u54 t H1 locs ht hvm hw hB hz1 hk1 hS => ?_)
            have hw : iv r53 (-1) 8 ∧ True := hw
            obtain ⟨ir53, -⟩ := hw
            obtain ⟨hP1, hK1, hD1⟩ := hB
            rw [ht] at hP1
            have hK1 := va_K.moved hvm.symm hK1
            obtain ⟨hP, hD⟩ := nv_join (wf := [(h5, .inl (y1, 35, .inr (.inl g0))), (h0, .inr (10, [.ref h1, .ref h2, .ref h3, .ref h4, .ref h5, .ref h6, .int x2, .int x3, .int x4, .int x5, .int 0, .long 0])), (h6, .inl (y0, 2600, .inl f0))]) hP hD [] [0, 1, 2] rfl rfl (by decide) (by decide) hk1 hFc hP1 hD1 rfl
            have hK := (hK.sub (tys' := [(y1, .long), (y0, .int)]) [0, 1] rfl).app hK1
            generalize H1 = H at hP hS ⊢
            have hK : va_K (dC, dI) vwCl [(y1, .long), (y0, .int)] s := hK
            refine jcut (a := ∀ (b58 : Int32) (ib58 : iv b58 1 96) (H : Heap) (locs : List Loc) (hK : va_K (dC, dI) vwCl [(y1, .long), (y0, .int)] s) (hP : va_P (dC, dI) vwCl [(h5, .inl (y1, 35, .inr (.inl g0))), (h0, .inr (10, [.ref h1, .ref h2, .ref h3, .ref h4, .ref h5, .ref h6, .int x2, .int x3, .int x4, .int x5, .int 0, .long 0])), (h6, .inl (y0, 2600, .inl f0))] H) (hD : va_D A [(h5, .inl (y1, 35, .inr (.inl g0))), (h0, .inr (10, [.ref h1, .ref h2, .ref h3, .ref h4, .ref h5, .ref h6, .int x2, .int x3, .int x4, .int x5, .int 0, .long 0])), (h6, .inl (y0, 2600, .inl f0))]) (hS : va_S A s.heap H locs) (ls : Array Slot) (hl : lv_has ls 4 [(1, .int x0)]), W p l e (headSpec (Cond.code yX10_scanOne cX10_scanOne 4 (some .int) :: lw_G) ({ frames := 4, cells := 0, slots := 0, locals := 91 })).room s m ar below meth c H locs 0 0 Q (F0 m 119 ls [.int b58, .ref h0])) ?_ (fun j59 => ?_)
            · skip
              intro b58 ib58 H locs hK hP hD hS ls hl
              refine va_put (D := (dC, dI)) (ci := 10) (v := .int b58) (ty := .int) (C := RX10) (T := TX10) (N := 12) hx hb hG inGX10 tyX10 tyX10_ok nmX10 hown hK hP hD hS 1 rfl rfl 9 (by decide) (hG _ wd_292) (fun _ h9 => h9) rfl (by decide +kernel) rfl rfl (Nat.le_of_ble_eq_true rfl) dX10_scanOne_119 (fun H locs hP hD hS => ?_)
              obtain ⟨hP, hD⟩ := nv_eq (ws' := [(h5, .inl (y1, 35, .inr (.inl g0))), (h0, .inr (10, [.ref h1, .ref h2, .ref h3, .ref h4, .ref h5, .ref h6, .int x2, .int x3, .int x4, .int b58, .int 0, .long 0])), (h6, .inl (y0, 2600, .inl f0))]) hP hD rfl
              refine lv_iload_n hx hb dX10_scanOne_122 rfl (lv_at hl 0 rfl) ?_
              refine lv_iconst (v := 1) hx hb dX10_scanOne_123 (by decide) ?_
              refine lv_iadd hx hb dX10_scanOne_124 ?_
              refine lv_topi (fun v60 ev60 => ?_)
              rw [hQ]
              obtain ⟨hP9, hD9⟩ := nv_sub2 (wc := [(h0, .inr (10, [.ref h1, .ref h2, .ref h3, .ref h4, .ref h5, .ref h6, .int x2, .int x3, .int x4, .int b58, .int 0, .long 0])), (h6, .inl (y0, 2600, .inl f0)), (h5, .inl (y1, 35, .inr (.inl g0)))]) hP hD [1, 2, 0] (by decide) rfl
              have hK9 := hK.sub (tys' := [(y0, .int), (y1, .long)]) [1, 0] rfl
              exact W.iret (v := v60) hx hb hr (fun t ht hW => ⟨⟨v60, (b58, 0, 0), rfl, trivial, by rw [ht]; exact hP9, va_K.moved hW.alike hK9, hD9⟩, hS.F ht⟩) hS.2.2 dX10_scanOne_125
            refine lv_if_lt (tgt := 118) hx hb dX10_scanOne_111 (by decide) (fun c55 => ?_) (fun c55 => ?_)
            · skip
              have j61 : iv r53 (-1) (-1) := iv_ltL ir53 (by decide : iv 0 0 0) c55 (by decide)
              refine lv_iconst (v := 1) hx hb dX10_scanOne_118 (by decide) ?_
              exact j59 1 (iv_w (by decide : iv 1 1 1) (by decide) (by decide)) _ _ hK hP hD hS ls (lv_sub hl [2] rfl)
            · skip
              have j62 : iv r53 0 8 := iv_nltL ir53 (by decide : iv 0 0 0) c55 (by decide)
              refine lv_iload_n hx hb dX10_scanOne_114 rfl (lv_at hl 0 rfl) ?_
              refine lv_goto (tgt := 119) hx hb dX10_scanOne_115 (by decide) ?_
              exact j59 r1 (iv_w j51 (by decide) (by decide)) _ _ hK hP hD hS ls (lv_sub hl [2] rfl)
          · skip
            have j63 : iv r1 48 57 := iv_nltR (by decide : iv 57 57 57) j49 c50 (by decide)
            refine lv_aload_n hx hb dX10_scanOne_65 rfl (lv_at hl 1 rfl) ?_
            refine lv_iload_n hx hb dX10_scanOne_66 rfl (lv_at hl 2 rfl) ?_
            obtain ⟨hPc, hDc, hFc⟩ := nv_sub3 (wc := [(h0, .inr (10, [.ref h1, .ref h2, .ref h3, .ref h4, .ref h5, .ref h6, .int x2, .int x3, .int x4, .int x5, .int 0, .long 0])), (h6, .inl (y0, 2600, .inl f0))]) hP hD hS hA [1, 2] (by decide) rfl
            have hKc := hK.sub (tys' := [(y0, .int)]) [1] rfl
            refine va_calli (va_runV (As := [.int x0]) (rest := []) ⟨hx, hb, hml, hown, hG⟩ (cX10_scanNumber_1 l dC dI h0 h1 h2 h3 h4 h5 h6 y0 H.size x0 x2 x3 x4 x5 0 0 f0 ix2 ix3 ix4) (cwV 1 hG (gV wd_472 wd_474 wp_8 wd_11 wd_475) rfl rfl rfl (by decide +kernel) ⟨Nat.le_of_ble_eq_true rfl, Nat.le_of_ble_eq_true rfl⟩) ⟨fun a U g mk q => by obtain ⟨q0, q1, qP, qK, qD⟩ := q; exact ⟨q0, q1, qP, va_K.moved (u := U) (U := U.calling g mk a) (Vm.Alike.refl U.vm) qK, qD⟩, va_recv hKc hPc (ci := 10) (q0 := 0) rfl rfl, fun U hU hW => ⟨rfl, by rw [hU], by rw [hU]; exact hPc, va_K.moved hW.alike hKc, hDc.weaken (fun _ _ _ _ => trivial)⟩⟩ rfl rfl hl.1 rfl (lv_room (Nat.le_of_ble_eq_true rfl)) dX10_scanOne_67 ⟨by decide, by decide⟩) hS (fun q _ h => hFc q h) hFc (fun r64 u65 t H1 locs ht hvm hw hB hz1 hk1 hS => ?_)
            obtain ⟨u65_0, u65_1⟩ := u65
            have hw : iv u65_0 1 5 ∧ True := hw
            obtain ⟨iu65_0, -⟩ := hw
            obtain ⟨hP1, hK1, hD1⟩ := hB
            rw [ht] at hP1
            have hK1 := va_K.moved hvm.symm hK1
            obtain ⟨hP, hD⟩ := nv_join (wf := [(h5, .inl (y1, 35, .inr (.inl g0))), (h0, .inr (10, [.ref h1, .ref h2, .ref h3, .ref h4, .ref h5, .ref h6, .int x2, .int x3, .int x4, .int u65_0, .int u65_1, .long 0])), (h6, .inl (y0, 2600, .inl f0))]) hP hD [1, 2] [0] rfl rfl (by decide) (by decide) hk1 hFc hP1 hD1 rfl
            have hK := (hK.sub (tys' := [(y1, .long)]) [0] rfl).app hK1
            generalize H1 = H at hP hS ⊢
            have hK : va_K (dC, dI) vwCl [(y1, .long), (y0, .int)] s := hK
            rw [hQ]
            obtain ⟨hP9, hD9⟩ := nv_sub2 (wc := [(h0, .inr (10, [.ref h1, .ref h2, .ref h3, .ref h4, .ref h5, .ref h6, .int x2, .int x3, .int x4, .int u65_0, .int u65_1, .long 0])), (h6, .inl (y0, 2600, .inl f0)), (h5, .inl (y1, 35, .inr (.inl g0)))]) hP hD [1, 2, 0] (by decide) rfl
            have hK9 := hK.sub (tys' := [(y0, .int), (y1, .long)]) [1, 0] rfl
            exact W.iret (v := r64) hx hb hr (fun t ht hW => ⟨⟨r64, (u65_0, u65_1, 0), rfl, trivial, by rw [ht]; exact hP9, va_K.moved hW.alike hK9, hD9⟩, hS.F ht⟩) hS.2.2 dX10_scanOne_70
      · skip
        have j66 : iv r1 97 2147483647 := iv_nltL (iv_any r1) (by decide : iv 97 97 97) c6 (by decide)
        refine lv_iload_n hx hb dX10_scanOne_41 rfl (lv_at hl 0 rfl) ?_
        refine lv_bipush (v := 122) hx hb dX10_scanOne_42 (by decide) ?_
        refine lv_icmp_gt (tgt := 53) hx hb dX10_scanOne_44 (by decide) (fun c67 => ?_) (fun c67 => ?_)
        · skip
          have j68 : iv r1 123 2147483647 := iv_ltR (by decide : iv 122 122 122) j66 c67 (by decide)
          refine lv_iload_n hx hb dX10_scanOne_53 rfl (lv_at hl 0 rfl) ?_
          refine lv_bipush (v := 48) hx hb dX10_scanOne_54 (by decide) ?_
          refine lv_icmp_lt (tgt := 71) hx hb dX10_scanOne_56 (by decide) (fun c => absurd c (iv_nlt j68 (by decide : iv 48 48 48) (by decide))) (fun _ => ?_)
          refine lv_iload_n hx hb dX10_scanOne_59 rfl (lv_at hl 0 rfl) ?_
          refine lv_bipush (v := 57) hx hb dX10_scanOne_60 (by decide) ?_
          refine lv_icmp_gt (tgt := 71) hx hb dX10_scanOne_62 (by decide) (fun _ => ?_) (fun c => absurd (iv_lt (by decide : iv 57 57 57) j68 (by decide)) c)
          refine lv_iload_n hx hb dX10_scanOne_71 rfl (lv_at hl 0 rfl) ?_
          refine lv_bipush (v := 46) hx hb dX10_scanOne_72 (by decide) ?_
          refine lv_icmp_ne (tgt := 103) hx hb dX10_scanOne_74 (by decide) (fun _ => ?_) (fun c => absurd c (iv_ne j68 (by decide : iv 46 46 46) (by decide)))
          refine lv_aload_n hx hb dX10_scanOne_103 rfl (lv_at hl 1 rfl) ?_
          refine va_ldcS (q := adK 1) hx hb hown (evR1 hE) dX10_scanOne_104 ?_
          refine lv_iload_n hx hb dX10_scanOne_106 rfl (lv_at hl 0 rfl) ?_
          refine lv_i2c (v := _) hx hb dX10_scanOne_107 rfl ?_
          refine lv_topi (fun v69 ev69 => ?_)
          have iv69 : iv v69 0 65535 := iv_eq ev69 (iv_i2c _)
          obtain ⟨hPc, hDc, hFc⟩ := nv_sub3 (wc := []) hP hD hS hA [] (by decide) rfl
          have hKc := hK.sub (tys' := []) [] rfl
          refine va_calli (va_runV (As := [.int v69]) (rest := [.ref h0]) ⟨hx, hb, hml, hown, hG⟩ (cJ0_indexOf_0f7a4_1 l dC dI adK adV H.size v69) (cwV 1 hG (gV wd_480 wd_481 wd_482 wd_12 wd_483) rfl rfl rfl (by decide +kernel) ⟨Nat.le_of_ble_eq_true rfl, Nat.le_of_ble_eq_true rfl⟩) ⟨fun a U g mk q => by obtain ⟨q0, q1, qP, qK, qD, qE⟩ := q; exact ⟨q0, q1, qP, va_K.moved (u := U) (U := U.calling g mk a) (Vm.Alike.refl U.vm) qK, qD, qE.same rfl⟩, vk_recv hE.1 (i := 1) (by decide) hS, fun U hU hW => ⟨rfl, by rw [hU], by rw [hU]; exact hPc, va_K.moved hW.alike hKc, hDc.weaken (fun _ _ _ _ => trivial), by rw [hU]; exact ((hE.kept hS.2.1).narrow hFc).warm hW⟩⟩ rfl rfl hl.1 rfl (lv_room (Nat.le_of_ble_eq_true rfl)) dX10_scanOne_108 ⟨by decide, by decide⟩) hS (fun q _ h => hFc q h) hFc (fun r70 u71 t H1 locs ht hvm hw hB hz1 hk1 hS => ?_)
          have hw : iv r70 (-1) 8 ∧ True := hw
          obtain ⟨ir70, -⟩ := hw
          obtain ⟨hP1, hK1, hD1⟩ := hB
          rw [ht] at hP1
          have hK1 := va_K.moved hvm.symm hK1
          obtain ⟨hP, hD⟩ := nv_join (wf := [(h5, .inl (y1, 35, .inr (.inl g0))), (h0, .inr (10, [.ref h1, .ref h2, .ref h3, .ref h4, .ref h5, .ref h6, .int x2, .int x3, .int x4, .int x5, .int 0, .long 0])), (h6, .inl (y0, 2600, .inl f0))]) hP hD [] [0, 1, 2] rfl rfl (by decide) (by decide) hk1 hFc hP1 hD1 rfl
          have hK := (hK.sub (tys' := [(y1, .long), (y0, .int)]) [0, 1] rfl).app hK1
          generalize H1 = H at hP hS ⊢
          have hK : va_K (dC, dI) vwCl [(y1, .long), (y0, .int)] s := hK
          refine jcut (a := ∀ (b75 : Int32) (ib75 : iv b75 1 2147483647) (H : Heap) (locs : List Loc) (hK : va_K (dC, dI) vwCl [(y1, .long), (y0, .int)] s) (hP : va_P (dC, dI) vwCl [(h5, .inl (y1, 35, .inr (.inl g0))), (h0, .inr (10, [.ref h1, .ref h2, .ref h3, .ref h4, .ref h5, .ref h6, .int x2, .int x3, .int x4, .int x5, .int 0, .long 0])), (h6, .inl (y0, 2600, .inl f0))] H) (hD : va_D A [(h5, .inl (y1, 35, .inr (.inl g0))), (h0, .inr (10, [.ref h1, .ref h2, .ref h3, .ref h4, .ref h5, .ref h6, .int x2, .int x3, .int x4, .int x5, .int 0, .long 0])), (h6, .inl (y0, 2600, .inl f0))]) (hS : va_S A s.heap H locs) (ls : Array Slot) (hl : lv_has ls 4 [(1, .int x0)]), W p l e (headSpec (Cond.code yX10_scanOne cX10_scanOne 4 (some .int) :: lw_G) ({ frames := 4, cells := 0, slots := 0, locals := 91 })).room s m ar below meth c H locs 0 0 Q (F0 m 119 ls [.int b75, .ref h0])) ?_ (fun j76 => ?_)
          · skip
            intro b75 ib75 H locs hK hP hD hS ls hl
            refine va_put (D := (dC, dI)) (ci := 10) (v := .int b75) (ty := .int) (C := RX10) (T := TX10) (N := 12) hx hb hG inGX10 tyX10 tyX10_ok nmX10 hown hK hP hD hS 1 rfl rfl 9 (by decide) (hG _ wd_292) (fun _ h9 => h9) rfl (by decide +kernel) rfl rfl (Nat.le_of_ble_eq_true rfl) dX10_scanOne_119 (fun H locs hP hD hS => ?_)
            obtain ⟨hP, hD⟩ := nv_eq (ws' := [(h5, .inl (y1, 35, .inr (.inl g0))), (h0, .inr (10, [.ref h1, .ref h2, .ref h3, .ref h4, .ref h5, .ref h6, .int x2, .int x3, .int x4, .int b75, .int 0, .long 0])), (h6, .inl (y0, 2600, .inl f0))]) hP hD rfl
            refine lv_iload_n hx hb dX10_scanOne_122 rfl (lv_at hl 0 rfl) ?_
            refine lv_iconst (v := 1) hx hb dX10_scanOne_123 (by decide) ?_
            refine lv_iadd hx hb dX10_scanOne_124 ?_
            refine lv_topi (fun v77 ev77 => ?_)
            rw [hQ]
            obtain ⟨hP9, hD9⟩ := nv_sub2 (wc := [(h0, .inr (10, [.ref h1, .ref h2, .ref h3, .ref h4, .ref h5, .ref h6, .int x2, .int x3, .int x4, .int b75, .int 0, .long 0])), (h6, .inl (y0, 2600, .inl f0)), (h5, .inl (y1, 35, .inr (.inl g0)))]) hP hD [1, 2, 0] (by decide) rfl
            have hK9 := hK.sub (tys' := [(y0, .int), (y1, .long)]) [1, 0] rfl
            exact W.iret (v := v77) hx hb hr (fun t ht hW => ⟨⟨v77, (b75, 0, 0), rfl, trivial, by rw [ht]; exact hP9, va_K.moved hW.alike hK9, hD9⟩, hS.F ht⟩) hS.2.2 dX10_scanOne_125
          refine lv_if_lt (tgt := 118) hx hb dX10_scanOne_111 (by decide) (fun c72 => ?_) (fun c72 => ?_)
          · skip
            have j78 : iv r70 (-1) (-1) := iv_ltL ir70 (by decide : iv 0 0 0) c72 (by decide)
            refine lv_iconst (v := 1) hx hb dX10_scanOne_118 (by decide) ?_
            exact j76 1 (iv_w (by decide : iv 1 1 1) (by decide) (by decide)) _ _ hK hP hD hS ls (lv_sub hl [2] rfl)
          · skip
            have j79 : iv r70 0 8 := iv_nltL ir70 (by decide : iv 0 0 0) c72 (by decide)
            refine lv_iload_n hx hb dX10_scanOne_114 rfl (lv_at hl 0 rfl) ?_
            refine lv_goto (tgt := 119) hx hb dX10_scanOne_115 (by decide) ?_
            exact j76 r1 (iv_w j68 (by decide) (by decide)) _ _ hK hP hD hS ls (lv_sub hl [2] rfl)
        · skip
          have j80 : iv r1 97 122 := iv_nltR (by decide : iv 122 122 122) j66 c67 (by decide)
          refine lv_aload_n hx hb dX10_scanOne_47 rfl (lv_at hl 1 rfl) ?_
          refine lv_iload_n hx hb dX10_scanOne_48 rfl (lv_at hl 2 rfl) ?_
          obtain ⟨hPc, hDc, hFc⟩ := nv_sub3 (wc := [(h0, .inr (10, [.ref h1, .ref h2, .ref h3, .ref h4, .ref h5, .ref h6, .int x2, .int x3, .int x4, .int x5, .int 0, .long 0])), (h6, .inl (y0, 2600, .inl f0)), (h5, .inl (y1, 35, .inr (.inl g0)))]) hP hD hS hA [1, 2, 0] (by decide) rfl
          have hKc := hK.sub (tys' := [(y0, .int), (y1, .long)]) [1, 0] rfl
          refine va_calli (va_runV (As := [.int x0]) (rest := []) ⟨hx, hb, hml, hown, hG⟩ (cX10_scanWord_1 l dC dI h0 h1 h2 h3 h4 h5 h6 y0 y1 H.size x0 x2 x3 x4 x5 0 0 f0 g0 ix2 ix3 ix4) (cwV 1 hG (gV wd_457 wd_459 wp_5 wd_11 wd_460) rfl rfl rfl (by decide +kernel) ⟨Nat.le_of_ble_eq_true rfl, Nat.le_of_ble_eq_true rfl⟩) ⟨fun a U g mk q => by obtain ⟨q0, q1, qP, qK, qD⟩ := q; exact ⟨q0, q1, qP, va_K.moved (u := U) (U := U.calling g mk a) (Vm.Alike.refl U.vm) qK, qD⟩, va_recv hKc hPc (ci := 10) (q0 := 0) rfl rfl, fun U hU hW => ⟨rfl, by rw [hU], by rw [hU]; exact hPc, va_K.moved hW.alike hKc, hDc.weaken (fun _ _ _ _ => trivial)⟩⟩ rfl rfl hl.1 rfl (lv_room (Nat.le_of_ble_eq_true rfl)) dX10_scanOne_49 ⟨by decide, by decide⟩) hS (fun q _ h => hFc q h) hFc (fun r81 u82 t H1 locs ht hvm hw hB hz1 hk1 hS => ?_)
          obtain ⟨u82_0, u82_1, u82_2⟩ := u82
          have hw : iv u82_0 1 4 ∧ True := hw
          obtain ⟨iu82_0, -⟩ := hw
          obtain ⟨hP1, hK1, hD1⟩ := hB
          rw [ht] at hP1
          have hK1 := va_K.moved hvm.symm hK1
          obtain ⟨hP, hD⟩ := nv_join (wf := [(h0, .inr (10, [.ref h1, .ref h2, .ref h3, .ref h4, .ref h5, .ref h6, .int x2, .int x3, .int x4, .int u82_0, .int u82_1, .long u82_2])), (h6, .inl (y0, 2600, .inl f0)), (h5, .inl (y1, 35, .inr (.inl g0)))]) hP hD [1, 2, 0] [] rfl rfl (by decide) (by decide) hk1 hFc hP1 hD1 rfl
          have hK := (hK.sub (tys' := []) [] rfl).app hK1
          generalize H1 = H at hP hS ⊢
          have hK : va_K (dC, dI) vwCl [(y0, .int), (y1, .long)] s := hK
          rw [hQ]
          obtain ⟨hP9, hD9⟩ := nv_sub2 (wc := [(h0, .inr (10, [.ref h1, .ref h2, .ref h3, .ref h4, .ref h5, .ref h6, .int x2, .int x3, .int x4, .int u82_0, .int u82_1, .long u82_2])), (h6, .inl (y0, 2600, .inl f0)), (h5, .inl (y1, 35, .inr (.inl g0)))]) hP hD [0, 1, 2] (by decide) rfl
          have hK9 := hK.sub (tys' := [(y0, .int), (y1, .long)]) [0, 1] rfl
          exact W.iret (v := r81) hx hb hr (fun t ht hW => ⟨⟨r81, (u82_0, u82_1, u82_2), rfl, trivial, by rw [ht]; exact hP9, va_K.moved hW.alike hK9, hD9⟩, hS.F ht⟩) hS.2.2 dX10_scanOne_52
    · skip
      subst c5
      refine lv_aload_n hx hb dX10_scanOne_27 rfl (lv_at hl 1 rfl) ?_
      refine lv_iconst (v := 0) hx hb dX10_scanOne_28 (by decide) ?_
      refine va_put (D := (dC, dI)) (ci := 10) (v := .int 0) (ty := .int) (C := RX10) (T := TX10) (N := 12) hx hb hG inGX10 tyX10 tyX10_ok nmX10 hown hK hP hD hS 1 rfl rfl 9 (by decide) (hG _ wd_292) (fun _ h9 => h9) rfl (by decide +kernel) rfl rfl (Nat.le_of_ble_eq_true rfl) dX10_scanOne_29 (fun H locs hP hD hS => ?_)
      obtain ⟨hP, hD⟩ := nv_eq (ws' := [(h5, .inl (y1, 35, .inr (.inl g0))), (h0, .inr (10, [.ref h1, .ref h2, .ref h3, .ref h4, .ref h5, .ref h6, .int x2, .int x3, .int x4, .int 0, .int 0, .long 0])), (h6, .inl (y0, 2600, .inl f0))]) hP hD rfl
      refine lv_goto (tgt := 122) hx hb dX10_scanOne_32 (by decide) ?_
      refine lv_iload_n hx hb dX10_scanOne_122 rfl (lv_at hl 2 rfl) ?_
      refine lv_iconst (v := 1) hx hb dX10_scanOne_123 (by decide) ?_
      refine lv_iadd hx hb dX10_scanOne_124 ?_
      refine lv_topi (fun v83 ev83 => ?_)
      rw [hQ]
      obtain ⟨hP9, hD9⟩ := nv_sub2 (wc := [(h0, .inr (10, [.ref h1, .ref h2, .ref h3, .ref h4, .ref h5, .ref h6, .int x2, .int x3, .int x4, .int 0, .int 0, .long 0])), (h6, .inl (y0, 2600, .inl f0)), (h5, .inl (y1, 35, .inr (.inl g0)))]) hP hD [1, 2, 0] (by decide) rfl
      have hK9 := hK.sub (tys' := [(y0, .int), (y1, .long)]) [1, 0] rfl
      exact W.iret (v := v83) hx hb hr (fun t ht hW => ⟨⟨v83, (0, 0, 0), rfl, trivial, by rw [ht]; exact hP9, va_K.moved hW.alike hK9, hD9⟩, hS.F ht⟩) hS.2.2 dX10_scanOne_125
set_option maxHeartbeats 100000000 in
set_option maxRecDepth 100000 in
theorem cX10_scan_1 (l : Launch) (dC : Nat → ClassId) (dI : Nat → Nat → Nat) (adK adV : Nat → Nat) (h0 h1 h2 h3 h4 h5 h6 : Nat) (y0 y1 y2 y3 y4 y5 : ClassId) (sz : Nat) (x0 x1 x2 x3 x4 x5 : Int32) (z0 : Int64) (f0 f1 f2 f3 : Nat → Int32) (g0 g1 : Nat → Int64) (ix0 : iv x0 0 2600) (ix1 : iv x1 0 2600) (ix2 : iv x2 0 2501) (ix3 : iv x3 0 2500) : Met l yX10_scan (Cond.code yX10_scan cX10_scan 6 none :: lw_G) ({ frames := 5, cells := 0, slots := 0, locals := 114 }) (va_Pc [.ref h0, .int x0] (fun U => U.heap.size = sz ∧ va_P (dC, dI) vwCl [(h0, .inr (10, [.ref h1, .ref h2, .ref h3, .ref h4, .ref h5, .ref h6, .int x1, .int x2, .int x3, .int x4, .int x5, .long z0])), (h6, .inl (y0, 2600, .inl f0)), (h5, .inl (y1, 35, .inr (.inl g0))), (h1, .inl (y2, 2501, .inl f1)), (h2, .inl (y3, 2501, .inl f2)), (h3, .inl (y4, 2501, .inl f3)), (h4, .inl (y5, 2501, .inr (.inl g1)))] U.heap ∧ va_K (dC, dI) vwCl [(y0, .int), (y1, .long), (y2, .int), (y3, .int), (y4, .int), (y5, .long)] U ∧ va_D (fun _ => True) [(h0, .inr (10, [.ref h1, .ref h2, .ref h3, .ref h4, .ref h5, .ref h6, .int x1, .int x2, .int x3, .int x4, .int x5, .long z0])), (h6, .inl (y0, 2600, .inl f0)), (h5, .inl (y1, 35, .inr (.inl g0))), (h1, .inl (y2, 2501, .inl f1)), (h2, .inl (y3, 2501, .inl f2)), (h3, .inl (y4, 2501, .inl f3)), (h4, .inl (y5, 2501, .inr (.inl g1)))] ∧ ev adK adV (va_A [(h0, .inr (10, [.ref h1, .ref h2, .ref h3, .ref h4, .ref h5, .ref h6, .int x1, .int x2, .int x3, .int x4, .int x5, .long z0])), (h6, .inl (y0, 2600, .inl f0)), (h5, .inl (y1, 35, .inr (.inl g0))), (h1, .inl (y2, 2501, .inl f1)), (h2, .inl (y3, 2501, .inl f2)), (h3, .inl (y4, 2501, .inl f3)), (h4, .inl (y5, 2501, .inr (.inl g1)))] sz) U U.heap)) (va_Qv (fun (u : Int32 × Int32 × Int32 × Int64 × (Nat → Int32) × (Nat → Int32) × (Nat → Int32) × (Nat → Int64)) => iv u.1 0 2501 ∧ True) (fun (u : Int32 × Int32 × Int32 × Int64 × (Nat → Int32) × (Nat → Int32) × (Nat → Int32) × (Nat → Int64)) (t : State) => va_P (dC, dI) vwCl [(h0, .inr (10, [.ref h1, .ref h2, .ref h3, .ref h4, .ref h5, .ref h6, .int x0, .int u.1, .int 0, .int u.2.1, .int u.2.2.1, .long u.2.2.2.1])), (h6, .inl (y0, 2600, .inl f0)), (h5, .inl (y1, 35, .inr (.inl g0))), (h1, .inl (y2, 2501, .inl u.2.2.2.2.1)), (h2, .inl (y3, 2501, .inl u.2.2.2.2.2.1)), (h3, .inl (y4, 2501, .inl u.2.2.2.2.2.2.1)), (h4, .inl (y5, 2501, .inr (.inl u.2.2.2.2.2.2.2)))] t.heap ∧ va_K (dC, dI) vwCl [(y0, .int), (y1, .long), (y2, .int), (y3, .int), (y4, .int), (y5, .long)] t ∧ va_D (va_A [(h0, .inr (10, [.ref h1, .ref h2, .ref h3, .ref h4, .ref h5, .ref h6, .int x1, .int x2, .int x3, .int x4, .int x5, .long z0])), (h6, .inl (y0, 2600, .inl f0)), (h5, .inl (y1, 35, .inr (.inl g0))), (h1, .inl (y2, 2501, .inl f1)), (h2, .inl (y3, 2501, .inl f2)), (h3, .inl (y4, 2501, .inl f3)), (h4, .inl (y5, 2501, .inr (.inl g1)))] sz) [(h0, .inr (10, [.ref h1, .ref h2, .ref h3, .ref h4, .ref h5, .ref h6, .int x0, .int u.1, .int 0, .int u.2.1, .int u.2.2.1, .long u.2.2.2.1])), (h6, .inl (y0, 2600, .inl f0)), (h5, .inl (y1, 35, .inr (.inl g0))), (h1, .inl (y2, 2501, .inl u.2.2.2.2.1)), (h2, .inl (y3, 2501, .inl u.2.2.2.2.2.1)), (h3, .inl (y4, 2501, .inl u.2.2.2.2.2.2.1)), (h4, .inl (y5, 2501, .inr (.inl u.2.2.2.2.2.2.2)))]) (va_A [(h0, .inr (10, [.ref h1, .ref h2, .ref h3, .ref h4, .ref h5, .ref h6, .int x1, .int x2, .int x3, .int x4, .int x5, .long z0])), (h6, .inl (y0, 2600, .inl f0)), (h5, .inl (y1, 35, .inr (.inl g0))), (h1, .inl (y2, 2501, .inl f1)), (h2, .inl (y3, 2501, .inl f2)), (h3, .inl (y4, 2501, .inl f3)), (h4, .inl (y5, 2501, .inr (.inl g1)))] sz)) 0 0 (va_A [(h0, .inr (10, [.ref h1, .ref h2, .ref h3, .ref h4, .ref h5, .ref h6, .int x1, .int x2, .int x3, .int x4, .int x5, .long z0])), (h6, .inl (y0, 2600, .inl f0)), (h5, .inl (y1, 35, .inr (.inl g0))), (h1, .inl (y2, 2501, .inl f1)), (h2, .inl (y3, 2501, .inl f2)), (h3, .inl (y4, 2501, .inl f3)), (h4, .inl (y5, 2501, .inr (.inl g1)))] sz) := by
  refine Met.ofW (cc := cX10_scan) (maxL := 6) (ret := none) (by decide) rfl ?_
  intro p e s m args below meth c s₁ B hml hv
  obtain ⟨rfl, hsz, hP, hK, hD0, hE⟩ := hv
  have hx := B.exec
  have hb := B.bytes
  have hr := B.returns
  have hts0 := atoms_spec (ws := Cond.code yX10_scan cX10_scan 6 none :: lw_G) B.pre
  have hG : ∀ w ∈ lw_G, w.before _ s = true := fun w h => hts0 w (List.mem_cons_of_mem _ h)
  have hown : s.vm.findClass RX10 = some m.cls := findClass_of_methodNamed B.named
  have hlocks := B.notSynchronized
  subst hsz
  have hD := hD0.self (sz := s.heap.size)
  generalize hAe : va_A [(h0, .inr (10, [.ref h1, .ref h2, .ref h3, .ref h4, .ref h5, .ref h6, .int x1, .int x2, .int x3, .int x4, .int x5, .long z0])), (h6, .inl (y0, 2600, .inl f0)), (h5, .inl (y1, 35, .inr (.inl g0))), (h1, .inl (y2, 2501, .inl f1)), (h2, .inl (y3, 2501, .inl f2)), (h3, .inl (y4, 2501, .inl f3)), (h4, .inl (y5, 2501, .inr (.inl g1)))] s.heap.size = A at hD hE ⊢
  have hA : ∀ q : Nat, s.heap.size ≤ q → A q := fun q h => by rw [← hAe]; exact Or.inr h
  have hS : va_S A s.heap s.heap [] := va_S.rf
  have hP : va_P (dC, dI) vwCl [(h0, .inr (10, [.ref h1, .ref h2, .ref h3, .ref h4, .ref h5, .ref h6, .int x1, .int x2, .int x3, .int x4, .int x5, .long z0])), (h6, .inl (y0, 2600, .inl f0)), (h5, .inl (y1, 35, .inr (.inl g0))), (h1, .inl (y2, 2501, .inl f1)), (h2, .inl (y3, 2501, .inl f2)), (h3, .inl (y4, 2501, .inl f3)), (h4, .inl (y5, 2501, .inr (.inl g1)))] s.heap := hP
  have hl := lv_entry ([.ref h0, .int x0]) (n := 6) (Nat.le_of_ble_eq_true rfl)
  rw [lg_entry_eq]
  generalize (lg_sl ([.ref h0, .int x0]) ++ List.replicate (6 - (lg_sl ([.ref h0, .int x0])).length) Slot.unset).toArray = ls at hl ⊢
  have hl : lv_has ls 6 [(0, .ref h0), (1, .int x0)] := hl
  generalize ([.ref h0, .int x0] : List Value).toArray = ar at hG ⊢
  refine wq (fun Q hQ => ?_)
  refine lv_aload_n hx hb dX10_scan_0 rfl (lv_at hl 0 rfl) ?_
  refine lv_iload_n hx hb dX10_scan_1 rfl (lv_at hl 1 rfl) ?_
  refine lv_aload_n hx hb dX10_scan_2 rfl (lv_at hl 0 rfl) ?_
  refine va_get (D := (dC, dI)) (ci := 10) (v := .ref h6) (C := RX10) (T := TX10) (N := 12) hx hb hG inGX10 hown hK hP 0 rfl rfl 5 (by decide) (hG _ wd_288) (fun _ h9 => h9) rfl dX10_scan_3 ?_
  refine va_alen (v := 2600) hx hb hK hP 1 0 rfl rfl (show Int32.ofNat 2600 = 2600 by decide) dX10_scan_6 ?_
  refine lv_icmp_gt (tgt := 14) hx hb dX10_scan_7 (by decide) (fun c => absurd c (iv_nlt (by decide : iv 2600 2600 2600) ix0 (by decide))) (fun _ => ?_)
  refine lv_iload_n hx hb dX10_scan_10 rfl (lv_at hl 1 rfl) ?_
  refine lv_goto (tgt := 19) hx hb dX10_scan_11 (by decide) ?_
  refine va_put (D := (dC, dI)) (ci := 10) (v := .int x0) (ty := .int) (C := RX10) (T := TX10) (N := 12) hx hb hG inGX10 tyX10 tyX10_ok nmX10 hown hK hP hD hS 0 rfl rfl 6 (by decide) (hG _ wd_289) (fun _ h9 => h9) rfl (by decide +kernel) rfl rfl (Nat.le_of_ble_eq_true rfl) dX10_scan_19 (fun H locs hP hD hS => ?_)
  obtain ⟨hP, hD⟩ := nv_eq (ws' := [(h0, .inr (10, [.ref h1, .ref h2, .ref h3, .ref h4, .ref h5, .ref h6, .int x0, .int x2, .int x3, .int x4, .int x5, .long z0])), (h6, .inl (y0, 2600, .inl f0)), (h5, .inl (y1, 35, .inr (.inl g0))), (h1, .inl (y2, 2501, .inl f1)), (h2, .inl (y3, 2501, .inl f2)), (h3, .inl (y4, 2501, .inl f3)), (h4, .inl (y5, 2501, .inr (.inl g1)))]) hP hD rfl
  refine lv_aload_n hx hb dX10_scan_22 rfl (lv_at hl 0 rfl) ?_
  refine lv_iconst (v := 0) hx hb dX10_scan_23 (by decide) ?_
  refine va_put (D := (dC, dI)) (ci := 10) (v := .int 0) (ty := .int) (C := RX10) (T := TX10) (N := 12) hx hb hG inGX10 tyX10 tyX10_ok nmX10 hown hK hP hD hS 0 rfl rfl 8 (by decide) (hG _ wd_291) (fun _ h9 => h9) rfl (by decide +kernel) rfl rfl (Nat.le_of_ble_eq_true rfl) dX10_scan_24 (fun H locs hP hD hS => ?_)
  obtain ⟨hP, hD⟩ := nv_eq (ws' := [(h0, .inr (10, [.ref h1, .ref h2, .ref h3, .ref h4, .ref h5, .ref h6, .int x0, .int x2, .int 0, .int x4, .int x5, .long z0])), (h6, .inl (y0, 2600, .inl f0)), (h5, .inl (y1, 35, .inr (.inl g0))), (h1, .inl (y2, 2501, .inl f1)), (h2, .inl (y3, 2501, .inl f2)), (h3, .inl (y4, 2501, .inl f3)), (h4, .inl (y5, 2501, .inr (.inl g1)))]) hP hD rfl
  refine lv_iconst (v := 0) hx hb dX10_scan_27 (by decide) ?_
  refine lv_istore_n (lv' := [(2, .int 0), (0, .ref h0), (1, .int x0)]) hx hb dX10_scan_28 rfl hl (by decide) rfl (fun ls hl => ?_)
  refine lv_iconst (v := 1) hx hb dX10_scan_29 (by decide) ?_
  refine lv_istore_n (lv' := [(3, .int 1), (2, .int 0), (0, .ref h0), (1, .int x0)]) hx hb dX10_scan_30 rfl hl (by decide) rfl (fun ls hl => ?_)
  refine lv_aload_n hx hb dX10_scan_31 rfl (lv_at hl 2 rfl) ?_
  refine lv_iconst (v := 0) hx hb dX10_scan_32 (by decide) ?_
  refine va_put (D := (dC, dI)) (ci := 10) (v := .int 0) (ty := .int) (C := RX10) (T := TX10) (N := 12) hx hb hG inGX10 tyX10 tyX10_ok nmX10 hown hK hP hD hS 0 rfl rfl 7 (by decide) (hG _ wd_290) (fun _ h9 => h9) rfl (by decide +kernel) rfl rfl (Nat.le_of_ble_eq_true rfl) dX10_scan_33 (fun H locs hP hD hS => ?_)
  obtain ⟨hP, hD⟩ := nv_eq (ws' := [(h0, .inr (10, [.ref h1, .ref h2, .ref h3, .ref h4, .ref h5, .ref h6, .int x0, .int 0, .int 0, .int x4, .int x5, .long z0])), (h6, .inl (y0, 2600, .inl f0)), (h5, .inl (y1, 35, .inr (.inl g0))), (h1, .inl (y2, 2501, .inl f1)), (h2, .inl (y3, 2501, .inl f2)), (h3, .inl (y4, 2501, .inl f3)), (h4, .inl (y5, 2501, .inr (.inl g1)))]) hP hD rfl
  refine lv_iconst (v := 0) hx hb dX10_scan_36 (by decide) ?_
  refine lv_istore (lv' := [(4, .int 0), (3, .int 1), (2, .int 0), (0, .ref h0), (1, .int x0)]) hx hb dX10_scan_37 hl (by decide) rfl (fun ls hl => ?_)
  refine jcut (a := ∀ (n : Nat) (b1042 : Int32) (b1043 : Int32) (b1044 : Int32) (b1045 : Int32) (b1046 : Int32) (b1047 : Int32) (b1048 : Int64) (b1049 : Nat → Int32) (b1050 : Nat → Int32) (b1051 : Nat → Int32) (b1052 : Nat → Int64) (ib1042 : iv b1042 0 2501) (ib1043 : iv b1043 0 1) (ib1045 : iv b1045 0 2501) (hm : (2501 - b1042.toInt).toNat < n) (H : Heap) (locs : List Loc) (hK : va_K (dC, dI) vwCl [(y0, .int), (y1, .long), (y2, .int), (y3, .int), (y4, .int), (y5, .long)] s) (hP : va_P (dC, dI) vwCl [(h0, .inr (10, [.ref h1, .ref h2, .ref h3, .ref h4, .ref h5, .ref h6, .int x0, .int b1045, .int 0, .int b1046, .int b1047, .long b1048])), (h6, .inl (y0, 2600, .inl f0)), (h5, .inl (y1, 35, .inr (.inl g0))), (h1, .inl (y2, 2501, .inl b1049)), (h2, .inl (y3, 2501, .inl b1050)), (h3, .inl (y4, 2501, .inl b1051)), (h4, .inl (y5, 2501, .inr (.inl b1052)))] H) (hD : va_D A [(h0, .inr (10, [.ref h1, .ref h2, .ref h3, .ref h4, .ref h5, .ref h6, .int x0, .int b1045, .int 0, .int b1046, .int b1047, .long b1048])), (h6, .inl (y0, 2600, .inl f0)), (h5, .inl (y1, 35, .inr (.inl g0))), (h1, .inl (y2, 2501, .inl b1049)), (h2, .inl (y3, 2501, .inl b1050)), (h3, .inl (y4, 2501, .inl b1051)), (h4, .inl (y5, 2501, .inr (.inl b1052)))]) (hS : va_S A s.heap H locs) (ls : Array Slot) (hl : lv_has ls 6 [(4, .int b1042), (3, .int b1043), (2, .int b1044), (0, .ref h0)]), W p l e (headSpec (Cond.code yX10_scan cX10_scan 6 none :: lw_G) ({ frames := 5, cells := 0, slots := 0, locals := 114 })).room s m ar below meth c H locs 0 0 Q (F0 m 39 ls [])) ?_ (fun lp1089 => ?_)
  · skip
    intro n
    induction n with
    | zero => intro b1042 b1043 b1044 b1045 b1046 b1047 b1048 b1049 b1050 b1051 b1052 ib1042 ib1043 ib1045 hm H locs hK hP hD hS ls hl; exact absurd hm (Nat.not_lt_zero _)
    | succ n ih =>
      intro b1042 b1043 b1044 b1045 b1046 b1047 b1048 b1049 b1050 b1051 b1052 ib1042 ib1043 ib1045 hm H locs hK hP hD hS ls hl
      refine lv_iload_n hx hb dX10_scan_39 rfl (lv_at hl 1 rfl) ?_
      refine jcut (a := ∀ (H : Heap) (locs : List Loc) (hK : va_K (dC, dI) vwCl [(y0, .int), (y1, .long), (y2, .int), (y3, .int), (y4, .int), (y5, .long)] s) (hP : va_P (dC, dI) vwCl [(h0, .inr (10, [.ref h1, .ref h2, .ref h3, .ref h4, .ref h5, .ref h6, .int x0, .int b1045, .int 0, .int b1046, .int b1047, .long b1048])), (h6, .inl (y0, 2600, .inl f0)), (h5, .inl (y1, 35, .inr (.inl g0))), (h1, .inl (y2, 2501, .inl b1049)), (h2, .inl (y3, 2501, .inl b1050)), (h3, .inl (y4, 2501, .inl b1051)), (h4, .inl (y5, 2501, .inr (.inl b1052)))] H) (hD : va_D A [(h0, .inr (10, [.ref h1, .ref h2, .ref h3, .ref h4, .ref h5, .ref h6, .int x0, .int b1045, .int 0, .int b1046, .int b1047, .long b1048])), (h6, .inl (y0, 2600, .inl f0)), (h5, .inl (y1, 35, .inr (.inl g0))), (h1, .inl (y2, 2501, .inl b1049)), (h2, .inl (y3, 2501, .inl b1050)), (h3, .inl (y4, 2501, .inl b1051)), (h4, .inl (y5, 2501, .inr (.inl b1052)))]) (hS : va_S A s.heap H locs) (ls : Array Slot) (hl : lv_has ls 6 []), W p l e (headSpec (Cond.code yX10_scan cX10_scan 6 none :: lw_G) ({ frames := 5, cells := 0, slots := 0, locals := 114 })).room s m ar below meth c H locs 0 0 Q (F0 m 155 ls [])) ?_ (fun j1115 => ?_)
      · skip
        intro H locs hK hP hD hS ls hl
        rw [hQ]
        obtain ⟨hP9, hD9⟩ := nv_sub2 (wc := [(h0, .inr (10, [.ref h1, .ref h2, .ref h3, .ref h4, .ref h5, .ref h6, .int x0, .int b1045, .int 0, .int b1046, .int b1047, .long b1048])), (h6, .inl (y0, 2600, .inl f0)), (h5, .inl (y1, 35, .inr (.inl g0))), (h1, .inl (y2, 2501, .inl b1049)), (h2, .inl (y3, 2501, .inl b1050)), (h3, .inl (y4, 2501, .inl b1051)), (h4, .inl (y5, 2501, .inr (.inl b1052)))]) hP hD [0, 1, 2, 3, 4, 5, 6] (by decide) rfl
        have hK9 := hK.sub (tys' := [(y0, .int), (y1, .long), (y2, .int), (y3, .int), (y4, .int), (y5, .long)]) [0, 1, 2, 3, 4, 5] rfl
        exact W.vret hx hb hr (fun t ht hW => ⟨⟨(b1045, b1046, b1047, b1048, b1049, b1050, b1051, b1052), rfl, ⟨iv_w ib1045 (by decide) (by decide), trivial⟩, by rw [ht]; exact hP9, va_K.moved hW.alike hK9, hD9⟩, hS.F ht⟩) hS.2.2 dX10_scan_155
      refine lv_if_eq (tgt := 155) hx hb dX10_scan_40 (by decide) (fun c1090 => ?_) (fun c1090 => ?_)
      · skip
        subst c1090
        exact j1115 _ _ hK hP hD hS ls (lv_sub hl [] rfl)
      · skip
        have j1116 : iv b1043 1 1 := iv_neLo ib1043 (by decide : iv 0 0 0) c1090 (by decide)
        refine lv_iload hx hb dX10_scan_43 (lv_at hl 0 rfl) ?_
        refine lv_sipush (v := 2501) hx hb dX10_scan_45 (by decide) ?_
        refine lv_icmp_ge (tgt := 155) hx hb dX10_scan_48 (by decide) (fun c1117 => ?_) (fun c1117 => ?_)
        · skip
          have j1118 : iv b1042 2501 2501 := iv_leR (by decide : iv 2501 2501 2501) ib1042 c1117 (by decide)
          exact j1115 _ _ hK hP hD hS ls (lv_sub hl [] rfl)
        · skip
          have j1119 : iv b1042 0 2500 := iv_nleR (by decide : iv 2501 2501 2501) ib1042 c1117 (by decide)
          refine lv_aload_n hx hb dX10_scan_51 rfl (lv_at hl 3 rfl) ?_
          refine lv_iload_n hx hb dX10_scan_52 rfl (lv_at hl 2 rfl) ?_
          obtain ⟨hPc, hDc, hFc⟩ := nv_sub3 (wc := [(h0, .inr (10, [.ref h1, .ref h2, .ref h3, .ref h4, .ref h5, .ref h6, .int x0, .int b1045, .int 0, .int b1046, .int b1047, .long b1048])), (h6, .inl (y0, 2600, .inl f0))]) hP hD hS hA [0, 1] (by decide) rfl
          have hKc := hK.sub (tys' := [(y0, .int)]) [0] rfl
          refine va_calli (va_runV (As := [.int b1044]) (rest := []) ⟨hx, hb, hml, hown, hG⟩ (cX10_passBlanks_1 l dC dI h0 h1 h2 h3 h4 h5 h6 y0 H.size b1044 x0 b1045 0 b1046 b1047 b1048 f0 ix0 ib1045 (iv_w (by decide : iv 0 0 0) (by decide) (by decide))) (cwV 1 hG (gV wd_445 wd_447 wp_2 wd_11 wd_448) rfl rfl rfl (by decide +kernel) ⟨Nat.le_of_ble_eq_true rfl, Nat.le_of_ble_eq_true rfl⟩) ⟨fun a U g mk q => by obtain ⟨q0, q1, qP, qK, qD⟩ := q; exact ⟨q0, q1, qP, va_K.moved (u := U) (U := U.calling g mk a) (Vm.Alike.refl U.vm) qK, qD⟩, va_recv hKc hPc (ci := 10) (q0 := 0) rfl rfl, fun U hU hW => ⟨rfl, by rw [hU], by rw [hU]; exact hPc, va_K.moved hW.alike hKc, hDc.weaken (fun _ _ _ _ => trivial)⟩⟩ rfl rfl hl.1 rfl (lv_room (Nat.le_of_ble_eq_true rfl)) dX10_scan_53 ⟨by decide, by decide⟩) hS (fun q _ h => hFc q h) hFc (fun r1120 u1121 t H1 locs ht hvm hw hB hz1 hk1 hS => ?_)
          obtain ⟨hP1, hK1, hD1⟩ := hB
          rw [ht] at hP1
          have hK1 := va_K.moved hvm.symm hK1
          obtain ⟨hP, hD⟩ := nv_join (wf := [(h5, .inl (y1, 35, .inr (.inl g0))), (h1, .inl (y2, 2501, .inl b1049)), (h2, .inl (y3, 2501, .inl b1050)), (h3, .inl (y4, 2501, .inl b1051)), (h4, .inl (y5, 2501, .inr (.inl b1052))), (h0, .inr (10, [.ref h1, .ref h2, .ref h3, .ref h4, .ref h5, .ref h6, .int x0, .int b1045, .int 0, .int b1046, .int b1047, .long b1048])), (h6, .inl (y0, 2600, .inl f0))]) hP hD [0, 1] [2, 3, 4, 5, 6] rfl rfl (by decide) (by decide) hk1 hFc hP1 hD1 rfl
          have hK := (hK.sub (tys' := [(y1, .long), (y2, .int), (y3, .int), (y4, .int), (y5, .long)]) [1, 2, 3, 4, 5] rfl).app hK1
          generalize H1 = H at hP hS ⊢
          have hK : va_K (dC, dI) vwCl [(y1, .long), (y2, .int), (y3, .int), (y4, .int), (y5, .long), (y0, .int)] s := hK
          refine lv_istore (lv' := [(5, .int r1120), (4, .int b1042), (3, .int b1043), (2, .int b1044), (0, .ref h0)]) hx hb dX10_scan_56 hl (by decide) rfl (fun ls hl => ?_)
          refine lv_aload_n hx hb dX10_scan_58 rfl (lv_at hl 4 rfl) ?_
          refine lv_iload hx hb dX10_scan_59 (lv_at hl 0 rfl) ?_
          refine lv_iload hx hb dX10_scan_61 (lv_at hl 0 rfl) ?_
          refine lv_iload_n hx hb dX10_scan_63 rfl (lv_at hl 3 rfl) ?_
          refine jcut (a := ∀ (b1123 : Int32) (ib1123 : iv b1123 0 1) (H : Heap) (locs : List Loc) (hK : va_K (dC, dI) vwCl [(y1, .long), (y2, .int), (y3, .int), (y4, .int), (y5, .long), (y0, .int)] s) (hP : va_P (dC, dI) vwCl [(h5, .inl (y1, 35, .inr (.inl g0))), (h1, .inl (y2, 2501, .inl b1049)), (h2, .inl (y3, 2501, .inl b1050)), (h3, .inl (y4, 2501, .inl b1051)), (h4, .inl (y5, 2501, .inr (.inl b1052))), (h0, .inr (10, [.ref h1, .ref h2, .ref h3, .ref h4, .ref h5, .ref h6, .int x0, .int b1045, .int 0, .int b1046, .int b1047, .long b1048])), (h6, .inl (y0, 2600, .inl f0))] H) (hD : va_D A [(h5, .inl (y1, 35, .inr (.inl g0))), (h1, .inl (y2, 2501, .inl b1049)), (h2, .inl (y3, 2501, .inl b1050)), (h3, .inl (y4, 2501, .inl b1051)), (h4, .inl (y5, 2501, .inr (.inl b1052))), (h0, .inr (10, [.ref h1, .ref h2, .ref h3, .ref h4, .ref h5, .ref h6, .int x0, .int b1045, .int 0, .int b1046, .int b1047, .long b1048])), (h6, .inl (y0, 2600, .inl f0))]) (hS : va_S A s.heap H locs) (ls : Array Slot) (hl : lv_has ls 6 [(5, .int r1120), (4, .int b1042), (0, .ref h0)]), W p l e (headSpec (Cond.code yX10_scan cX10_scan 6 none :: lw_G) ({ frames := 5, cells := 0, slots := 0, locals := 114 })).room s m ar below meth c H locs 0 0 Q (F0 m 72 ls [.int b1123, .int r1120, .ref h0])) ?_ (fun j1124 => ?_)
          · skip
            intro b1123 ib1123 H locs hK hP hD hS ls hl
            obtain ⟨hPc, hDc, hFc⟩ := nv_sub3 (wc := [(h0, .inr (10, [.ref h1, .ref h2, .ref h3, .ref h4, .ref h5, .ref h6, .int x0, .int b1045, .int 0, .int b1046, .int b1047, .long b1048])), (h6, .inl (y0, 2600, .inl f0)), (h5, .inl (y1, 35, .inr (.inl g0)))]) hP hD hS hA [5, 6, 0] (by decide) rfl
            have hKc := hK.sub (tys' := [(y0, .int), (y1, .long)]) [5, 0] rfl
            refine va_calli (va_runV (As := [.int r1120, .int b1123]) (rest := []) ⟨hx, hb, hml, hown, hG⟩ (cX10_scanOne_1 l dC dI adK adV h0 h1 h2 h3 h4 h5 h6 y0 y1 H.size r1120 b1123 x0 b1045 0 b1046 b1047 b1048 f0 g0 ib1123 ix0 ib1045 (iv_w (by decide : iv 0 0 0) (by decide) (by decide))) (cwV 2 hG (gV wd_453 wd_455 wp_4 wd_11 wd_456) rfl rfl rfl (by decide +kernel) ⟨Nat.le_of_ble_eq_true rfl, Nat.le_of_ble_eq_true rfl⟩) ⟨fun a U g mk q => by obtain ⟨q0, q1, qP, qK, qD, qE⟩ := q; exact ⟨q0, q1, qP, va_K.moved (u := U) (U := U.calling g mk a) (Vm.Alike.refl U.vm) qK, qD, qE.same rfl⟩, va_recv hKc hPc (ci := 10) (q0 := 0) rfl rfl, fun U hU hW => ⟨rfl, by rw [hU], by rw [hU]; exact hPc, va_K.moved hW.alike hKc, hDc.weaken (fun _ _ _ _ => trivial), by rw [hU]; exact ((hE.kept hS.2.1).narrow hFc).warm hW⟩⟩ rfl rfl hl.1 rfl (lv_room (Nat.le_of_ble_eq_true rfl)) dX10_scan_72 ⟨by decide, by decide⟩) hS (fun q _ h => hFc q h) hFc (fun r1125 u1126 t H1 locs ht hvm hw hB hz1 hk1 hS => ?_)
            obtain ⟨u1126_0, u1126_1, u1126_2⟩ := u1126
            obtain ⟨hP1, hK1, hD1⟩ := hB
            rw [ht] at hP1
            have hK1 := va_K.moved hvm.symm hK1
            obtain ⟨hP, hD⟩ := nv_join (wf := [(h1, .inl (y2, 2501, .inl b1049)), (h2, .inl (y3, 2501, .inl b1050)), (h3, .inl (y4, 2501, .inl b1051)), (h4, .inl (y5, 2501, .inr (.inl b1052))), (h0, .inr (10, [.ref h1, .ref h2, .ref h3, .ref h4, .ref h5, .ref h6, .int x0, .int b1045, .int 0, .int u1126_0, .int u1126_1, .long u1126_2])), (h6, .inl (y0, 2600, .inl f0)), (h5, .inl (y1, 35, .inr (.inl g0)))]) hP hD [5, 6, 0] [1, 2, 3, 4] rfl rfl (by decide) (by decide) hk1 hFc hP1 hD1 rfl
            have hK := (hK.sub (tys' := [(y2, .int), (y3, .int), (y4, .int), (y5, .long)]) [1, 2, 3, 4] rfl).app hK1
            generalize H1 = H at hP hS ⊢
            have hK : va_K (dC, dI) vwCl [(y2, .int), (y3, .int), (y4, .int), (y5, .long), (y0, .int), (y1, .long)] s := hK
            refine lv_istore_n (lv' := [(2, .int r1125), (5, .int r1120), (4, .int b1042), (0, .ref h0)]) hx hb dX10_scan_75 rfl hl (by decide) rfl (fun ls hl => ?_)
            refine lv_aload_n hx hb dX10_scan_76 rfl (lv_at hl 3 rfl) ?_
            refine va_get (D := (dC, dI)) (ci := 10) (v := .ref h1) (C := RX10) (T := TX10) (N := 12) hx hb hG inGX10 hown hK hP 4 rfl rfl 0 (by decide) (hG _ wd_283) (fun _ h9 => h9) rfl dX10_scan_77 ?_
            refine lv_iload hx hb dX10_scan_80 (lv_at hl 2 rfl) ?_
            refine lv_aload_n hx hb dX10_scan_82 rfl (lv_at hl 3 rfl) ?_
            refine va_get (D := (dC, dI)) (ci := 10) (v := .int u1126_0) (C := RX10) (T := TX10) (N := 12) hx hb hG inGX10 hown hK hP 4 rfl rfl 9 (by decide) (hG _ wd_292) (fun _ h9 => h9) rfl dX10_scan_83 ?_
            refine va_iast hx hb hK hP hD hS 0 0 rfl rfl (iv_in j1119 (by decide) (by decide) : vp_in b1042 2501) dX10_scan_86 (fun H locs hP hD hS => ?_)
            obtain ⟨nf1127, enf1127⟩ : ∃ z, z = upd b1049 b1042.toNatClampNeg u1126_0 := ⟨_, rfl⟩
            obtain ⟨hP, hD⟩ := nv_eq (ws' := [(h1, .inl (y2, 2501, .inl nf1127)), (h2, .inl (y3, 2501, .inl b1050)), (h3, .inl (y4, 2501, .inl b1051)), (h4, .inl (y5, 2501, .inr (.inl b1052))), (h0, .inr (10, [.ref h1, .ref h2, .ref h3, .ref h4, .ref h5, .ref h6, .int x0, .int b1045, .int 0, .int u1126_0, .int u1126_1, .long u1126_2])), (h6, .inl (y0, 2600, .inl f0)), (h5, .inl (y1, 35, .inr (.inl g0)))]) hP hD (by subst enf1127; rfl)
            refine lv_aload_n hx hb dX10_scan_87 rfl (lv_at hl 3 rfl) ?_
            refine va_get (D := (dC, dI)) (ci := 10) (v := .ref h2) (C := RX10) (T := TX10) (N := 12) hx hb hG inGX10 hown hK hP 4 rfl rfl 1 (by decide) (hG _ wd_284) (fun _ h9 => h9) rfl dX10_scan_88 ?_
            refine lv_iload hx hb dX10_scan_91 (lv_at hl 2 rfl) ?_
            refine lv_iload hx hb dX10_scan_93 (lv_at hl 1 rfl) ?_
            refine va_iast hx hb hK hP hD hS 1 1 rfl rfl (iv_in j1119 (by decide) (by decide) : vp_in b1042 2501) dX10_scan_95 (fun H locs hP hD hS => ?_)
            obtain ⟨nf1128, enf1128⟩ : ∃ z, z = upd b1050 b1042.toNatClampNeg r1120 := ⟨_, rfl⟩
            obtain ⟨hP, hD⟩ := nv_eq (ws' := [(h1, .inl (y2, 2501, .inl nf1127)), (h2, .inl (y3, 2501, .inl nf1128)), (h3, .inl (y4, 2501, .inl b1051)), (h4, .inl (y5, 2501, .inr (.inl b1052))), (h0, .inr (10, [.ref h1, .ref h2, .ref h3, .ref h4, .ref h5, .ref h6, .int x0, .int b1045, .int 0, .int u1126_0, .int u1126_1, .long u1126_2])), (h6, .inl (y0, 2600, .inl f0)), (h5, .inl (y1, 35, .inr (.inl g0)))]) hP hD (by subst enf1128; rfl)
            refine lv_aload_n hx hb dX10_scan_96 rfl (lv_at hl 3 rfl) ?_
            refine va_get (D := (dC, dI)) (ci := 10) (v := .ref h3) (C := RX10) (T := TX10) (N := 12) hx hb hG inGX10 hown hK hP 4 rfl rfl 2 (by decide) (hG _ wd_285) (fun _ h9 => h9) rfl dX10_scan_97 ?_
            refine lv_iload hx hb dX10_scan_100 (lv_at hl 2 rfl) ?_
            refine lv_aload_n hx hb dX10_scan_102 rfl (lv_at hl 3 rfl) ?_
            refine va_get (D := (dC, dI)) (ci := 10) (v := .int u1126_1) (C := RX10) (T := TX10) (N := 12) hx hb hG inGX10 hown hK hP 4 rfl rfl 10 (by decide) (hG _ wd_293) (fun _ h9 => h9) rfl dX10_scan_103 ?_
            refine va_iast hx hb hK hP hD hS 2 2 rfl rfl (iv_in j1119 (by decide) (by decide) : vp_in b1042 2501) dX10_scan_106 (fun H locs hP hD hS => ?_)
            obtain ⟨nf1129, enf1129⟩ : ∃ z, z = upd b1051 b1042.toNatClampNeg u1126_1 := ⟨_, rfl⟩
            obtain ⟨hP, hD⟩ := nv_eq (ws' := [(h1, .inl (y2, 2501, .inl nf1127)), (h2, .inl (y3, 2501, .inl nf1128)), (h3, .inl (y4, 2501, .inl nf1129)), (h4, .inl (y5, 2501, .inr (.inl b1052))), (h0, .inr (10, [.ref h1, .ref h2, .ref h3, .ref h4, .ref h5, .ref h6, .int x0, .int b1045, .int 0, .int u1126_0, .int u1126_1, .long u1126_2])), (h6, .inl (y0, 2600, .inl f0)), (h5, .inl (y1, 35, .inr (.inl g0)))]) hP hD (by subst enf1129; rfl)
            refine lv_aload_n hx hb dX10_scan_107 rfl (lv_at hl 3 rfl) ?_
            refine va_get (D := (dC, dI)) (ci := 10) (v := .ref h4) (C := RX10) (T := TX10) (N := 12) hx hb hG inGX10 hown hK hP 4 rfl rfl 3 (by decide) (hG _ wd_286) (fun _ h9 => h9) rfl dX10_scan_108 ?_
            refine lv_iload hx hb dX10_scan_111 (lv_at hl 2 rfl) ?_
            refine lv_aload_n hx hb dX10_scan_113 rfl (lv_at hl 3 rfl) ?_
            refine va_get (D := (dC, dI)) (ci := 10) (v := .long u1126_2) (C := RX10) (T := TX10) (N := 12) hx hb hG inGX10 hown hK hP 4 rfl rfl 11 (by decide) (hG _ wd_294) (fun _ h9 => h9) rfl dX10_scan_114 ?_
            refine va_last hx hb hK hP hD hS 3 3 rfl rfl (iv_in j1119 (by decide) (by decide) : vp_in b1042 2501) dX10_scan_117 (fun H locs hP hD hS => ?_)
            obtain ⟨nf1130, enf1130⟩ : ∃ z, z = vp_updL b1052 b1042.toNatClampNeg u1126_2 := ⟨_, rfl⟩
            obtain ⟨hP, hD⟩ := nv_eq (ws' := [(h1, .inl (y2, 2501, .inl nf1127)), (h2, .inl (y3, 2501, .inl nf1128)), (h3, .inl (y4, 2501, .inl nf1129)), (h4, .inl (y5, 2501, .inr (.inl nf1130))), (h0, .inr (10, [.ref h1, .ref h2, .ref h3, .ref h4, .ref h5, .ref h6, .int x0, .int b1045, .int 0, .int u1126_0, .int u1126_1, .long u1126_2])), (h6, .inl (y0, 2600, .inl f0)), (h5, .inl (y1, 35, .inr (.inl g0)))]) hP hD (by subst enf1130; rfl)
            refine lv_aload_n hx hb dX10_scan_118 rfl (lv_at hl 3 rfl) ?_
            refine va_get (D := (dC, dI)) (ci := 10) (v := .int u1126_0) (C := RX10) (T := TX10) (N := 12) hx hb hG inGX10 hown hK hP 4 rfl rfl 9 (by decide) (hG _ wd_292) (fun _ h9 => h9) rfl dX10_scan_119 ?_
            refine lv_iconst (v := 1) hx hb dX10_scan_122 (by decide) ?_
            refine jcut (a := ∀ (b1137 : Int32) (b1138 : Int32) (ib1137 : iv b1137 0 1) (H : Heap) (locs : List Loc) (hK : va_K (dC, dI) vwCl [(y2, .int), (y3, .int), (y4, .int), (y5, .long), (y0, .int), (y1, .long)] s) (hP : va_P (dC, dI) vwCl [(h1, .inl (y2, 2501, .inl nf1127)), (h2, .inl (y3, 2501, .inl nf1128)), (h3, .inl (y4, 2501, .inl nf1129)), (h4, .inl (y5, 2501, .inr (.inl nf1130))), (h0, .inr (10, [.ref h1, .ref h2, .ref h3, .ref h4, .ref h5, .ref h6, .int x0, .int b1045, .int 0, .int b1138, .int u1126_1, .long u1126_2])), (h6, .inl (y0, 2600, .inl f0)), (h5, .inl (y1, 35, .inr (.inl g0)))] H) (hD : va_D A [(h1, .inl (y2, 2501, .inl nf1127)), (h2, .inl (y3, 2501, .inl nf1128)), (h3, .inl (y4, 2501, .inl nf1129)), (h4, .inl (y5, 2501, .inr (.inl nf1130))), (h0, .inr (10, [.ref h1, .ref h2, .ref h3, .ref h4, .ref h5, .ref h6, .int x0, .int b1045, .int 0, .int b1138, .int u1126_1, .long u1126_2])), (h6, .inl (y0, 2600, .inl f0)), (h5, .inl (y1, 35, .inr (.inl g0)))]) (hS : va_S A s.heap H locs) (ls : Array Slot) (hl : lv_has ls 6 [(2, .int r1125), (4, .int b1042), (0, .ref h0)]), W p l e (headSpec (Cond.code yX10_scan cX10_scan 6 none :: lw_G) ({ frames := 5, cells := 0, slots := 0, locals := 114 })).room s m ar below meth c H locs 0 0 Q (F0 m 140 ls [.int b1137])) ?_ (fun j1139 => ?_)
            · skip
              intro b1137 b1138 ib1137 H locs hK hP hD hS ls hl
              refine lv_istore_n (lv' := [(3, .int b1137), (2, .int r1125), (4, .int b1042), (0, .ref h0)]) hx hb dX10_scan_140 rfl hl (by decide) rfl (fun ls hl => ?_)
              refine lv_aload_n hx hb dX10_scan_141 rfl (lv_at hl 3 rfl) ?_
              refine lv_iload hx hb dX10_scan_142 (lv_at hl 2 rfl) ?_
              refine lv_iconst (v := 1) hx hb dX10_scan_144 (by decide) ?_
              refine lv_iadd hx hb dX10_scan_145 ?_
              refine lv_topi (fun v1140 ev1140 => ?_)
              have iv1140 : iv v1140 1 2501 := iv_eq ev1140 (iv_add j1119 (by decide : iv 1 1 1) (by decide) (by decide))
              have tv1140 : v1140.toInt = b1042.toInt + 1 := iv_addT ev1140 j1119 (by decide) (by decide) (by decide)
              refine va_put (D := (dC, dI)) (ci := 10) (v := .int v1140) (ty := .int) (C := RX10) (T := TX10) (N := 12) hx hb hG inGX10 tyX10 tyX10_ok nmX10 hown hK hP hD hS 4 rfl rfl 7 (by decide) (hG _ wd_290) (fun _ h9 => h9) rfl (by decide +kernel) rfl rfl (Nat.le_of_ble_eq_true rfl) dX10_scan_146 (fun H locs hP hD hS => ?_)
              obtain ⟨hP, hD⟩ := nv_eq (ws' := [(h1, .inl (y2, 2501, .inl nf1127)), (h2, .inl (y3, 2501, .inl nf1128)), (h3, .inl (y4, 2501, .inl nf1129)), (h4, .inl (y5, 2501, .inr (.inl nf1130))), (h0, .inr (10, [.ref h1, .ref h2, .ref h3, .ref h4, .ref h5, .ref h6, .int x0, .int v1140, .int 0, .int b1138, .int u1126_1, .long u1126_2])), (h6, .inl (y0, 2600, .inl f0)), (h5, .inl (y1, 35, .inr (.inl g0)))]) hP hD rfl
              obtain ⟨v1141, ev1141⟩ : ∃ y : Int32, y = b1042 + Int32.ofInt 1 := ⟨_, rfl⟩
              have iv1141 : iv v1141 1 2501 := iv_eq ev1141 (iv_add j1119 (by decide : iv (Int32.ofInt 1) 1 1) (by decide) (by decide))
              have tv1141 : v1141.toInt = b1042.toInt + 1 := iv_addT ev1141 j1119 (by decide) (by decide) (by decide)
              refine lv_iinc (v := v1141) (lv' := [(4, .int v1141), (3, .int b1137), (2, .int r1125), (0, .ref h0)]) hx hb dX10_scan_149 hl (k := 2) rfl ev1141.symm (by decide) rfl (fun ls hl => ?_)
              refine lv_goto (tgt := 39) hx hb dX10_scan_152 (by decide) ?_
              exact ih v1141 b1137 r1125 v1140 b1138 u1126_1 u1126_2 nf1127 nf1128 nf1129 nf1130 (iv_w iv1141 (by decide) (by decide)) ib1137 (iv_w iv1140 (by decide) (by decide)) (by omega) _ _ (hK.sub (tys' := _) [4, 5, 0, 1, 2, 3] rfl) (hP.sub (ws' := _) [4, 5, 6, 0, 1, 2, 3] rfl) (hD.sub (ws' := _) [4, 5, 6, 0, 1, 2, 3] (by decide) rfl) hS ls hl
            refine lv_icmp_eq (tgt := 139) hx hb dX10_scan_123 (by decide) (fun c1131 => ?_) (fun c1131 => ?_)
            · skip
              subst c1131
              refine lv_iconst (v := 0) hx hb dX10_scan_139 (by decide) ?_
              exact j1139 0 1 (iv_w (by decide : iv 0 0 0) (by decide) (by decide)) _ _ hK hP hD hS ls (lv_sub hl [0, 2, 3] rfl)
            · skip
              refine lv_iload hx hb dX10_scan_126 (lv_at hl 1 rfl) ?_
              refine lv_aload_n hx hb dX10_scan_128 rfl (lv_at hl 3 rfl) ?_
              refine va_get (D := (dC, dI)) (ci := 10) (v := .int x0) (C := RX10) (T := TX10) (N := 12) hx hb hG inGX10 hown hK hP 4 rfl rfl 6 (by decide) (hG _ wd_289) (fun _ h9 => h9) rfl dX10_scan_129 ?_
              refine lv_icmp_ge (tgt := 139) hx hb dX10_scan_132 (by decide) (fun c1142 => ?_) (fun c1142 => ?_)
              · skip
                have rl1143 : x0.toInt ≤ r1120.toInt := Int32.le_iff_toInt_le.mp c1142
                have j1144 : iv r1120 0 2147483647 := iv_leR ix0 (iv_any r1120) c1142 (by decide)
                refine lv_iconst (v := 0) hx hb dX10_scan_139 (by decide) ?_
                exact j1139 0 u1126_0 (iv_w (by decide : iv 0 0 0) (by decide) (by decide)) _ _ hK hP hD hS ls (lv_sub hl [0, 2, 3] rfl)
              · skip
                have rl1145 : r1120.toInt < x0.toInt := iv_nle2 c1142
                have j1146 : iv r1120 (-2147483648) 2599 := iv_nleR ix0 (iv_any r1120) c1142 (by decide)
                refine lv_iconst (v := 1) hx hb dX10_scan_135 (by decide) ?_
                refine lv_goto (tgt := 140) hx hb dX10_scan_136 (by decide) ?_
                exact j1139 1 u1126_0 (iv_w (by decide : iv 1 1 1) (by decide) (by decide)) _ _ hK hP hD hS ls (lv_sub hl [0, 2, 3] rfl)
          refine lv_icmp_ne (tgt := 71) hx hb dX10_scan_64 (by decide) (fun c1122 => ?_) (fun c1122 => ?_)
          · skip
            refine lv_iconst (v := 0) hx hb dX10_scan_71 (by decide) ?_
            exact j1124 0 (iv_w (by decide : iv 0 0 0) (by decide) (by decide)) _ _ hK hP hD hS ls (lv_sub hl [0, 1, 4] rfl)
          · skip
            refine lv_iconst (v := 1) hx hb dX10_scan_67 (by decide) ?_
            refine lv_goto (tgt := 72) hx hb dX10_scan_68 (by decide) ?_
            exact j1124 1 (iv_w (by decide : iv 1 1 1) (by decide) (by decide)) _ _ hK hP hD hS ls (lv_sub hl [0, 1, 4] rfl)
  exact lp1089 _ 0 1 0 0 x4 x5 z0 f1 f2 f3 g1 (iv_w (by decide : iv 0 0 0) (by decide) (by decide)) (iv_w (by decide : iv 1 1 1) (by decide) (by decide)) (iv_w (by decide : iv 0 0 0) (by decide) (by decide)) (Nat.lt_succ_self _) _ _ hK hP hD hS ls (lv_sub hl [0, 1, 2, 3] rfl)
set_option maxHeartbeats 100000000 in
set_option maxRecDepth 100000 in
theorem cX4_clear_1 (l : Launch) (dC : Nat → ClassId) (dI : Nat → Nat → Nat) (h0 h1 h2 h3 : Nat) (sz : Nat) (x0 : Int32) (ix0 : iv x0 0 60) : Met l yX4_clear (Cond.code yX4_clear cX4_clear 1 none :: lw_G) ({ frames := 0, cells := 0, slots := 0, locals := 0 }) (va_Pc [.ref h0] (fun U => U.heap.size = sz ∧ va_P (dC, dI) vwCl [(h0, .inr (4, [.ref h1, .ref h2, .ref h3, .int x0]))] U.heap ∧ va_K (dC, dI) vwCl [] U ∧ va_D (fun _ => True) [(h0, .inr (4, [.ref h1, .ref h2, .ref h3, .int x0]))])) (va_Qv (fun (u : Unit) => True) (fun (u : Unit) (t : State) => va_P (dC, dI) vwCl [(h0, .inr (4, [.ref h1, .ref h2, .ref h3, .int 0]))] t.heap ∧ va_K (dC, dI) vwCl [] t ∧ va_D (va_A [(h0, .inr (4, [.ref h1, .ref h2, .ref h3, .int x0]))] sz) [(h0, .inr (4, [.ref h1, .ref h2, .ref h3, .int 0]))]) (va_A [(h0, .inr (4, [.ref h1, .ref h2, .ref h3, .int x0]))] sz)) 0 0 (va_A [(h0, .inr (4, [.ref h1, .ref h2, .ref h3, .int x0]))] sz) := by
  refine Met.ofW (cc := cX4_clear) (maxL := 1) (ret := none) (by decide) rfl ?_
  intro p e s m args below meth c s₁ B hml hv
  obtain ⟨rfl, hsz, hP, hK, hD0⟩ := hv
  have hx := B.exec
  have hb := B.bytes
  have hr := B.returns
  have hts0 := atoms_spec (ws := Cond.code yX4_clear cX4_clear 1 none :: lw_G) B.pre
  have hG : ∀ w ∈ lw_G, w.before _ s = true := fun w h => hts0 w (List.mem_cons_of_mem _ h)
  have hown : s.vm.findClass RX4 = some m.cls := findClass_of_methodNamed B.named
  have hlocks := B.notSynchronized
  subst hsz
  have hD := hD0.self (sz := s.heap.size)
  generalize hAe : va_A [(h0, .inr (4, [.ref h1, .ref h2, .ref h3, .int x0]))] s.heap.size = A at hD ⊢
  have hA : ∀ q : Nat, s.heap.size ≤ q → A q := fun q h => by rw [← hAe]; exact Or.inr h
  have hS : va_S A s.heap s.heap [] := va_S.rf
  have hP : va_P (dC, dI) vwCl [(h0, .inr (4, [.ref h1, .ref h2, .ref h3, .int x0]))] s.heap := hP
  have hl := lv_entry ([.ref h0]) (n := 1) (Nat.le_of_ble_eq_true rfl)
  rw [lg_entry_eq]
  generalize (lg_sl ([.ref h0]) ++ List.replicate (1 - (lg_sl ([.ref h0])).length) Slot.unset).toArray = ls at hl ⊢
  have hl : lv_has ls 1 [(0, .ref h0)] := hl
  generalize ([.ref h0] : List Value).toArray = ar at hG ⊢
  refine wq (fun Q hQ => ?_)
  refine lv_aload_n hx hb dX4_clear_0 rfl (lv_at hl 0 rfl) ?_
  refine lv_iconst (v := 0) hx hb dX4_clear_1 (by decide) ?_
  refine va_put (D := (dC, dI)) (ci := 4) (v := .int 0) (ty := .int) (C := RX4) (T := TX4) (N := 4) hx hb hG inGX4 tyX4 tyX4_ok nmX4 hown hK hP hD hS 0 rfl rfl 3 (by decide) (hG _ wd_211) (fun _ h9 => h9) rfl (by decide +kernel) rfl rfl (Nat.le_of_ble_eq_true rfl) dX4_clear_2 (fun H locs hP hD hS => ?_)
  obtain ⟨hP, hD⟩ := nv_eq (ws' := [(h0, .inr (4, [.ref h1, .ref h2, .ref h3, .int 0]))]) hP hD rfl
  rw [hQ]
  obtain ⟨hP9, hD9⟩ := nv_sub2 (wc := [(h0, .inr (4, [.ref h1, .ref h2, .ref h3, .int 0]))]) hP hD [0] (by decide) rfl
  have hK9 := hK.sub (tys' := []) [] rfl
  exact W.vret hx hb hr (fun t ht hW => ⟨⟨(), rfl, trivial, by rw [ht]; exact hP9, va_K.moved hW.alike hK9, hD9⟩, hS.F ht⟩) hS.2.2 dX4_clear_5
set_option maxHeartbeats 100000000 in
set_option maxRecDepth 100000 in
theorem cX0_fail_1 (l : Launch) (dC : Nat → ClassId) (dI : Nat → Nat → Nat) (h0 h1 h2 h3 h4 h5 h6 h7 : Nat) (sz : Nat) (x0 x1 x2 x3 x4 x5 x6 x7 x8 x9 x10 x11 : Int32) (ix2 : iv x2 0 2600) (ix3 : iv x3 0 1) (ix9 : iv x9 0 1) : Met l yX0_fail (Cond.code yX0_fail cX0_fail 3 (some .boolean) :: lw_G) ({ frames := 0, cells := 0, slots := 0, locals := 0 }) (va_Pc [.ref h0, .int x0, .int x1] (fun U => U.heap.size = sz ∧ va_P (dC, dI) vwCl [(h0, .inr (0, [.ref h1, .ref h2, .ref h3, .ref h4, .ref h5, .ref h6, .ref h7, .int x2, .int x3, .int x4, .int x5, .int x6, .int x7, .int x8, .int x9, .int x10, .int x11]))] U.heap ∧ va_K (dC, dI) vwCl [] U ∧ va_D (fun _ => True) [(h0, .inr (0, [.ref h1, .ref h2, .ref h3, .ref h4, .ref h5, .ref h6, .ref h7, .int x2, .int x3, .int x4, .int x5, .int x6, .int x7, .int x8, .int x9, .int x10, .int x11]))])) (va_Qi (fun (r : Int32) (u : Unit) => r = 0 ∧ True) (fun (u : Unit) (t : State) => va_P (dC, dI) vwCl [(h0, .inr (0, [.ref h1, .ref h2, .ref h3, .ref h4, .ref h5, .ref h6, .ref h7, .int x2, .int x3, .int x4, .int x5, .int x6, .int x7, .int x8, .int x9, .int x0, .int x1]))] t.heap ∧ va_K (dC, dI) vwCl [] t ∧ va_D (va_A [(h0, .inr (0, [.ref h1, .ref h2, .ref h3, .ref h4, .ref h5, .ref h6, .ref h7, .int x2, .int x3, .int x4, .int x5, .int x6, .int x7, .int x8, .int x9, .int x10, .int x11]))] sz) [(h0, .inr (0, [.ref h1, .ref h2, .ref h3, .ref h4, .ref h5, .ref h6, .ref h7, .int x2, .int x3, .int x4, .int x5, .int x6, .int x7, .int x8, .int x9, .int x0, .int x1]))]) (va_A [(h0, .inr (0, [.ref h1, .ref h2, .ref h3, .ref h4, .ref h5, .ref h6, .ref h7, .int x2, .int x3, .int x4, .int x5, .int x6, .int x7, .int x8, .int x9, .int x10, .int x11]))] sz)) 0 0 (va_A [(h0, .inr (0, [.ref h1, .ref h2, .ref h3, .ref h4, .ref h5, .ref h6, .ref h7, .int x2, .int x3, .int x4, .int x5, .int x6, .int x7, .int x8, .int x9, .int x10, .int x11]))] sz) := by
  refine Met.ofW (cc := cX0_fail) (maxL := 3) (ret := (some .boolean)) (by decide) rfl ?_
  intro p e s m args below meth c s₁ B hml hv
  obtain ⟨rfl, hsz, hP, hK, hD0⟩ := hv
  have hx := B.exec
  have hb := B.bytes
  have hr := B.returns
  have hts0 := atoms_spec (ws := Cond.code yX0_fail cX0_fail 3 (some .boolean) :: lw_G) B.pre
  have hG : ∀ w ∈ lw_G, w.before _ s = true := fun w h => hts0 w (List.mem_cons_of_mem _ h)
  have hown : s.vm.findClass RX0 = some m.cls := findClass_of_methodNamed B.named
  have hlocks := B.notSynchronized
  subst hsz
  have hD := hD0.self (sz := s.heap.size)
  generalize hAe : va_A [(h0, .inr (0, [.ref h1, .ref h2, .ref h3, .ref h4, .ref h5, .ref h6, .ref h7, .int x2, .int x3, .int x4, .int x5, .int x6, .int x7, .int x8, .int x9, .int x10, .int x11]))] s.heap.size = A at hD ⊢
  have hA : ∀ q : Nat, s.heap.size ≤ q → A q := fun q h => by rw [← hAe]; exact Or.inr h
  have hS : va_S A s.heap s.heap [] := va_S.rf
  have hP : va_P (dC, dI) vwCl [(h0, .inr (0, [.ref h1, .ref h2, .ref h3, .ref h4, .ref h5, .ref h6, .ref h7, .int x2, .int x3, .int x4, .int x5, .int x6, .int x7, .int x8, .int x9, .int x10, .int x11]))] s.heap := hP
  have hl := lv_entry ([.ref h0, .int x0, .int x1]) (n := 3) (Nat.le_of_ble_eq_true rfl)
  rw [lg_entry_eq]
  generalize (lg_sl ([.ref h0, .int x0, .int x1]) ++ List.replicate (3 - (lg_sl ([.ref h0, .int x0, .int x1])).length) Slot.unset).toArray = ls at hl ⊢
  have hl : lv_has ls 3 [(0, .ref h0), (1, .int x0), (2, .int x1)] := hl
  generalize ([.ref h0, .int x0, .int x1] : List Value).toArray = ar at hG ⊢
  refine wq (fun Q hQ => ?_)
  refine lv_aload_n hx hb dX0_fail_0 rfl (lv_at hl 0 rfl) ?_
  refine lv_iload_n hx hb dX0_fail_1 rfl (lv_at hl 1 rfl) ?_
  refine va_put (D := (dC, dI)) (ci := 0) (v := .int x0) (ty := .int) (C := RX0) (T := TX0) (N := 17) hx hb hG inGX0 tyX0 tyX0_ok nmX0 hown hK hP hD hS 0 rfl rfl 15 (by decide) (hG _ wd_336) (fun _ h9 => h9) rfl (by decide +kernel) rfl rfl (Nat.le_of_ble_eq_true rfl) dX0_fail_2 (fun H locs hP hD hS => ?_)
  obtain ⟨hP, hD⟩ := nv_eq (ws' := [(h0, .inr (0, [.ref h1, .ref h2, .ref h3, .ref h4, .ref h5, .ref h6, .ref h7, .int x2, .int x3, .int x4, .int x5, .int x6, .int x7, .int x8, .int x9, .int x0, .int x11]))]) hP hD rfl
  refine lv_aload_n hx hb dX0_fail_5 rfl (lv_at hl 0 rfl) ?_
  refine lv_iload_n hx hb dX0_fail_6 rfl (lv_at hl 2 rfl) ?_
  refine va_put (D := (dC, dI)) (ci := 0) (v := .int x1) (ty := .int) (C := RX0) (T := TX0) (N := 17) hx hb hG inGX0 tyX0 tyX0_ok nmX0 hown hK hP hD hS 0 rfl rfl 16 (by decide) (hG _ wd_337) (fun _ h9 => h9) rfl (by decide +kernel) rfl rfl (Nat.le_of_ble_eq_true rfl) dX0_fail_7 (fun H locs hP hD hS => ?_)
  obtain ⟨hP, hD⟩ := nv_eq (ws' := [(h0, .inr (0, [.ref h1, .ref h2, .ref h3, .ref h4, .ref h5, .ref h6, .ref h7, .int x2, .int x3, .int x4, .int x5, .int x6, .int x7, .int x8, .int x9, .int x0, .int x1]))]) hP hD rfl
  refine lv_iconst (v := 0) hx hb dX0_fail_10 (by decide) ?_
  rw [hQ]
  obtain ⟨hP9, hD9⟩ := nv_sub2 (wc := [(h0, .inr (0, [.ref h1, .ref h2, .ref h3, .ref h4, .ref h5, .ref h6, .ref h7, .int x2, .int x3, .int x4, .int x5, .int x6, .int x7, .int x8, .int x9, .int x0, .int x1]))]) hP hD [0] (by decide) rfl
  have hK9 := hK.sub (tys' := []) [] rfl
  exact W.zret (v := 0) hx hb hr rfl (fun t ht hW => ⟨⟨0, (), rfl, ⟨rfl, trivial⟩, by rw [ht]; exact hP9, va_K.moved hW.alike hK9, hD9⟩, hS.F ht⟩) hS.2.2 dX0_fail_11
set_option maxHeartbeats 100000000 in
set_option maxRecDepth 100000 in
theorem cX0_open_1 (l : Launch) (dC : Nat → ClassId) (dI : Nat → Nat → Nat) (adK adV : Nat → Nat) (h0 h1 h2 h3 h4 h5 h6 h7 h8 h9 h10 h11 h12 h13 h14 h15 h16 : Nat) (y0 y1 y2 y3 y4 y5 : ClassId) (sz : Nat) (x0 x1 x2 x3 x4 x5 x6 x7 x8 x9 x10 x11 x12 x13 x14 x15 x16 : Int32) (z0 : Int64) (f0 f1 f2 f3 : Nat → Int32) (g0 g1 : Nat → Int64) (ix0 : iv x0 0 2600) (ix1 : iv x1 0 2600) (ix2 : iv x2 0 1) (ix8 : iv x8 0 1) (ix11 : iv x11 0 2600) (ix12 : iv x12 0 2501) (ix13 : iv x13 0 2500) (ix16 : iv x16 0 60) : Met l yX0_open (Cond.code yX0_open cX0_open 2 (some .boolean) :: lw_G) ({ frames := 6, cells := 0, slots := 0, locals := 139 }) (va_Pc [.ref h0, .int x0] (fun U => U.heap.size = sz ∧ va_P (dC, dI) vwCl [(h0, .inr (0, [.ref h1, .ref h2, .ref h3, .ref h4, .ref h5, .ref h6, .ref h7, .int x1, .int x2, .int x3, .int x4, .int x5, .int x6, .int x7, .int x8, .int x9, .int x10])), (h1, .inr (10, [.ref h8, .ref h9, .ref h10, .ref h11, .ref h12, .ref h13, .int x11, .int x12, .int x13, .int x14, .int x15, .long z0])), (h13, .inl (y0, 2600, .inl f0)), (h12, .inl (y1, 35, .inr (.inl g0))), (h8, .inl (y2, 2501, .inl f1)), (h9, .inl (y3, 2501, .inl f2)), (h10, .inl (y4, 2501, .inl f3)), (h11, .inl (y5, 2501, .inr (.inl g1))), (h6, .inr (4, [.ref h14, .ref h15, .ref h16, .int x16]))] U.heap ∧ va_K (dC, dI) vwCl [(y0, .int), (y1, .long), (y2, .int), (y3, .int), (y4, .int), (y5, .long)] U ∧ va_D (fun _ => True) [(h0, .inr (0, [.ref h1, .ref h2, .ref h3, .ref h4, .ref h5, .ref h6, .ref h7, .int x1, .int x2, .int x3, .int x4, .int x5, .int x6, .int x7, .int x8, .int x9, .int x10])), (h1, .inr (10, [.ref h8, .ref h9, .ref h10, .ref h11, .ref h12, .ref h13, .int x11, .int x12, .int x13, .int x14, .int x15, .long z0])), (h13, .inl (y0, 2600, .inl f0)), (h12, .inl (y1, 35, .inr (.inl g0))), (h8, .inl (y2, 2501, .inl f1)), (h9, .inl (y3, 2501, .inl f2)), (h10, .inl (y4, 2501, .inl f3)), (h11, .inl (y5, 2501, .inr (.inl g1))), (h6, .inr (4, [.ref h14, .ref h15, .ref h16, .int x16]))] ∧ ev adK adV (va_A [(h0, .inr (0, [.ref h1, .ref h2, .ref h3, .ref h4, .ref h5, .ref h6, .ref h7, .int x1, .int x2, .int x3, .int x4, .int x5, .int x6, .int x7, .int x8, .int x9, .int x10])), (h1, .inr (10, [.ref h8, .ref h9, .ref h10, .ref h11, .ref h12, .ref h13, .int x11, .int x12, .int x13, .int x14, .int x15, .long z0])), (h13, .inl (y0, 2600, .inl f0)), (h12, .inl (y1, 35, .inr (.inl g0))), (h8, .inl (y2, 2501, .inl f1)), (h9, .inl (y3, 2501, .inl f2)), (h10, .inl (y4, 2501, .inl f3)), (h11, .inl (y5, 2501, .inr (.inl g1))), (h6, .inr (4, [.ref h14, .ref h15, .ref h16, .int x16]))] sz) U U.heap)) (va_Qi (fun (r : Int32) (u : Int32 × Int32 × Int32 × Int32 × Int32 × Int32 × Int32 × Int64 × (Nat → Int32) × (Nat → Int32) × (Nat → Int32) × (Nat → Int64) × Int32) => iv r 0 1 ∧ iv u.1 0 6 ∧ iv u.2.1 0 2500 ∧ iv u.2.2.1 0 2600 ∧ iv u.2.2.2.1 0 2501 ∧ iv u.2.2.2.2.1 0 2500 ∧ iv u.2.2.2.2.2.2.2.2.2.2.2.2 0 60 ∧ True) (fun (u : Int32 × Int32 × Int32 × Int32 × Int32 × Int32 × Int32 × Int64 × (Nat → Int32) × (Nat → Int32) × (Nat → Int32) × (Nat → Int64) × Int32) (t : State) => va_P (dC, dI) vwCl [(h0, .inr (0, [.ref h1, .ref h2, .ref h3, .ref h4, .ref h5, .ref h6, .ref h7, .int x1, .int x2, .int x3, .int x4, .int x5, .int x6, .int x7, .int x8, .int u.1, .int u.2.1])), (h1, .inr (10, [.ref h8, .ref h9, .ref h10, .ref h11, .ref h12, .ref h13, .int u.2.2.1, .int u.2.2.2.1, .int u.2.2.2.2.1, .int u.2.2.2.2.2.1, .int u.2.2.2.2.2.2.1, .long u.2.2.2.2.2.2.2.1])), (h13, .inl (y0, 2600, .inl f0)), (h12, .inl (y1, 35, .inr (.inl g0))), (h8, .inl (y2, 2501, .inl u.2.2.2.2.2.2.2.2.1)), (h9, .inl (y3, 2501, .inl u.2.2.2.2.2.2.2.2.2.1)), (h10, .inl (y4, 2501, .inl u.2.2.2.2.2.2.2.2.2.2.1)), (h11, .inl (y5, 2501, .inr (.inl u.2.2.2.2.2.2.2.2.2.2.2.1))), (h6, .inr (4, [.ref h14, .ref h15, .ref h16, .int u.2.2.2.2.2.2.2.2.2.2.2.2]))] t.heap ∧ va_K (dC, dI) vwCl [(y0, .int), (y1, .long), (y2, .int), (y3, .int), (y4, .int), (y5, .long)] t ∧ va_D (va_A [(h0, .inr (0, [.ref h1, .ref h2, .ref h3, .ref h4, .ref h5, .ref h6, .ref h7, .int x1, .int x2, .int x3, .int x4, .int x5, .int x6, .int x7, .int x8, .int x9, .int x10])), (h1, .inr (10, [.ref h8, .ref h9, .ref h10, .ref h11, .ref h12, .ref h13, .int x11, .int x12, .int x13, .int x14, .int x15, .long z0])), (h13, .inl (y0, 2600, .inl f0)), (h12, .inl (y1, 35, .inr (.inl g0))), (h8, .inl (y2, 2501, .inl f1)), (h9, .inl (y3, 2501, .inl f2)), (h10, .inl (y4, 2501, .inl f3)), (h11, .inl (y5, 2501, .inr (.inl g1))), (h6, .inr (4, [.ref h14, .ref h15, .ref h16, .int x16]))] sz) [(h0, .inr (0, [.ref h1, .ref h2, .ref h3, .ref h4, .ref h5, .ref h6, .ref h7, .int x1, .int x2, .int x3, .int x4, .int x5, .int x6, .int x7, .int x8, .int u.1, .int u.2.1])), (h1, .inr (10, [.ref h8, .ref h9, .ref h10, .ref h11, .ref h12, .ref h13, .int u.2.2.1, .int u.2.2.2.1, .int u.2.2.2.2.1, .int u.2.2.2.2.2.1, .int u.2.2.2.2.2.2.1, .long u.2.2.2.2.2.2.2.1])), (h13, .inl (y0, 2600, .inl f0)), (h12, .inl (y1, 35, .inr (.inl g0))), (h8, .inl (y2, 2501, .inl u.2.2.2.2.2.2.2.2.1)), (h9, .inl (y3, 2501, .inl u.2.2.2.2.2.2.2.2.2.1)), (h10, .inl (y4, 2501, .inl u.2.2.2.2.2.2.2.2.2.2.1)), (h11, .inl (y5, 2501, .inr (.inl u.2.2.2.2.2.2.2.2.2.2.2.1))), (h6, .inr (4, [.ref h14, .ref h15, .ref h16, .int u.2.2.2.2.2.2.2.2.2.2.2.2]))]) (va_A [(h0, .inr (0, [.ref h1, .ref h2, .ref h3, .ref h4, .ref h5, .ref h6, .ref h7, .int x1, .int x2, .int x3, .int x4, .int x5, .int x6, .int x7, .int x8, .int x9, .int x10])), (h1, .inr (10, [.ref h8, .ref h9, .ref h10, .ref h11, .ref h12, .ref h13, .int x11, .int x12, .int x13, .int x14, .int x15, .long z0])), (h13, .inl (y0, 2600, .inl f0)), (h12, .inl (y1, 35, .inr (.inl g0))), (h8, .inl (y2, 2501, .inl f1)), (h9, .inl (y3, 2501, .inl f2)), (h10, .inl (y4, 2501, .inl f3)), (h11, .inl (y5, 2501, .inr (.inl g1))), (h6, .inr (4, [.ref h14, .ref h15, .ref h16, .int x16]))] sz)) 0 0 (va_A [(h0, .inr (0, [.ref h1, .ref h2, .ref h3, .ref h4, .ref h5, .ref h6, .ref h7, .int x1, .int x2, .int x3, .int x4, .int x5, .int x6, .int x7, .int x8, .int x9, .int x10])), (h1, .inr (10, [.ref h8, .ref h9, .ref h10, .ref h11, .ref h12, .ref h13, .int x11, .int x12, .int x13, .int x14, .int x15, .long z0])), (h13, .inl (y0, 2600, .inl f0)), (h12, .inl (y1, 35, .inr (.inl g0))), (h8, .inl (y2, 2501, .inl f1)), (h9, .inl (y3, 2501, .inl f2)), (h10, .inl (y4, 2501, .inl f3)), (h11, .inl (y5, 2501, .inr (.inl g1))), (h6, .inr (4, [.ref h14, .ref h15, .ref h16, .int x16]))] sz) := by
  refine Met.ofW (cc := cX0_open) (maxL := 2) (ret := (some .boolean)) (by decide) rfl ?_
  intro p e s m args below meth c s₁ B hml hv
  obtain ⟨rfl, hsz, hP, hK, hD0, hE⟩ := hv
  have hx := B.exec
  have hb := B.bytes
  have hr := B.returns
  have hts0 := atoms_spec (ws := Cond.code yX0_open cX0_open 2 (some .boolean) :: lw_G) B.pre
  have hG : ∀ w ∈ lw_G, w.before _ s = true := fun w h => hts0 w (List.mem_cons_of_mem _ h)
  have hown : s.vm.findClass RX0 = some m.cls := findClass_of_methodNamed B.named
  have hlocks := B.notSynchronized
  subst hsz
  have hD := hD0.self (sz := s.heap.size)
  generalize hAe : va_A [(h0, .inr (0, [.ref h1, .ref h2, .ref h3, .ref h4, .ref h5, .ref h6, .ref h7, .int x1, .int x2, .int x3, .int x4, .int x5, .int x6, .int x7, .int x8, .int x9, .int x10])), (h1, .inr (10, [.ref h8, .ref h9, .ref h10, .ref h11, .ref h12, .ref h13, .int x11, .int x12, .int x13, .int x14, .int x15, .long z0])), (h13, .inl (y0, 2600, .inl f0)), (h12, .inl (y1, 35, .inr (.inl g0))), (h8, .inl (y2, 2501, .inl f1)), (h9, .inl (y3, 2501, .inl f2)), (h10, .inl (y4, 2501, .inl f3)), (h11, .inl (y5, 2501, .inr (.inl g1))), (h6, .inr (4, [.ref h14, .ref h15, .ref h16, .int x16]))] s.heap.size = A at hD hE ⊢
  have hA : ∀ q : Nat, s.heap.size ≤ q → A q := fun q h => by rw [← hAe]; exact Or.inr h
  have hS : va_S A s.heap s.heap [] := va_S.rf
  have hP : va_P (dC, dI) vwCl [(h0, .inr (0, [.ref h1, .ref h2, .ref h3, .ref h4, .ref h5, .ref h6, .ref h7, .int x1, .int x2, .int x3, .int x4, .int x5, .int x6, .int x7, .int x8, .int x9, .int x10])), (h1, .inr (10, [.ref h8, .ref h9, .ref h10, .ref h11, .ref h12, .ref h13, .int x11, .int x12, .int x13, .int x14, .int x15, .long z0])), (h13, .inl (y0, 2600, .inl f0)), (h12, .inl (y1, 35, .inr (.inl g0))), (h8, .inl (y2, 2501, .inl f1)), (h9, .inl (y3, 2501, .inl f2)), (h10, .inl (y4, 2501, .inl f3)), (h11, .inl (y5, 2501, .inr (.inl g1))), (h6, .inr (4, [.ref h14, .ref h15, .ref h16, .int x16]))] s.heap := hP
  have hl := lv_entry ([.ref h0, .int x0]) (n := 2) (Nat.le_of_ble_eq_true rfl)
  rw [lg_entry_eq]
  generalize (lg_sl ([.ref h0, .int x0]) ++ List.replicate (2 - (lg_sl ([.ref h0, .int x0])).length) Slot.unset).toArray = ls at hl ⊢
  have hl : lv_has ls 2 [(0, .ref h0), (1, .int x0)] := hl
  generalize ([.ref h0, .int x0] : List Value).toArray = ar at hG ⊢
  refine wq (fun Q hQ => ?_)
  refine lv_aload_n hx hb dX0_open_0 rfl (lv_at hl 0 rfl) ?_
  refine lv_iconst (v := 0) hx hb dX0_open_1 (by decide) ?_
  refine va_put (D := (dC, dI)) (ci := 0) (v := .int 0) (ty := .int) (C := RX0) (T := TX0) (N := 17) hx hb hG inGX0 tyX0 tyX0_ok nmX0 hown hK hP hD hS 0 rfl rfl 15 (by decide) (hG _ wd_336) (fun _ h9 => h9) rfl (by decide +kernel) rfl rfl (Nat.le_of_ble_eq_true rfl) dX0_open_2 (fun H locs hP hD hS => ?_)
  obtain ⟨hP, hD⟩ := nv_eq (ws' := [(h0, .inr (0, [.ref h1, .ref h2, .ref h3, .ref h4, .ref h5, .ref h6, .ref h7, .int x1, .int x2, .int x3, .int x4, .int x5, .int x6, .int x7, .int x8, .int 0, .int x10])), (h1, .inr (10, [.ref h8, .ref h9, .ref h10, .ref h11, .ref h12, .ref h13, .int x11, .int x12, .int x13, .int x14, .int x15, .long z0])), (h13, .inl (y0, 2600, .inl f0)), (h12, .inl (y1, 35, .inr (.inl g0))), (h8, .inl (y2, 2501, .inl f1)), (h9, .inl (y3, 2501, .inl f2)), (h10, .inl (y4, 2501, .inl f3)), (h11, .inl (y5, 2501, .inr (.inl g1))), (h6, .inr (4, [.ref h14, .ref h15, .ref h16, .int x16]))]) hP hD rfl
  refine lv_aload_n hx hb dX0_open_5 rfl (lv_at hl 0 rfl) ?_
  refine lv_iconst (v := 0) hx hb dX0_open_6 (by decide) ?_
  refine va_put (D := (dC, dI)) (ci := 0) (v := .int 0) (ty := .int) (C := RX0) (T := TX0) (N := 17) hx hb hG inGX0 tyX0 tyX0_ok nmX0 hown hK hP hD hS 0 rfl rfl 16 (by decide) (hG _ wd_337) (fun _ h9 => h9) rfl (by decide +kernel) rfl rfl (Nat.le_of_ble_eq_true rfl) dX0_open_7 (fun H locs hP hD hS => ?_)
  obtain ⟨hP, hD⟩ := nv_eq (ws' := [(h0, .inr (0, [.ref h1, .ref h2, .ref h3, .ref h4, .ref h5, .ref h6, .ref h7, .int x1, .int x2, .int x3, .int x4, .int x5, .int x6, .int x7, .int x8, .int 0, .int 0])), (h1, .inr (10, [.ref h8, .ref h9, .ref h10, .ref h11, .ref h12, .ref h13, .int x11, .int x12, .int x13, .int x14, .int x15, .long z0])), (h13, .inl (y0, 2600, .inl f0)), (h12, .inl (y1, 35, .inr (.inl g0))), (h8, .inl (y2, 2501, .inl f1)), (h9, .inl (y3, 2501, .inl f2)), (h10, .inl (y4, 2501, .inl f3)), (h11, .inl (y5, 2501, .inr (.inl g1))), (h6, .inr (4, [.ref h14, .ref h15, .ref h16, .int x16]))]) hP hD rfl
  refine lv_iload_n hx hb dX0_open_10 rfl (lv_at hl 1 rfl) ?_
  refine lv_sipush (v := 2500) hx hb dX0_open_11 (by decide) ?_
  refine lv_icmp_le (tgt := 27) hx hb dX0_open_14 (by decide) (fun c1 => ?_) (fun c1 => ?_)
  · skip
    have j2 : iv x0 0 2500 := iv_leL ix0 (by decide : iv 2500 2500 2500) c1 (by decide)
    refine lv_aload_n hx hb dX0_open_27 rfl (lv_at hl 0 rfl) ?_
    refine va_get (D := (dC, dI)) (ci := 0) (v := .ref h1) (C := RX0) (T := TX0) (N := 17) hx hb hG inGX0 hown hK hP 0 rfl rfl 0 (by decide) (hG _ wd_321) (fun _ h9 => h9) rfl dX0_open_28 ?_
    refine lv_iload_n hx hb dX0_open_31 rfl (lv_at hl 1 rfl) ?_
    obtain ⟨hPc, hDc, hFc⟩ := nv_sub3 (wc := [(h1, .inr (10, [.ref h8, .ref h9, .ref h10, .ref h11, .ref h12, .ref h13, .int x11, .int x12, .int x13, .int x14, .int x15, .long z0])), (h13, .inl (y0, 2600, .inl f0)), (h12, .inl (y1, 35, .inr (.inl g0))), (h8, .inl (y2, 2501, .inl f1)), (h9, .inl (y3, 2501, .inl f2)), (h10, .inl (y4, 2501, .inl f3)), (h11, .inl (y5, 2501, .inr (.inl g1)))]) hP hD hS hA [1, 2, 3, 4, 5, 6, 7] (by decide) rfl
    have hKc := hK.sub (tys' := [(y0, .int), (y1, .long), (y2, .int), (y3, .int), (y4, .int), (y5, .long)]) [0, 1, 2, 3, 4, 5] rfl
    refine va_callv (va_runV (As := [.int x0]) (rest := []) ⟨hx, hb, hml, hown, hG⟩ (cX10_scan_1 l dC dI adK adV h1 h8 h9 h10 h11 h12 h13 y0 y1 y2 y3 y4 y5 H.size x0 x11 x12 x13 x14 x15 z0 f0 f1 f2 f3 g0 g1 (iv_w j2 (by decide) (by decide)) ix11 ix12 ix13) (cwV 1 hG (gV wd_441 wd_442 wd_443 wd_11 wd_444) rfl rfl rfl (by decide +kernel) ⟨Nat.le_of_ble_eq_true rfl, Nat.le_of_ble_eq_true rfl⟩) ⟨fun a U g mk q => by obtain ⟨q0, q1, qP, qK, qD, qE⟩ := q; exact ⟨q0, q1, qP, va_K.moved (u := U) (U := U.calling g mk a) (Vm.Alike.refl U.vm) qK, qD, qE.same rfl⟩, va_recv hKc hPc (ci := 10) (q0 := 0) rfl rfl, fun U hU hW => ⟨rfl, by rw [hU], by rw [hU]; exact hPc, va_K.moved hW.alike hKc, hDc.weaken (fun _ _ _ _ => trivial), by rw [hU]; exact ((hE.kept hS.2.1).narrow hFc).warm hW⟩⟩ rfl rfl hl.1 rfl (lv_room (Nat.le_of_ble_eq_true rfl)) dX0_open_32 ⟨by decide, by decide⟩) hS (fun q _ h => hFc q h) hFc (fun u4 t H1 locs ht hvm hw hB hz1 hk1 hS => ?_)
    obtain ⟨u4_0, u4_1, u4_2, u4_3, u4_4, u4_5, u4_6, u4_7⟩ := u4
    have hw : iv u4_0 0 2501 ∧ True := hw
    obtain ⟨iu4_0, -⟩ := hw
    obtain ⟨hP1, hK1, hD1⟩ := hB
    rw [ht] at hP1
    have hK1 := va_K.moved hvm.symm hK1
    obtain ⟨hP, hD⟩ := nv_join (wf := [(h0, .inr (0, [.ref h1, .ref h2, .ref h3, .ref h4, .ref h5, .ref h6, .ref h7, .int x1, .int x2, .int x3, .int x4, .int x5, .int x6, .int x7, .int x8, .int 0, .int 0])), (h6, .inr (4, [.ref h14, .ref h15, .ref h16, .int x16])), (h1, .inr (10, [.ref h8, .ref h9, .ref h10, .ref h11, .ref h12, .ref h13, .int x0, .int u4_0, .int 0, .int u4_1, .int u4_2, .long u4_3])), (h13, .inl (y0, 2600, .inl f0)), (h12, .inl (y1, 35, .inr (.inl g0))), (h8, .inl (y2, 2501, .inl u4_4)), (h9, .inl (y3, 2501, .inl u4_5)), (h10, .inl (y4, 2501, .inl u4_6)), (h11, .inl (y5, 2501, .inr (.inl u4_7)))]) hP hD [1, 2, 3, 4, 5, 6, 7] [0, 8] rfl rfl (by decide) (by decide) hk1 hFc hP1 hD1 rfl
    have hK := (hK.sub (tys' := []) [] rfl).app hK1
    generalize H1 = H at hP hS ⊢
    have hK : va_K (dC, dI) vwCl [(y0, .int), (y1, .long), (y2, .int), (y3, .int), (y4, .int), (y5, .long)] s := hK
    refine lv_aload_n hx hb dX0_open_35 rfl (lv_at hl 0 rfl) ?_
    refine va_get (D := (dC, dI)) (ci := 0) (v := .ref h6) (C := RX0) (T := TX0) (N := 17) hx hb hG inGX0 hown hK hP 0 rfl rfl 5 (by decide) (hG _ wd_326) (fun _ h9 => h9) rfl dX0_open_36 ?_
    obtain ⟨hPc, hDc, hFc⟩ := nv_sub3 (wc := [(h6, .inr (4, [.ref h14, .ref h15, .ref h16, .int x16]))]) hP hD hS hA [1] (by decide) rfl
    have hKc := hK.sub (tys' := []) [] rfl
    refine va_callv (va_runV (As := []) (rest := []) ⟨hx, hb, hml, hown, hG⟩ (cX4_clear_1 l dC dI h6 h14 h15 h16 H.size x16 ix16) (cwV 0 hG (gV wd_539 wd_540 wd_541 wd_10 wd_542) rfl rfl rfl (by decide +kernel) ⟨Nat.le_of_ble_eq_true rfl, Nat.le_of_ble_eq_true rfl⟩) ⟨fun a U g mk q => by obtain ⟨q0, q1, qP, qK, qD⟩ := q; exact ⟨q0, q1, qP, va_K.moved (u := U) (U := U.calling g mk a) (Vm.Alike.refl U.vm) qK, qD⟩, va_recv hKc hPc (ci := 4) (q0 := 0) rfl rfl, fun U hU hW => ⟨rfl, by rw [hU], by rw [hU]; exact hPc, va_K.moved hW.alike hKc, hDc.weaken (fun _ _ _ _ => trivial)⟩⟩ rfl rfl hl.1 rfl (lv_room (Nat.le_of_ble_eq_true rfl)) dX0_open_39 ⟨by decide, by decide⟩) hS (fun q _ h => hFc q h) hFc (fun u6 t H1 locs ht hvm hw hB hz1 hk1 hS => ?_)
    obtain ⟨hP1, hK1, hD1⟩ := hB
    rw [ht] at hP1
    have hK1 := va_K.moved hvm.symm hK1
    obtain ⟨hP, hD⟩ := nv_join (wf := [(h0, .inr (0, [.ref h1, .ref h2, .ref h3, .ref h4, .ref h5, .ref h6, .ref h7, .int x1, .int x2, .int x3, .int x4, .int x5, .int x6, .int x7, .int x8, .int 0, .int 0])), (h1, .inr (10, [.ref h8, .ref h9, .ref h10, .ref h11, .ref h12, .ref h13, .int x0, .int u4_0, .int 0, .int u4_1, .int u4_2, .long u4_3])), (h13, .inl (y0, 2600, .inl f0)), (h12, .inl (y1, 35, .inr (.inl g0))), (h8, .inl (y2, 2501, .inl u4_4)), (h9, .inl (y3, 2501, .inl u4_5)), (h10, .inl (y4, 2501, .inl u4_6)), (h11, .inl (y5, 2501, .inr (.inl u4_7))), (h6, .inr (4, [.ref h14, .ref h15, .ref h16, .int 0]))]) hP hD [1] [0, 2, 3, 4, 5, 6, 7, 8] rfl rfl (by decide) (by decide) hk1 hFc hP1 hD1 rfl
    have hK := (hK.sub (tys' := [(y0, .int), (y1, .long), (y2, .int), (y3, .int), (y4, .int), (y5, .long)]) [0, 1, 2, 3, 4, 5] rfl).app hK1
    generalize H1 = H at hP hS ⊢
    have hK : va_K (dC, dI) vwCl [(y0, .int), (y1, .long), (y2, .int), (y3, .int), (y4, .int), (y5, .long)] s := hK
    refine lv_iconst (v := 1) hx hb dX0_open_42 (by decide) ?_
    rw [hQ]
    obtain ⟨hP9, hD9⟩ := nv_sub2 (wc := [(h0, .inr (0, [.ref h1, .ref h2, .ref h3, .ref h4, .ref h5, .ref h6, .ref h7, .int x1, .int x2, .int x3, .int x4, .int x5, .int x6, .int x7, .int x8, .int 0, .int 0])), (h1, .inr (10, [.ref h8, .ref h9, .ref h10, .ref h11, .ref h12, .ref h13, .int x0, .int u4_0, .int 0, .int u4_1, .int u4_2, .long u4_3])), (h13, .inl (y0, 2600, .inl f0)), (h12, .inl (y1, 35, .inr (.inl g0))), (h8, .inl (y2, 2501, .inl u4_4)), (h9, .inl (y3, 2501, .inl u4_5)), (h10, .inl (y4, 2501, .inl u4_6)), (h11, .inl (y5, 2501, .inr (.inl u4_7))), (h6, .inr (4, [.ref h14, .ref h15, .ref h16, .int 0]))]) hP hD [0, 1, 2, 3, 4, 5, 6, 7, 8] (by decide) rfl
    have hK9 := hK.sub (tys' := [(y0, .int), (y1, .long), (y2, .int), (y3, .int), (y4, .int), (y5, .long)]) [0, 1, 2, 3, 4, 5] rfl
    exact W.zret (v := 1) hx hb hr rfl (fun t ht hW => ⟨⟨1, (0, 0, x0, u4_0, 0, u4_1, u4_2, u4_3, u4_4, u4_5, u4_6, u4_7, 0), rfl, ⟨iv_w (by decide : iv 1 1 1) (by decide) (by decide), iv_w (by decide : iv 0 0 0) (by decide) (by decide), iv_w (by decide : iv 0 0 0) (by decide) (by decide), iv_w j2 (by decide) (by decide), iv_w iu4_0 (by decide) (by decide), iv_w (by decide : iv 0 0 0) (by decide) (by decide), iv_w (by decide : iv 0 0 0) (by decide) (by decide), trivial⟩, by rw [ht]; exact hP9, va_K.moved hW.alike hK9, hD9⟩, hS.F ht⟩) hS.2.2 dX0_open_43
  · skip
    have j7 : iv x0 2501 2600 := iv_nleL ix0 (by decide : iv 2500 2500 2500) c1 (by decide)
    refine lv_aload_n hx hb dX0_open_17 rfl (lv_at hl 0 rfl) ?_
    refine lv_bipush (v := 6) hx hb dX0_open_18 (by decide) ?_
    refine lv_sipush (v := 2500) hx hb dX0_open_20 (by decide) ?_
    obtain ⟨hPc, hDc, hFc⟩ := nv_sub3 (wc := [(h0, .inr (0, [.ref h1, .ref h2, .ref h3, .ref h4, .ref h5, .ref h6, .ref h7, .int x1, .int x2, .int x3, .int x4, .int x5, .int x6, .int x7, .int x8, .int 0, .int 0]))]) hP hD hS hA [0] (by decide) rfl
    have hKc := hK.sub (tys' := []) [] rfl
    refine va_calli (va_runV (As := [.int 6, .int 2500]) (rest := []) ⟨hx, hb, hml, hown, hG⟩ (cX0_fail_1 l dC dI h0 h1 h2 h3 h4 h5 h6 h7 H.size 6 2500 x1 x2 x3 x4 x5 x6 x7 x8 0 0 ix1 ix2 ix8) (cwV 2 hG (gV wd_437 wd_439 wp_1 wd_8 wd_440) rfl rfl rfl (by decide +kernel) ⟨Nat.le_of_ble_eq_true rfl, Nat.le_of_ble_eq_true rfl⟩) ⟨fun a U g mk q => by obtain ⟨q0, q1, qP, qK, qD⟩ := q; exact ⟨q0, q1, qP, va_K.moved (u := U) (U := U.calling g mk a) (Vm.Alike.refl U.vm) qK, qD⟩, va_recv hKc hPc (ci := 0) (q0 := 0) rfl rfl, fun U hU hW => ⟨rfl, by rw [hU], by rw [hU]; exact hPc, va_K.moved hW.alike hKc, hDc.weaken (fun _ _ _ _ => trivial)⟩⟩ rfl rfl hl.1 rfl (lv_room (Nat.le_of_ble_eq_true rfl)) dX0_open_23 ⟨by decide, by decide⟩) hS (fun q _ h => hFc q h) hFc (fun r8 u9 t H1 locs ht hvm hw hB hz1 hk1 hS => ?_)
    have hw : r8 = 0 ∧ True := hw
    obtain ⟨er8, -⟩ := hw
    obtain ⟨hP1, hK1, hD1⟩ := hB
    rw [ht] at hP1
    have hK1 := va_K.moved hvm.symm hK1
    obtain ⟨hP, hD⟩ := nv_join (wf := [(h1, .inr (10, [.ref h8, .ref h9, .ref h10, .ref h11, .ref h12, .ref h13, .int x11, .int x12, .int x13, .int x14, .int x15, .long z0])), (h13, .inl (y0, 2600, .inl f0)), (h12, .inl (y1, 35, .inr (.inl g0))), (h8, .inl (y2, 2501, .inl f1)), (h9, .inl (y3, 2501, .inl f2)), (h10, .inl (y4, 2501, .inl f3)), (h11, .inl (y5, 2501, .inr (.inl g1))), (h6, .inr (4, [.ref h14, .ref h15, .ref h16, .int x16])), (h0, .inr (0, [.ref h1, .ref h2, .ref h3, .ref h4, .ref h5, .ref h6, .ref h7, .int x1, .int x2, .int x3, .int x4, .int x5, .int x6, .int x7, .int x8, .int 6, .int 2500]))]) hP hD [0] [1, 2, 3, 4, 5, 6, 7, 8] rfl rfl (by decide) (by decide) hk1 hFc hP1 hD1 rfl
    have hK := (hK.sub (tys' := [(y0, .int), (y1, .long), (y2, .int), (y3, .int), (y4, .int), (y5, .long)]) [0, 1, 2, 3, 4, 5] rfl).app hK1
    generalize H1 = H at hP hS ⊢
    have hK : va_K (dC, dI) vwCl [(y0, .int), (y1, .long), (y2, .int), (y3, .int), (y4, .int), (y5, .long)] s := hK
    subst er8
    rw [hQ]
    obtain ⟨hP9, hD9⟩ := nv_sub2 (wc := [(h0, .inr (0, [.ref h1, .ref h2, .ref h3, .ref h4, .ref h5, .ref h6, .ref h7, .int x1, .int x2, .int x3, .int x4, .int x5, .int x6, .int x7, .int x8, .int 6, .int 2500])), (h1, .inr (10, [.ref h8, .ref h9, .ref h10, .ref h11, .ref h12, .ref h13, .int x11, .int x12, .int x13, .int x14, .int x15, .long z0])), (h13, .inl (y0, 2600, .inl f0)), (h12, .inl (y1, 35, .inr (.inl g0))), (h8, .inl (y2, 2501, .inl f1)), (h9, .inl (y3, 2501, .inl f2)), (h10, .inl (y4, 2501, .inl f3)), (h11, .inl (y5, 2501, .inr (.inl g1))), (h6, .inr (4, [.ref h14, .ref h15, .ref h16, .int x16]))]) hP hD [8, 0, 1, 2, 3, 4, 5, 6, 7] (by decide) rfl
    have hK9 := hK.sub (tys' := [(y0, .int), (y1, .long), (y2, .int), (y3, .int), (y4, .int), (y5, .long)]) [0, 1, 2, 3, 4, 5] rfl
    exact W.zret (v := 0) hx hb hr rfl (fun t ht hW => ⟨⟨0, (6, 2500, x11, x12, x13, x14, x15, z0, f1, f2, f3, g1, x16), rfl, ⟨iv_w (by decide : iv 0 0 0) (by decide) (by decide), iv_w (by decide : iv 6 6 6) (by decide) (by decide), iv_w (by decide : iv 2500 2500 2500) (by decide) (by decide), iv_w ix11 (by decide) (by decide), iv_w ix12 (by decide) (by decide), iv_w ix13 (by decide) (by decide), iv_w ix16 (by decide) (by decide), trivial⟩, by rw [ht]; exact hP9, va_K.moved hW.alike hK9, hD9⟩, hS.F ht⟩) hS.2.2 dX0_open_26
set_option maxHeartbeats 100000000 in
set_option maxRecDepth 100000 in
theorem cX0_faultPlace_1 (l : Launch) (dC : Nat → ClassId) (dI : Nat → Nat → Nat) (h0 h1 h2 h3 h4 h5 h6 h7 : Nat) (sz : Nat) (x0 x1 x2 x3 x4 x5 x6 x7 x8 x9 : Int32) (ix0 : iv x0 0 2600) (ix1 : iv x1 0 1) (ix7 : iv x7 0 1) : Met l yX0_faultPlace (Cond.code yX0_faultPlace cX0_faultPlace 1 (some .int) :: lw_G) ({ frames := 0, cells := 0, slots := 0, locals := 0 }) (va_Pc [.ref h0] (fun U => U.heap.size = sz ∧ va_P (dC, dI) vwCl [(h0, .inr (0, [.ref h1, .ref h2, .ref h3, .ref h4, .ref h5, .ref h6, .ref h7, .int x0, .int x1, .int x2, .int x3, .int x4, .int x5, .int x6, .int x7, .int x8, .int x9]))] U.heap ∧ va_K (dC, dI) vwCl [] U ∧ va_D (fun _ => True) [(h0, .inr (0, [.ref h1, .ref h2, .ref h3, .ref h4, .ref h5, .ref h6, .ref h7, .int x0, .int x1, .int x2, .int x3, .int x4, .int x5, .int x6, .int x7, .int x8, .int x9]))])) (va_Qi (fun (r : Int32) (u : Unit) => True) (fun (u : Unit) (t : State) => va_P (dC, dI) vwCl [(h0, .inr (0, [.ref h1, .ref h2, .ref h3, .ref h4, .ref h5, .ref h6, .ref h7, .int x0, .int x1, .int x2, .int x3, .int x4, .int x5, .int x6, .int x7, .int x8, .int x9]))] t.heap ∧ va_K (dC, dI) vwCl [] t ∧ va_D (va_A [(h0, .inr (0, [.ref h1, .ref h2, .ref h3, .ref h4, .ref h5, .ref h6, .ref h7, .int x0, .int x1, .int x2, .int x3, .int x4, .int x5, .int x6, .int x7, .int x8, .int x9]))] sz) [(h0, .inr (0, [.ref h1, .ref h2, .ref h3, .ref h4, .ref h5, .ref h6, .ref h7, .int x0, .int x1, .int x2, .int x3, .int x4, .int x5, .int x6, .int x7, .int x8, .int x9]))]) (va_A [(h0, .inr (0, [.ref h1, .ref h2, .ref h3, .ref h4, .ref h5, .ref h6, .ref h7, .int x0, .int x1, .int x2, .int x3, .int x4, .int x5, .int x6, .int x7, .int x8, .int x9]))] sz)) 0 0 (va_A [(h0, .inr (0, [.ref h1, .ref h2, .ref h3, .ref h4, .ref h5, .ref h6, .ref h7, .int x0, .int x1, .int x2, .int x3, .int x4, .int x5, .int x6, .int x7, .int x8, .int x9]))] sz) := by
  refine Met.ofW (cc := cX0_faultPlace) (maxL := 1) (ret := (some .int)) (by decide) rfl ?_
  intro p e s m args below meth c s₁ B hml hv
  obtain ⟨rfl, hsz, hP, hK, hD0⟩ := hv
  have hx := B.exec
  have hb := B.bytes
  have hr := B.returns
  have hts0 := atoms_spec (ws := Cond.code yX0_faultPlace cX0_faultPlace 1 (some .int) :: lw_G) B.pre
  have hG : ∀ w ∈ lw_G, w.before _ s = true := fun w h => hts0 w (List.mem_cons_of_mem _ h)
  have hown : s.vm.findClass RX0 = some m.cls := findClass_of_methodNamed B.named
  have hlocks := B.notSynchronized
  subst hsz
  have hD := hD0.self (sz := s.heap.size)
  generalize hAe : va_A [(h0, .inr (0, [.ref h1, .ref h2, .ref h3, .ref h4, .ref h5, .ref h6, .ref h7, .int x0, .int x1, .int x2, .int x3, .int x4, .int x5, .int x6, .int x7, .int x8, .int x9]))] s.heap.size = A at hD ⊢
  have hA : ∀ q : Nat, s.heap.size ≤ q → A q := fun q h => by rw [← hAe]; exact Or.inr h
  have hS : va_S A s.heap s.heap [] := va_S.rf
  have hP : va_P (dC, dI) vwCl [(h0, .inr (0, [.ref h1, .ref h2, .ref h3, .ref h4, .ref h5, .ref h6, .ref h7, .int x0, .int x1, .int x2, .int x3, .int x4, .int x5, .int x6, .int x7, .int x8, .int x9]))] s.heap := hP
  have hl := lv_entry ([.ref h0]) (n := 1) (Nat.le_of_ble_eq_true rfl)
  rw [lg_entry_eq]
  generalize (lg_sl ([.ref h0]) ++ List.replicate (1 - (lg_sl ([.ref h0])).length) Slot.unset).toArray = ls at hl ⊢
  have hl : lv_has ls 1 [(0, .ref h0)] := hl
  generalize ([.ref h0] : List Value).toArray = ar at hG ⊢
  refine wq (fun Q hQ => ?_)
  refine lv_aload_n hx hb dX0_faultPlace_0 rfl (lv_at hl 0 rfl) ?_
  refine va_get (D := (dC, dI)) (ci := 0) (v := .int x9) (C := RX0) (T := TX0) (N := 17) hx hb hG inGX0 hown hK hP 0 rfl rfl 16 (by decide) (hG _ wd_337) (fun _ h9 => h9) rfl dX0_faultPlace_1 ?_
  rw [hQ]
  obtain ⟨hP9, hD9⟩ := nv_sub2 (wc := [(h0, .inr (0, [.ref h1, .ref h2, .ref h3, .ref h4, .ref h5, .ref h6, .ref h7, .int x0, .int x1, .int x2, .int x3, .int x4, .int x5, .int x6, .int x7, .int x8, .int x9]))]) hP hD [0] (by decide) rfl
  have hK9 := hK.sub (tys' := []) [] rfl
  exact W.iret (v := x9) hx hb hr (fun t ht hW => ⟨⟨x9, (), rfl, trivial, by rw [ht]; exact hP9, va_K.moved hW.alike hK9, hD9⟩, hS.F ht⟩) hS.2.2 dX0_faultPlace_4
set_option maxHeartbeats 100000000 in
set_option maxRecDepth 100000 in
theorem cX10_rewind_1 (l : Launch) (dC : Nat → ClassId) (dI : Nat → Nat → Nat) (h0 h1 h2 h3 h4 h5 h6 : Nat) (sz : Nat) (x0 x1 x2 x3 x4 : Int32) (z0 : Int64) (ix0 : iv x0 0 2600) (ix1 : iv x1 0 2501) (ix2 : iv x2 0 2500) : Met l yX10_rewind (Cond.code yX10_rewind cX10_rewind 1 none :: lw_G) ({ frames := 0, cells := 0, slots := 0, locals := 0 }) (va_Pc [.ref h0] (fun U => U.heap.size = sz ∧ va_P (dC, dI) vwCl [(h0, .inr (10, [.ref h1, .ref h2, .ref h3, .ref h4, .ref h5, .ref h6, .int x0, .int x1, .int x2, .int x3, .int x4, .long z0]))] U.heap ∧ va_K (dC, dI) vwCl [] U ∧ va_D (fun _ => True) [(h0, .inr (10, [.ref h1, .ref h2, .ref h3, .ref h4, .ref h5, .ref h6, .int x0, .int x1, .int x2, .int x3, .int x4, .long z0]))])) (va_Qv (fun (u : Unit) => True) (fun (u : Unit) (t : State) => va_P (dC, dI) vwCl [(h0, .inr (10, [.ref h1, .ref h2, .ref h3, .ref h4, .ref h5, .ref h6, .int x0, .int x1, .int 0, .int x3, .int x4, .long z0]))] t.heap ∧ va_K (dC, dI) vwCl [] t ∧ va_D (va_A [(h0, .inr (10, [.ref h1, .ref h2, .ref h3, .ref h4, .ref h5, .ref h6, .int x0, .int x1, .int x2, .int x3, .int x4, .long z0]))] sz) [(h0, .inr (10, [.ref h1, .ref h2, .ref h3, .ref h4, .ref h5, .ref h6, .int x0, .int x1, .int 0, .int x3, .int x4, .long z0]))]) (va_A [(h0, .inr (10, [.ref h1, .ref h2, .ref h3, .ref h4, .ref h5, .ref h6, .int x0, .int x1, .int x2, .int x3, .int x4, .long z0]))] sz)) 0 0 (va_A [(h0, .inr (10, [.ref h1, .ref h2, .ref h3, .ref h4, .ref h5, .ref h6, .int x0, .int x1, .int x2, .int x3, .int x4, .long z0]))] sz) := by
  refine Met.ofW (cc := cX10_rewind) (maxL := 1) (ret := none) (by decide) rfl ?_
  intro p e s m args below meth c s₁ B hml hv
  obtain ⟨rfl, hsz, hP, hK, hD0⟩ := hv
  have hx := B.exec
  have hb := B.bytes
  have hr := B.returns
  have hts0 := atoms_spec (ws := Cond.code yX10_rewind cX10_rewind 1 none :: lw_G) B.pre
  have hG : ∀ w ∈ lw_G, w.before _ s = true := fun w h => hts0 w (List.mem_cons_of_mem _ h)
  have hown : s.vm.findClass RX10 = some m.cls := findClass_of_methodNamed B.named
  have hlocks := B.notSynchronized
  subst hsz
  have hD := hD0.self (sz := s.heap.size)
  generalize hAe : va_A [(h0, .inr (10, [.ref h1, .ref h2, .ref h3, .ref h4, .ref h5, .ref h6, .int x0, .int x1, .int x2, .int x3, .int x4, .long z0]))] s.heap.size = A at hD ⊢
  have hA : ∀ q : Nat, s.heap.size ≤ q → A q := fun q h => by rw [← hAe]; exact Or.inr h
  have hS : va_S A s.heap s.heap [] := va_S.rf
  have hP : va_P (dC, dI) vwCl [(h0, .inr (10, [.ref h1, .ref h2, .ref h3, .ref h4, .ref h5, .ref h6, .int x0, .int x1, .int x2, .int x3, .int x4, .long z0]))] s.heap := hP
  have hl := lv_entry ([.ref h0]) (n := 1) (Nat.le_of_ble_eq_true rfl)
  rw [lg_entry_eq]
  generalize (lg_sl ([.ref h0]) ++ List.replicate (1 - (lg_sl ([.ref h0])).length) Slot.unset).toArray = ls at hl ⊢
  have hl : lv_has ls 1 [(0, .ref h0)] := hl
  generalize ([.ref h0] : List Value).toArray = ar at hG ⊢
  refine wq (fun Q hQ => ?_)
  refine lv_aload_n hx hb dX10_rewind_0 rfl (lv_at hl 0 rfl) ?_
  refine lv_iconst (v := 0) hx hb dX10_rewind_1 (by decide) ?_
  refine va_put (D := (dC, dI)) (ci := 10) (v := .int 0) (ty := .int) (C := RX10) (T := TX10) (N := 12) hx hb hG inGX10 tyX10 tyX10_ok nmX10 hown hK hP hD hS 0 rfl rfl 8 (by decide) (hG _ wd_291) (fun _ h9 => h9) rfl (by decide +kernel) rfl rfl (Nat.le_of_ble_eq_true rfl) dX10_rewind_2 (fun H locs hP hD hS => ?_)
  obtain ⟨hP, hD⟩ := nv_eq (ws' := [(h0, .inr (10, [.ref h1, .ref h2, .ref h3, .ref h4, .ref h5, .ref h6, .int x0, .int x1, .int 0, .int x3, .int x4, .long z0]))]) hP hD rfl
  rw [hQ]
  obtain ⟨hP9, hD9⟩ := nv_sub2 (wc := [(h0, .inr (10, [.ref h1, .ref h2, .ref h3, .ref h4, .ref h5, .ref h6, .int x0, .int x1, .int 0, .int x3, .int x4, .long z0]))]) hP hD [0] (by decide) rfl
  have hK9 := hK.sub (tys' := []) [] rfl
  exact W.vret hx hb hr (fun t ht hW => ⟨⟨(), rfl, trivial, by rw [ht]; exact hP9, va_K.moved hW.alike hK9, hD9⟩, hS.F ht⟩) hS.2.2 dX10_rewind_5
set_option maxHeartbeats 100000000 in
set_option maxRecDepth 100000 in
theorem cX10_kind_1 (l : Launch) (dC : Nat → ClassId) (dI : Nat → Nat → Nat) (h0 h1 h2 h3 h4 h5 h6 : Nat) (y0 : ClassId) (sz : Nat) (x0 x1 x2 x3 x4 : Int32) (z0 : Int64) (f0 : Nat → Int32) (ix0 : iv x0 0 2600) (ix1 : iv x1 0 2501) (ix2 : iv x2 0 2500) : Met l yX10_kind (Cond.code yX10_kind cX10_kind 1 (some .int) :: lw_G) ({ frames := 0, cells := 0, slots := 0, locals := 0 }) (va_Pc [.ref h0] (fun U => U.heap.size = sz ∧ va_P (dC, dI) vwCl [(h0, .inr (10, [.ref h1, .ref h2, .ref h3, .ref h4, .ref h5, .ref h6, .int x0, .int x1, .int x2, .int x3, .int x4, .long z0])), (h1, .inl (y0, 2501, .inl f0))] U.heap ∧ va_K (dC, dI) vwCl [(y0, .int)] U ∧ va_D (fun _ => True) [(h0, .inr (10, [.ref h1, .ref h2, .ref h3, .ref h4, .ref h5, .ref h6, .int x0, .int x1, .int x2, .int x3, .int x4, .long z0])), (h1, .inl (y0, 2501, .inl f0))])) (va_Qi (fun (r : Int32) (u : Unit) => True) (fun (u : Unit) (t : State) => va_P (dC, dI) vwCl [(h0, .inr (10, [.ref h1, .ref h2, .ref h3, .ref h4, .ref h5, .ref h6, .int x0, .int x1, .int x2, .int x3, .int x4, .long z0])), (h1, .inl (y0, 2501, .inl f0))] t.heap ∧ va_K (dC, dI) vwCl [(y0, .int)] t ∧ va_D (va_A [(h0, .inr (10, [.ref h1, .ref h2, .ref h3, .ref h4, .ref h5, .ref h6, .int x0, .int x1, .int x2, .int x3, .int x4, .long z0])), (h1, .inl (y0, 2501, .inl f0))] sz) [(h0, .inr (10, [.ref h1, .ref h2, .ref h3, .ref h4, .ref h5, .ref h6, .int x0, .int x1, .int x2, .int x3, .int x4, .long z0])), (h1, .inl (y0, 2501, .inl f0))]) (va_A [(h0, .inr (10, [.ref h1, .ref h2, .ref h3, .ref h4, .ref h5, .ref h6, .int x0, .int x1, .int x2, .int x3, .int x4, .long z0])), (h1, .inl (y0, 2501, .inl f0))] sz)) 0 0 (va_A [(h0, .inr (10, [.ref h1, .ref h2, .ref h3, .ref h4, .ref h5, .ref h6, .int x0, .int x1, .int x2, .int x3, .int x4, .long z0])), (h1, .inl (y0, 2501, .inl f0))] sz) := by
  refine Met.ofW (cc := cX10_kind) (maxL := 1) (ret := (some .int)) (by decide) rfl ?_
  intro p e s m args below meth c s₁ B hml hv
  obtain ⟨rfl, hsz, hP, hK, hD0⟩ := hv
  have hx := B.exec
  have hb := B.bytes
  have hr := B.returns
  have hts0 := atoms_spec (ws := Cond.code yX10_kind cX10_kind 1 (some .int) :: lw_G) B.pre
  have hG : ∀ w ∈ lw_G, w.before _ s = true := fun w h => hts0 w (List.mem_cons_of_mem _ h)
  have hown : s.vm.findClass RX10 = some m.cls := findClass_of_methodNamed B.named
  have hlocks := B.notSynchronized
  subst hsz
  have hD := hD0.self (sz := s.heap.size)
  generalize hAe : va_A [(h0, .inr (10, [.ref h1, .ref h2, .ref h3, .ref h4, .ref h5, .ref h6, .int x0, .int x1, .int x2, .int x3, .int x4, .long z0])), (h1, .inl (y0, 2501, .inl f0))] s.heap.size = A at hD ⊢
  have hA : ∀ q : Nat, s.heap.size ≤ q → A q := fun q h => by rw [← hAe]; exact Or.inr h
  have hS : va_S A s.heap s.heap [] := va_S.rf
  have hP : va_P (dC, dI) vwCl [(h0, .inr (10, [.ref h1, .ref h2, .ref h3, .ref h4, .ref h5, .ref h6, .int x0, .int x1, .int x2, .int x3, .int x4, .long z0])), (h1, .inl (y0, 2501, .inl f0))] s.heap := hP
  have hl := lv_entry ([.ref h0]) (n := 1) (Nat.le_of_ble_eq_true rfl)
  rw [lg_entry_eq]
  generalize (lg_sl ([.ref h0]) ++ List.replicate (1 - (lg_sl ([.ref h0])).length) Slot.unset).toArray = ls at hl ⊢
  have hl : lv_has ls 1 [(0, .ref h0)] := hl
  generalize ([.ref h0] : List Value).toArray = ar at hG ⊢
  refine wq (fun Q hQ => ?_)
  refine lv_aload_n hx hb dX10_kind_0 rfl (lv_at hl 0 rfl) ?_
  refine va_get (D := (dC, dI)) (ci := 10) (v := .int x2) (C := RX10) (T := TX10) (N := 12) hx hb hG inGX10 hown hK hP 0 rfl rfl 8 (by decide) (hG _ wd_291) (fun _ h9 => h9) rfl dX10_kind_1 ?_
  refine lv_sipush (v := 2501) hx hb dX10_kind_4 (by decide) ?_
  refine lv_icmp_ge (tgt := 22) hx hb dX10_kind_7 (by decide) (fun c => absurd c (iv_nle (by decide : iv 2501 2501 2501) ix2 (by decide))) (fun _ => ?_)
  refine lv_aload_n hx hb dX10_kind_10 rfl (lv_at hl 0 rfl) ?_
  refine va_get (D := (dC, dI)) (ci := 10) (v := .ref h1) (C := RX10) (T := TX10) (N := 12) hx hb hG inGX10 hown hK hP 0 rfl rfl 0 (by decide) (hG _ wd_283) (fun _ h9 => h9) rfl dX10_kind_11 ?_
  refine lv_aload_n hx hb dX10_kind_14 rfl (lv_at hl 0 rfl) ?_
  refine va_get (D := (dC, dI)) (ci := 10) (v := .int x2) (C := RX10) (T := TX10) (N := 12) hx hb hG inGX10 hown hK hP 0 rfl rfl 8 (by decide) (hG _ wd_291) (fun _ h9 => h9) rfl dX10_kind_15 ?_
  refine va_iald hx hb hK hP 1 0 rfl rfl (iv_in ix2 (by decide) (by decide) : vp_in x2 2501) dX10_kind_18 ?_
  refine lv_topi (fun v1 ev1 => ?_)
  refine lv_goto (tgt := 23) hx hb dX10_kind_19 (by decide) ?_
  rw [hQ]
  obtain ⟨hP9, hD9⟩ := nv_sub2 (wc := [(h0, .inr (10, [.ref h1, .ref h2, .ref h3, .ref h4, .ref h5, .ref h6, .int x0, .int x1, .int x2, .int x3, .int x4, .long z0])), (h1, .inl (y0, 2501, .inl f0))]) hP hD [0, 1] (by decide) rfl
  have hK9 := hK.sub (tys' := [(y0, .int)]) [0] rfl
  exact W.iret (v := v1) hx hb hr (fun t ht hW => ⟨⟨v1, (), rfl, trivial, by rw [ht]; exact hP9, va_K.moved hW.alike hK9, hD9⟩, hS.F ht⟩) hS.2.2 dX10_kind_23
set_option maxHeartbeats 100000000 in
set_option maxRecDepth 100000 in
theorem cX10_key_1 (l : Launch) (dC : Nat → ClassId) (dI : Nat → Nat → Nat) (h0 h1 h2 h3 h4 h5 h6 : Nat) (y0 : ClassId) (sz : Nat) (x0 x1 x2 x3 x4 : Int32) (z0 : Int64) (g0 : Nat → Int64) (ix0 : iv x0 0 2600) (ix1 : iv x1 0 2501) (ix2 : iv x2 0 2500) : Met l yX10_key (Cond.code yX10_key cX10_key 1 (some .long) :: lw_G) ({ frames := 0, cells := 0, slots := 0, locals := 0 }) (va_Pc [.ref h0] (fun U => U.heap.size = sz ∧ va_P (dC, dI) vwCl [(h0, .inr (10, [.ref h1, .ref h2, .ref h3, .ref h4, .ref h5, .ref h6, .int x0, .int x1, .int x2, .int x3, .int x4, .long z0])), (h4, .inl (y0, 2501, .inr (.inl g0)))] U.heap ∧ va_K (dC, dI) vwCl [(y0, .long)] U ∧ va_D (fun _ => True) [(h0, .inr (10, [.ref h1, .ref h2, .ref h3, .ref h4, .ref h5, .ref h6, .int x0, .int x1, .int x2, .int x3, .int x4, .long z0])), (h4, .inl (y0, 2501, .inr (.inl g0)))])) (va_Ql (fun (r : Int64) (u : Unit) => True) (fun (u : Unit) (t : State) => va_P (dC, dI) vwCl [(h0, .inr (10, [.ref h1, .ref h2, .ref h3, .ref h4, .ref h5, .ref h6, .int x0, .int x1, .int x2, .int x3, .int x4, .long z0])), (h4, .inl (y0, 2501, .inr (.inl g0)))] t.heap ∧ va_K (dC, dI) vwCl [(y0, .long)] t ∧ va_D (va_A [(h0, .inr (10, [.ref h1, .ref h2, .ref h3, .ref h4, .ref h5, .ref h6, .int x0, .int x1, .int x2, .int x3, .int x4, .long z0])), (h4, .inl (y0, 2501, .inr (.inl g0)))] sz) [(h0, .inr (10, [.ref h1, .ref h2, .ref h3, .ref h4, .ref h5, .ref h6, .int x0, .int x1, .int x2, .int x3, .int x4, .long z0])), (h4, .inl (y0, 2501, .inr (.inl g0)))]) (va_A [(h0, .inr (10, [.ref h1, .ref h2, .ref h3, .ref h4, .ref h5, .ref h6, .int x0, .int x1, .int x2, .int x3, .int x4, .long z0])), (h4, .inl (y0, 2501, .inr (.inl g0)))] sz)) 0 0 (va_A [(h0, .inr (10, [.ref h1, .ref h2, .ref h3, .ref h4, .ref h5, .ref h6, .int x0, .int x1, .int x2, .int x3, .int x4, .long z0])), (h4, .inl (y0, 2501, .inr (.inl g0)))] sz) := by
  refine Met.ofW (cc := cX10_key) (maxL := 1) (ret := (some .long)) (by decide) rfl ?_
  intro p e s m args below meth c s₁ B hml hv
  obtain ⟨rfl, hsz, hP, hK, hD0⟩ := hv
  have hx := B.exec
  have hb := B.bytes
  have hr := B.returns
  have hts0 := atoms_spec (ws := Cond.code yX10_key cX10_key 1 (some .long) :: lw_G) B.pre
  have hG : ∀ w ∈ lw_G, w.before _ s = true := fun w h => hts0 w (List.mem_cons_of_mem _ h)
  have hown : s.vm.findClass RX10 = some m.cls := findClass_of_methodNamed B.named
  have hlocks := B.notSynchronized
  subst hsz
  have hD := hD0.self (sz := s.heap.size)
  generalize hAe : va_A [(h0, .inr (10, [.ref h1, .ref h2, .ref h3, .ref h4, .ref h5, .ref h6, .int x0, .int x1, .int x2, .int x3, .int x4, .long z0])), (h4, .inl (y0, 2501, .inr (.inl g0)))] s.heap.size = A at hD ⊢
  have hA : ∀ q : Nat, s.heap.size ≤ q → A q := fun q h => by rw [← hAe]; exact Or.inr h
  have hS : va_S A s.heap s.heap [] := va_S.rf
  have hP : va_P (dC, dI) vwCl [(h0, .inr (10, [.ref h1, .ref h2, .ref h3, .ref h4, .ref h5, .ref h6, .int x0, .int x1, .int x2, .int x3, .int x4, .long z0])), (h4, .inl (y0, 2501, .inr (.inl g0)))] s.heap := hP
  have hl := lv_entry ([.ref h0]) (n := 1) (Nat.le_of_ble_eq_true rfl)
  rw [lg_entry_eq]
  generalize (lg_sl ([.ref h0]) ++ List.replicate (1 - (lg_sl ([.ref h0])).length) Slot.unset).toArray = ls at hl ⊢
  have hl : lv_has ls 1 [(0, .ref h0)] := hl
  generalize ([.ref h0] : List Value).toArray = ar at hG ⊢
  refine wq (fun Q hQ => ?_)
  refine lv_aload_n hx hb dX10_key_0 rfl (lv_at hl 0 rfl) ?_
  refine va_get (D := (dC, dI)) (ci := 10) (v := .int x2) (C := RX10) (T := TX10) (N := 12) hx hb hG inGX10 hown hK hP 0 rfl rfl 8 (by decide) (hG _ wd_291) (fun _ h9 => h9) rfl dX10_key_1 ?_
  refine lv_sipush (v := 2501) hx hb dX10_key_4 (by decide) ?_
  refine lv_icmp_ge (tgt := 22) hx hb dX10_key_7 (by decide) (fun c => absurd c (iv_nle (by decide : iv 2501 2501 2501) ix2 (by decide))) (fun _ => ?_)
  refine lv_aload_n hx hb dX10_key_10 rfl (lv_at hl 0 rfl) ?_
  refine va_get (D := (dC, dI)) (ci := 10) (v := .ref h4) (C := RX10) (T := TX10) (N := 12) hx hb hG inGX10 hown hK hP 0 rfl rfl 3 (by decide) (hG _ wd_286) (fun _ h9 => h9) rfl dX10_key_11 ?_
  refine lv_aload_n hx hb dX10_key_14 rfl (lv_at hl 0 rfl) ?_
  refine va_get (D := (dC, dI)) (ci := 10) (v := .int x2) (C := RX10) (T := TX10) (N := 12) hx hb hG inGX10 hown hK hP 0 rfl rfl 8 (by decide) (hG _ wd_291) (fun _ h9 => h9) rfl dX10_key_15 ?_
  refine va_lald hx hb hK hP 1 0 rfl rfl (iv_in ix2 (by decide) (by decide) : vp_in x2 2501) dX10_key_18 ?_
  refine lv_topl (fun w1 ew1 => ?_)
  refine lv_goto (tgt := 23) hx hb dX10_key_19 (by decide) ?_
  rw [hQ]
  obtain ⟨hP9, hD9⟩ := nv_sub2 (wc := [(h0, .inr (10, [.ref h1, .ref h2, .ref h3, .ref h4, .ref h5, .ref h6, .int x0, .int x1, .int x2, .int x3, .int x4, .long z0])), (h4, .inl (y0, 2501, .inr (.inl g0)))]) hP hD [0, 1] (by decide) rfl
  have hK9 := hK.sub (tys' := [(y0, .long)]) [0] rfl
  exact W.lret (v := w1) hx hb hr (fun t ht hW => ⟨⟨w1, (), rfl, trivial, by rw [ht]; exact hP9, va_K.moved hW.alike hK9, hD9⟩, hS.F ht⟩) hS.2.2 dX10_key_23
set_option maxHeartbeats 100000000 in
set_option maxRecDepth 100000 in
theorem cX10_place_1 (l : Launch) (dC : Nat → ClassId) (dI : Nat → Nat → Nat) (h0 h1 h2 h3 h4 h5 h6 : Nat) (y0 : ClassId) (sz : Nat) (x0 x1 x2 x3 x4 : Int32) (z0 : Int64) (f0 : Nat → Int32) (ix0 : iv x0 0 2600) (ix1 : iv x1 0 2501) (ix2 : iv x2 0 2500) : Met l yX10_place (Cond.code yX10_place cX10_place 1 (some .int) :: lw_G) ({ frames := 0, cells := 0, slots := 0, locals := 0 }) (va_Pc [.ref h0] (fun U => U.heap.size = sz ∧ va_P (dC, dI) vwCl [(h0, .inr (10, [.ref h1, .ref h2, .ref h3, .ref h4, .ref h5, .ref h6, .int x0, .int x1, .int x2, .int x3, .int x4, .long z0])), (h2, .inl (y0, 2501, .inl f0))] U.heap ∧ va_K (dC, dI) vwCl [(y0, .int)] U ∧ va_D (fun _ => True) [(h0, .inr (10, [.ref h1, .ref h2, .ref h3, .ref h4, .ref h5, .ref h6, .int x0, .int x1, .int x2, .int x3, .int x4, .long z0])), (h2, .inl (y0, 2501, .inl f0))])) (va_Qi (fun (r : Int32) (u : Unit) => True) (fun (u : Unit) (t : State) => va_P (dC, dI) vwCl [(h0, .inr (10, [.ref h1, .ref h2, .ref h3, .ref h4, .ref h5, .ref h6, .int x0, .int x1, .int x2, .int x3, .int x4, .long z0])), (h2, .inl (y0, 2501, .inl f0))] t.heap ∧ va_K (dC, dI) vwCl [(y0, .int)] t ∧ va_D (va_A [(h0, .inr (10, [.ref h1, .ref h2, .ref h3, .ref h4, .ref h5, .ref h6, .int x0, .int x1, .int x2, .int x3, .int x4, .long z0])), (h2, .inl (y0, 2501, .inl f0))] sz) [(h0, .inr (10, [.ref h1, .ref h2, .ref h3, .ref h4, .ref h5, .ref h6, .int x0, .int x1, .int x2, .int x3, .int x4, .long z0])), (h2, .inl (y0, 2501, .inl f0))]) (va_A [(h0, .inr (10, [.ref h1, .ref h2, .ref h3, .ref h4, .ref h5, .ref h6, .int x0, .int x1, .int x2, .int x3, .int x4, .long z0])), (h2, .inl (y0, 2501, .inl f0))] sz)) 0 0 (va_A [(h0, .inr (10, [.ref h1, .ref h2, .ref h3, .ref h4, .ref h5, .ref h6, .int x0, .int x1, .int x2, .int x3, .int x4, .long z0])), (h2, .inl (y0, 2501, .inl f0))] sz) := by
  refine Met.ofW (cc := cX10_place) (maxL := 1) (ret := (some .int)) (by decide) rfl ?_
  intro p e s m args below meth c s₁ B hml hv
  obtain ⟨rfl, hsz, hP, hK, hD0⟩ := hv
  have hx := B.exec
  have hb := B.bytes
  have hr := B.returns
  have hts0 := atoms_spec (ws := Cond.code yX10_place cX10_place 1 (some .int) :: lw_G) B.pre
  have hG : ∀ w ∈ lw_G, w.before _ s = true := fun w h => hts0 w (List.mem_cons_of_mem _ h)
  have hown : s.vm.findClass RX10 = some m.cls := findClass_of_methodNamed B.named
  have hlocks := B.notSynchronized
  subst hsz
  have hD := hD0.self (sz := s.heap.size)
  generalize hAe : va_A [(h0, .inr (10, [.ref h1, .ref h2, .ref h3, .ref h4, .ref h5, .ref h6, .int x0, .int x1, .int x2, .int x3, .int x4, .long z0])), (h2, .inl (y0, 2501, .inl f0))] s.heap.size = A at hD ⊢
  have hA : ∀ q : Nat, s.heap.size ≤ q → A q := fun q h => by rw [← hAe]; exact Or.inr h
  have hS : va_S A s.heap s.heap [] := va_S.rf
  have hP : va_P (dC, dI) vwCl [(h0, .inr (10, [.ref h1, .ref h2, .ref h3, .ref h4, .ref h5, .ref h6, .int x0, .int x1, .int x2, .int x3, .int x4, .long z0])), (h2, .inl (y0, 2501, .inl f0))] s.heap := hP
  have hl := lv_entry ([.ref h0]) (n := 1) (Nat.le_of_ble_eq_true rfl)
  rw [lg_entry_eq]
  generalize (lg_sl ([.ref h0]) ++ List.replicate (1 - (lg_sl ([.ref h0])).length) Slot.unset).toArray = ls at hl ⊢
  have hl : lv_has ls 1 [(0, .ref h0)] := hl
  generalize ([.ref h0] : List Value).toArray = ar at hG ⊢
  refine wq (fun Q hQ => ?_)
  refine lv_aload_n hx hb dX10_place_0 rfl (lv_at hl 0 rfl) ?_
  refine va_get (D := (dC, dI)) (ci := 10) (v := .int x2) (C := RX10) (T := TX10) (N := 12) hx hb hG inGX10 hown hK hP 0 rfl rfl 8 (by decide) (hG _ wd_291) (fun _ h9 => h9) rfl dX10_place_1 ?_
  refine lv_sipush (v := 2501) hx hb dX10_place_4 (by decide) ?_
  refine lv_icmp_ge (tgt := 22) hx hb dX10_place_7 (by decide) (fun c => absurd c (iv_nle (by decide : iv 2501 2501 2501) ix2 (by decide))) (fun _ => ?_)
  refine lv_aload_n hx hb dX10_place_10 rfl (lv_at hl 0 rfl) ?_
  refine va_get (D := (dC, dI)) (ci := 10) (v := .ref h2) (C := RX10) (T := TX10) (N := 12) hx hb hG inGX10 hown hK hP 0 rfl rfl 1 (by decide) (hG _ wd_284) (fun _ h9 => h9) rfl dX10_place_11 ?_
  refine lv_aload_n hx hb dX10_place_14 rfl (lv_at hl 0 rfl) ?_
  refine va_get (D := (dC, dI)) (ci := 10) (v := .int x2) (C := RX10) (T := TX10) (N := 12) hx hb hG inGX10 hown hK hP 0 rfl rfl 8 (by decide) (hG _ wd_291) (fun _ h9 => h9) rfl dX10_place_15 ?_
  refine va_iald hx hb hK hP 1 0 rfl rfl (iv_in ix2 (by decide) (by decide) : vp_in x2 2501) dX10_place_18 ?_
  refine lv_topi (fun v1 ev1 => ?_)
  refine lv_goto (tgt := 23) hx hb dX10_place_19 (by decide) ?_
  rw [hQ]
  obtain ⟨hP9, hD9⟩ := nv_sub2 (wc := [(h0, .inr (10, [.ref h1, .ref h2, .ref h3, .ref h4, .ref h5, .ref h6, .int x0, .int x1, .int x2, .int x3, .int x4, .long z0])), (h2, .inl (y0, 2501, .inl f0))]) hP hD [0, 1] (by decide) rfl
  have hK9 := hK.sub (tys' := [(y0, .int)]) [0] rfl
  exact W.iret (v := v1) hx hb hr (fun t ht hW => ⟨⟨v1, (), rfl, trivial, by rw [ht]; exact hP9, va_K.moved hW.alike hK9, hD9⟩, hS.F ht⟩) hS.2.2 dX10_place_23
set_option maxHeartbeats 100000000 in
set_option maxRecDepth 100000 in
theorem cX10_value_1 (l : Launch) (dC : Nat → ClassId) (dI : Nat → Nat → Nat) (h0 h1 h2 h3 h4 h5 h6 : Nat) (y0 : ClassId) (sz : Nat) (x0 x1 x2 x3 x4 : Int32) (z0 : Int64) (f0 : Nat → Int32) (ix0 : iv x0 0 2600) (ix1 : iv x1 0 2501) (ix2 : iv x2 0 2500) : Met l yX10_value (Cond.code yX10_value cX10_value 1 (some .int) :: lw_G) ({ frames := 0, cells := 0, slots := 0, locals := 0 }) (va_Pc [.ref h0] (fun U => U.heap.size = sz ∧ va_P (dC, dI) vwCl [(h0, .inr (10, [.ref h1, .ref h2, .ref h3, .ref h4, .ref h5, .ref h6, .int x0, .int x1, .int x2, .int x3, .int x4, .long z0])), (h3, .inl (y0, 2501, .inl f0))] U.heap ∧ va_K (dC, dI) vwCl [(y0, .int)] U ∧ va_D (fun _ => True) [(h0, .inr (10, [.ref h1, .ref h2, .ref h3, .ref h4, .ref h5, .ref h6, .int x0, .int x1, .int x2, .int x3, .int x4, .long z0])), (h3, .inl (y0, 2501, .inl f0))])) (va_Qi (fun (r : Int32) (u : Unit) => True) (fun (u : Unit) (t : State) => va_P (dC, dI) vwCl [(h0, .inr (10, [.ref h1, .ref h2, .ref h3, .ref h4, .ref h5, .ref h6, .int x0, .int x1, .int x2, .int x3, .int x4, .long z0])), (h3, .inl (y0, 2501, .inl f0))] t.heap ∧ va_K (dC, dI) vwCl [(y0, .int)] t ∧ va_D (va_A [(h0, .inr (10, [.ref h1, .ref h2, .ref h3, .ref h4, .ref h5, .ref h6, .int x0, .int x1, .int x2, .int x3, .int x4, .long z0])), (h3, .inl (y0, 2501, .inl f0))] sz) [(h0, .inr (10, [.ref h1, .ref h2, .ref h3, .ref h4, .ref h5, .ref h6, .int x0, .int x1, .int x2, .int x3, .int x4, .long z0])), (h3, .inl (y0, 2501, .inl f0))]) (va_A [(h0, .inr (10, [.ref h1, .ref h2, .ref h3, .ref h4, .ref h5, .ref h6, .int x0, .int x1, .int x2, .int x3, .int x4, .long z0])), (h3, .inl (y0, 2501, .inl f0))] sz)) 0 0 (va_A [(h0, .inr (10, [.ref h1, .ref h2, .ref h3, .ref h4, .ref h5, .ref h6, .int x0, .int x1, .int x2, .int x3, .int x4, .long z0])), (h3, .inl (y0, 2501, .inl f0))] sz) := by
  refine Met.ofW (cc := cX10_value) (maxL := 1) (ret := (some .int)) (by decide) rfl ?_
  intro p e s m args below meth c s₁ B hml hv
  obtain ⟨rfl, hsz, hP, hK, hD0⟩ := hv
  have hx := B.exec
  have hb := B.bytes
  have hr := B.returns
  have hts0 := atoms_spec (ws := Cond.code yX10_value cX10_value 1 (some .int) :: lw_G) B.pre
  have hG : ∀ w ∈ lw_G, w.before _ s = true := fun w h => hts0 w (List.mem_cons_of_mem _ h)
  have hown : s.vm.findClass RX10 = some m.cls := findClass_of_methodNamed B.named
  have hlocks := B.notSynchronized
  subst hsz
  have hD := hD0.self (sz := s.heap.size)
  generalize hAe : va_A [(h0, .inr (10, [.ref h1, .ref h2, .ref h3, .ref h4, .ref h5, .ref h6, .int x0, .int x1, .int x2, .int x3, .int x4, .long z0])), (h3, .inl (y0, 2501, .inl f0))] s.heap.size = A at hD ⊢
  have hA : ∀ q : Nat, s.heap.size ≤ q → A q := fun q h => by rw [← hAe]; exact Or.inr h
  have hS : va_S A s.heap s.heap [] := va_S.rf
  have hP : va_P (dC, dI) vwCl [(h0, .inr (10, [.ref h1, .ref h2, .ref h3, .ref h4, .ref h5, .ref h6, .int x0, .int x1, .int x2, .int x3, .int x4, .long z0])), (h3, .inl (y0, 2501, .inl f0))] s.heap := hP
  have hl := lv_entry ([.ref h0]) (n := 1) (Nat.le_of_ble_eq_true rfl)
  rw [lg_entry_eq]
  generalize (lg_sl ([.ref h0]) ++ List.replicate (1 - (lg_sl ([.ref h0])).length) Slot.unset).toArray = ls at hl ⊢
  have hl : lv_has ls 1 [(0, .ref h0)] := hl
  generalize ([.ref h0] : List Value).toArray = ar at hG ⊢
  refine wq (fun Q hQ => ?_)
  refine lv_aload_n hx hb dX10_value_0 rfl (lv_at hl 0 rfl) ?_
  refine va_get (D := (dC, dI)) (ci := 10) (v := .int x2) (C := RX10) (T := TX10) (N := 12) hx hb hG inGX10 hown hK hP 0 rfl rfl 8 (by decide) (hG _ wd_291) (fun _ h9 => h9) rfl dX10_value_1 ?_
  refine lv_sipush (v := 2501) hx hb dX10_value_4 (by decide) ?_
  refine lv_icmp_ge (tgt := 22) hx hb dX10_value_7 (by decide) (fun c => absurd c (iv_nle (by decide : iv 2501 2501 2501) ix2 (by decide))) (fun _ => ?_)
  refine lv_aload_n hx hb dX10_value_10 rfl (lv_at hl 0 rfl) ?_
  refine va_get (D := (dC, dI)) (ci := 10) (v := .ref h3) (C := RX10) (T := TX10) (N := 12) hx hb hG inGX10 hown hK hP 0 rfl rfl 2 (by decide) (hG _ wd_285) (fun _ h9 => h9) rfl dX10_value_11 ?_
  refine lv_aload_n hx hb dX10_value_14 rfl (lv_at hl 0 rfl) ?_
  refine va_get (D := (dC, dI)) (ci := 10) (v := .int x2) (C := RX10) (T := TX10) (N := 12) hx hb hG inGX10 hown hK hP 0 rfl rfl 8 (by decide) (hG _ wd_291) (fun _ h9 => h9) rfl dX10_value_15 ?_
  refine va_iald hx hb hK hP 1 0 rfl rfl (iv_in ix2 (by decide) (by decide) : vp_in x2 2501) dX10_value_18 ?_
  refine lv_topi (fun v1 ev1 => ?_)
  refine lv_goto (tgt := 23) hx hb dX10_value_19 (by decide) ?_
  rw [hQ]
  obtain ⟨hP9, hD9⟩ := nv_sub2 (wc := [(h0, .inr (10, [.ref h1, .ref h2, .ref h3, .ref h4, .ref h5, .ref h6, .int x0, .int x1, .int x2, .int x3, .int x4, .long z0])), (h3, .inl (y0, 2501, .inl f0))]) hP hD [0, 1] (by decide) rfl
  have hK9 := hK.sub (tys' := [(y0, .int)]) [0] rfl
  exact W.iret (v := v1) hx hb hr (fun t ht hW => ⟨⟨v1, (), rfl, trivial, by rw [ht]; exact hP9, va_K.moved hW.alike hK9, hD9⟩, hS.F ht⟩) hS.2.2 dX10_value_23
set_option maxHeartbeats 100000000 in
set_option maxRecDepth 100000 in
theorem cX10_skip_1 (l : Launch) (dC : Nat → ClassId) (dI : Nat → Nat → Nat) (h0 h1 h2 h3 h4 h5 h6 : Nat) (sz : Nat) (x0 x1 x2 x3 x4 : Int32) (z0 : Int64) (ix0 : iv x0 0 2600) (ix1 : iv x1 0 2501) (ix2 : iv x2 0 2500) : Met l yX10_skip (Cond.code yX10_skip cX10_skip 1 none :: lw_G) ({ frames := 0, cells := 0, slots := 0, locals := 0 }) (va_Pc [.ref h0] (fun U => U.heap.size = sz ∧ va_P (dC, dI) vwCl [(h0, .inr (10, [.ref h1, .ref h2, .ref h3, .ref h4, .ref h5, .ref h6, .int x0, .int x1, .int x2, .int x3, .int x4, .long z0]))] U.heap ∧ va_K (dC, dI) vwCl [] U ∧ va_D (fun _ => True) [(h0, .inr (10, [.ref h1, .ref h2, .ref h3, .ref h4, .ref h5, .ref h6, .int x0, .int x1, .int x2, .int x3, .int x4, .long z0]))])) (va_Qv (fun (u : Int32) => iv u 0 2500 ∧ True) (fun (u : Int32) (t : State) => va_P (dC, dI) vwCl [(h0, .inr (10, [.ref h1, .ref h2, .ref h3, .ref h4, .ref h5, .ref h6, .int x0, .int x1, .int u, .int x3, .int x4, .long z0]))] t.heap ∧ va_K (dC, dI) vwCl [] t ∧ va_D (va_A [(h0, .inr (10, [.ref h1, .ref h2, .ref h3, .ref h4, .ref h5, .ref h6, .int x0, .int x1, .int x2, .int x3, .int x4, .long z0]))] sz) [(h0, .inr (10, [.ref h1, .ref h2, .ref h3, .ref h4, .ref h5, .ref h6, .int x0, .int x1, .int u, .int x3, .int x4, .long z0]))]) (va_A [(h0, .inr (10, [.ref h1, .ref h2, .ref h3, .ref h4, .ref h5, .ref h6, .int x0, .int x1, .int x2, .int x3, .int x4, .long z0]))] sz)) 0 0 (va_A [(h0, .inr (10, [.ref h1, .ref h2, .ref h3, .ref h4, .ref h5, .ref h6, .int x0, .int x1, .int x2, .int x3, .int x4, .long z0]))] sz) := by
  refine Met.ofW (cc := cX10_skip) (maxL := 1) (ret := none) (by decide) rfl ?_
  intro p e s m args below meth c s₁ B hml hv
  obtain ⟨rfl, hsz, hP, hK, hD0⟩ := hv
  have hx := B.exec
  have hb := B.bytes
  have hr := B.returns
  have hts0 := atoms_spec (ws := Cond.code yX10_skip cX10_skip 1 none :: lw_G) B.pre
  have hG : ∀ w ∈ lw_G, w.before _ s = true := fun w h => hts0 w (List.mem_cons_of_mem _ h)
  have hown : s.vm.findClass RX10 = some m.cls := findClass_of_methodNamed B.named
  have hlocks := B.notSynchronized
  subst hsz
  have hD := hD0.self (sz := s.heap.size)
  generalize hAe : va_A [(h0, .inr (10, [.ref h1, .ref h2, .ref h3, .ref h4, .ref h5, .ref h6, .int x0, .int x1, .int x2, .int x3, .int x4, .long z0]))] s.heap.size = A at hD ⊢
  have hA : ∀ q : Nat, s.heap.size ≤ q → A q := fun q h => by rw [← hAe]; exact Or.inr h
  have hS : va_S A s.heap s.heap [] := va_S.rf
  have hP : va_P (dC, dI) vwCl [(h0, .inr (10, [.ref h1, .ref h2, .ref h3, .ref h4, .ref h5, .ref h6, .int x0, .int x1, .int x2, .int x3, .int x4, .long z0]))] s.heap := hP
  have hl := lv_entry ([.ref h0]) (n := 1) (Nat.le_of_ble_eq_true rfl)
  rw [lg_entry_eq]
  generalize (lg_sl ([.ref h0]) ++ List.replicate (1 - (lg_sl ([.ref h0])).length) Slot.unset).toArray = ls at hl ⊢
  have hl : lv_has ls 1 [(0, .ref h0)] := hl
  generalize ([.ref h0] : List Value).toArray = ar at hG ⊢
  refine wq (fun Q hQ => ?_)
  refine lv_aload_n hx hb dX10_skip_0 rfl (lv_at hl 0 rfl) ?_
  refine va_get (D := (dC, dI)) (ci := 10) (v := .int x2) (C := RX10) (T := TX10) (N := 12) hx hb hG inGX10 hown hK hP 0 rfl rfl 8 (by decide) (hG _ wd_291) (fun _ h9 => h9) rfl dX10_skip_1 ?_
  refine lv_aload_n hx hb dX10_skip_4 rfl (lv_at hl 0 rfl) ?_
  refine va_get (D := (dC, dI)) (ci := 10) (v := .int x1) (C := RX10) (T := TX10) (N := 12) hx hb hG inGX10 hown hK hP 0 rfl rfl 7 (by decide) (hG _ wd_290) (fun _ h9 => h9) rfl dX10_skip_5 ?_
  refine lv_iconst (v := 1) hx hb dX10_skip_8 (by decide) ?_
  refine lv_isub hx hb dX10_skip_9 ?_
  refine lv_topi (fun v1 ev1 => ?_)
  have iv1 : iv v1 (-1) 2500 := iv_eq ev1 (iv_sub ix1 (by decide : iv 1 1 1) (by decide) (by decide))
  have tv1 : v1.toInt = x1.toInt + (-1) := iv_subT ev1 ix1 (by decide) (by decide) (by decide)
  refine jcut (a := ∀ (b9 : Int32) (ib9 : iv b9 0 2500) (H : Heap) (locs : List Loc) (hK : va_K (dC, dI) vwCl [] s) (hP : va_P (dC, dI) vwCl [(h0, .inr (10, [.ref h1, .ref h2, .ref h3, .ref h4, .ref h5, .ref h6, .int x0, .int x1, .int b9, .int x3, .int x4, .long z0]))] H) (hD : va_D A [(h0, .inr (10, [.ref h1, .ref h2, .ref h3, .ref h4, .ref h5, .ref h6, .int x0, .int x1, .int b9, .int x3, .int x4, .long z0]))]) (hS : va_S A s.heap H locs) (ls : Array Slot) (hl : lv_has ls 1 []), W p l e (headSpec (Cond.code yX10_skip cX10_skip 1 none :: lw_G) ({ frames := 0, cells := 0, slots := 0, locals := 0 })).room s m ar below meth c H locs 0 0 Q (F0 m 23 ls [])) ?_ (fun j10 => ?_)
  · skip
    intro b9 ib9 H locs hK hP hD hS ls hl
    rw [hQ]
    obtain ⟨hP9, hD9⟩ := nv_sub2 (wc := [(h0, .inr (10, [.ref h1, .ref h2, .ref h3, .ref h4, .ref h5, .ref h6, .int x0, .int x1, .int b9, .int x3, .int x4, .long z0]))]) hP hD [0] (by decide) rfl
    have hK9 := hK.sub (tys' := []) [] rfl
    exact W.vret hx hb hr (fun t ht hW => ⟨⟨b9, rfl, ⟨iv_w ib9 (by decide) (by decide), trivial⟩, by rw [ht]; exact hP9, va_K.moved hW.alike hK9, hD9⟩, hS.F ht⟩) hS.2.2 dX10_skip_23
  refine lv_icmp_ge (tgt := 23) hx hb dX10_skip_10 (by decide) (fun c2 => ?_) (fun c2 => ?_)
  · skip
    have rl11 : v1.toInt ≤ x2.toInt := Int32.le_iff_toInt_le.mp c2
    exact j10 x2 ix2 _ _ hK hP hD hS ls (lv_sub hl [] rfl)
  · skip
    have rl12 : x2.toInt < v1.toInt := iv_nle2 c2
    have j13 : iv v1 1 2500 := iv_nleL iv1 ix2 c2 (by decide)
    have j14 : iv x2 0 2499 := iv_nleR iv1 ix2 c2 (by decide)
    have j15 : iv x1 2 2501 := by have q9 := ix1; exact ⟨by omega, by omega⟩
    refine lv_aload_n hx hb dX10_skip_13 rfl (lv_at hl 0 rfl) ?_
    refine lv_dup hx hb dX10_skip_14 rfl ?_
    refine va_get (D := (dC, dI)) (ci := 10) (v := .int x2) (C := RX10) (T := TX10) (N := 12) hx hb hG inGX10 hown hK hP 0 rfl rfl 8 (by decide) (hG _ wd_291) (fun _ h9 => h9) rfl dX10_skip_15 ?_
    refine lv_iconst (v := 1) hx hb dX10_skip_18 (by decide) ?_
    refine lv_iadd hx hb dX10_skip_19 ?_
    refine lv_topi (fun v16 ev16 => ?_)
    have iv16 : iv v16 1 2500 := iv_eq ev16 (iv_add j14 (by decide : iv 1 1 1) (by decide) (by decide))
    have tv16 : v16.toInt = x2.toInt + 1 := iv_addT ev16 j14 (by decide) (by decide) (by decide)
    refine va_put (D := (dC, dI)) (ci := 10) (v := .int v16) (ty := .int) (C := RX10) (T := TX10) (N := 12) hx hb hG inGX10 tyX10 tyX10_ok nmX10 hown hK hP hD hS 0 rfl rfl 8 (by decide) (hG _ wd_291) (fun _ h9 => h9) rfl (by decide +kernel) rfl rfl (Nat.le_of_ble_eq_true rfl) dX10_skip_20 (fun H locs hP hD hS => ?_)
    obtain ⟨hP, hD⟩ := nv_eq (ws' := [(h0, .inr (10, [.ref h1, .ref h2, .ref h3, .ref h4, .ref h5, .ref h6, .int x0, .int x1, .int v16, .int x3, .int x4, .long z0]))]) hP hD rfl
    exact j10 v16 (iv_w iv16 (by decide) (by decide)) _ _ hK hP hD hS ls (lv_sub hl [] rfl)
set_option maxHeartbeats 100000000 in
set_option maxRecDepth 100000 in
theorem cX6_take_1 (l : Launch) (dC : Nat → ClassId) (dI : Nat → Nat → Nat) (h0 : Nat) (sz : Nat) (x0 x1 x2 x3 x4 x5 x6 : Int32) (ix5 : iv x5 0 1) (ix6 : iv x6 0 1) : Met l yX6_take (Cond.code yX6_take cX6_take 3 none :: lw_G) ({ frames := 0, cells := 0, slots := 0, locals := 0 }) (va_Pc [.ref h0, .int x0, .int x1] (fun U => U.heap.size = sz ∧ va_P (dC, dI) vwCl [(h0, .inr (6, [.int x2, .int x3, .int x4, .int x5, .int x6]))] U.heap ∧ va_K (dC, dI) vwCl [] U ∧ va_D (fun _ => True) [(h0, .inr (6, [.int x2, .int x3, .int x4, .int x5, .int x6]))])) (va_Qv (fun (u : Unit) => True) (fun (u : Unit) (t : State) => va_P (dC, dI) vwCl [(h0, .inr (6, [.int x0, .int x1, .int 0, .int 0, .int 0]))] t.heap ∧ va_K (dC, dI) vwCl [] t ∧ va_D (va_A [(h0, .inr (6, [.int x2, .int x3, .int x4, .int x5, .int x6]))] sz) [(h0, .inr (6, [.int x0, .int x1, .int 0, .int 0, .int 0]))]) (va_A [(h0, .inr (6, [.int x2, .int x3, .int x4, .int x5, .int x6]))] sz)) 0 0 (va_A [(h0, .inr (6, [.int x2, .int x3, .int x4, .int x5, .int x6]))] sz) := by
  refine Met.ofW (cc := cX6_take) (maxL := 3) (ret := none) (by decide) rfl ?_
  intro p e s m args below meth c s₁ B hml hv
  obtain ⟨rfl, hsz, hP, hK, hD0⟩ := hv
  have hx := B.exec
  have hb := B.bytes
  have hr := B.returns
  have hts0 := atoms_spec (ws := Cond.code yX6_take cX6_take 3 none :: lw_G) B.pre
  have hG : ∀ w ∈ lw_G, w.before _ s = true := fun w h => hts0 w (List.mem_cons_of_mem _ h)
  have hown : s.vm.findClass RX6 = some m.cls := findClass_of_methodNamed B.named
  have hlocks := B.notSynchronized
  subst hsz
  have hD := hD0.self (sz := s.heap.size)
  generalize hAe : va_A [(h0, .inr (6, [.int x2, .int x3, .int x4, .int x5, .int x6]))] s.heap.size = A at hD ⊢
  have hA : ∀ q : Nat, s.heap.size ≤ q → A q := fun q h => by rw [← hAe]; exact Or.inr h
  have hS : va_S A s.heap s.heap [] := va_S.rf
  have hP : va_P (dC, dI) vwCl [(h0, .inr (6, [.int x2, .int x3, .int x4, .int x5, .int x6]))] s.heap := hP
  have hl := lv_entry ([.ref h0, .int x0, .int x1]) (n := 3) (Nat.le_of_ble_eq_true rfl)
  rw [lg_entry_eq]
  generalize (lg_sl ([.ref h0, .int x0, .int x1]) ++ List.replicate (3 - (lg_sl ([.ref h0, .int x0, .int x1])).length) Slot.unset).toArray = ls at hl ⊢
  have hl : lv_has ls 3 [(0, .ref h0), (1, .int x0), (2, .int x1)] := hl
  generalize ([.ref h0, .int x0, .int x1] : List Value).toArray = ar at hG ⊢
  refine wq (fun Q hQ => ?_)
  refine lv_aload_n hx hb dX6_take_0 rfl (lv_at hl 0 rfl) ?_
  refine lv_iload_n hx hb dX6_take_1 rfl (lv_at hl 1 rfl) ?_
  refine va_put (D := (dC, dI)) (ci := 6) (v := .int x0) (ty := .int) (C := RX6) (T := TX6) (N := 5) hx hb hG inGX6 tyX6 tyX6_ok nmX6 hown hK hP hD hS 0 rfl rfl 0 (by decide) (hG _ wd_186) (fun _ h9 => h9) rfl (by decide +kernel) rfl rfl (Nat.le_of_ble_eq_true rfl) dX6_take_2 (fun H locs hP hD hS => ?_)
  obtain ⟨hP, hD⟩ := nv_eq (ws' := [(h0, .inr (6, [.int x0, .int x3, .int x4, .int x5, .int x6]))]) hP hD rfl
  refine lv_aload_n hx hb dX6_take_5 rfl (lv_at hl 0 rfl) ?_
  refine lv_iload_n hx hb dX6_take_6 rfl (lv_at hl 2 rfl) ?_
  refine va_put (D := (dC, dI)) (ci := 6) (v := .int x1) (ty := .int) (C := RX6) (T := TX6) (N := 5) hx hb hG inGX6 tyX6 tyX6_ok nmX6 hown hK hP hD hS 0 rfl rfl 1 (by decide) (hG _ wd_187) (fun _ h9 => h9) rfl (by decide +kernel) rfl rfl (Nat.le_of_ble_eq_true rfl) dX6_take_7 (fun H locs hP hD hS => ?_)
  obtain ⟨hP, hD⟩ := nv_eq (ws' := [(h0, .inr (6, [.int x0, .int x1, .int x4, .int x5, .int x6]))]) hP hD rfl
  refine lv_aload_n hx hb dX6_take_10 rfl (lv_at hl 0 rfl) ?_
  refine lv_iconst (v := 0) hx hb dX6_take_11 (by decide) ?_
  refine va_put (D := (dC, dI)) (ci := 6) (v := .int 0) (ty := .int) (C := RX6) (T := TX6) (N := 5) hx hb hG inGX6 tyX6 tyX6_ok nmX6 hown hK hP hD hS 0 rfl rfl 2 (by decide) (hG _ wd_188) (fun _ h9 => h9) rfl (by decide +kernel) rfl rfl (Nat.le_of_ble_eq_true rfl) dX6_take_12 (fun H locs hP hD hS => ?_)
  obtain ⟨hP, hD⟩ := nv_eq (ws' := [(h0, .inr (6, [.int x0, .int x1, .int 0, .int x5, .int x6]))]) hP hD rfl
  refine lv_aload_n hx hb dX6_take_15 rfl (lv_at hl 0 rfl) ?_
  refine lv_iconst (v := 0) hx hb dX6_take_16 (by decide) ?_
  refine va_put (D := (dC, dI)) (ci := 6) (v := .int 0) (ty := .boolean) (C := RX6) (T := TX6) (N := 5) hx hb hG inGX6 tyX6 tyX6_ok nmX6 hown hK hP hD hS 0 rfl rfl 3 (by decide) (hG _ wd_189) (fun _ h9 => h9) rfl (by decide +kernel) rfl rfl (Nat.le_of_ble_eq_true rfl) dX6_take_17 (fun H locs hP hD hS => ?_)
  obtain ⟨hP, hD⟩ := nv_eq (ws' := [(h0, .inr (6, [.int x0, .int x1, .int 0, .int 0, .int x6]))]) hP hD rfl
  refine lv_aload_n hx hb dX6_take_20 rfl (lv_at hl 0 rfl) ?_
  refine lv_iconst (v := 0) hx hb dX6_take_21 (by decide) ?_
  refine va_put (D := (dC, dI)) (ci := 6) (v := .int 0) (ty := .boolean) (C := RX6) (T := TX6) (N := 5) hx hb hG inGX6 tyX6 tyX6_ok nmX6 hown hK hP hD hS 0 rfl rfl 4 (by decide) (hG _ wd_190) (fun _ h9 => h9) rfl (by decide +kernel) rfl rfl (Nat.le_of_ble_eq_true rfl) dX6_take_22 (fun H locs hP hD hS => ?_)
  obtain ⟨hP, hD⟩ := nv_eq (ws' := [(h0, .inr (6, [.int x0, .int x1, .int 0, .int 0, .int 0]))]) hP hD rfl
  rw [hQ]
  obtain ⟨hP9, hD9⟩ := nv_sub2 (wc := [(h0, .inr (6, [.int x0, .int x1, .int 0, .int 0, .int 0]))]) hP hD [0] (by decide) rfl
  have hK9 := hK.sub (tys' := []) [] rfl
  exact W.vret hx hb hr (fun t ht hW => ⟨⟨(), rfl, trivial, by rw [ht]; exact hP9, va_K.moved hW.alike hK9, hD9⟩, hS.F ht⟩) hS.2.2 dX6_take_25
set_option maxHeartbeats 100000000 in
set_option maxRecDepth 100000 in
theorem cX6_base_1 (l : Launch) (dC : Nat → ClassId) (dI : Nat → Nat → Nat) (h0 : Nat) (sz : Nat) (x0 x1 x2 x3 x4 : Int32) (ix3 : iv x3 0 1) (ix4 : iv x4 0 1) : Met l yX6_base (Cond.code yX6_base cX6_base 1 (some .int) :: lw_G) ({ frames := 0, cells := 0, slots := 0, locals := 0 }) (va_Pc [.ref h0] (fun U => U.heap.size = sz ∧ va_P (dC, dI) vwCl [(h0, .inr (6, [.int x0, .int x1, .int x2, .int x3, .int x4]))] U.heap ∧ va_K (dC, dI) vwCl [] U ∧ va_D (fun _ => True) [(h0, .inr (6, [.int x0, .int x1, .int x2, .int x3, .int x4]))])) (va_Qi (fun (r : Int32) (u : Unit) => True) (fun (u : Unit) (t : State) => va_P (dC, dI) vwCl [(h0, .inr (6, [.int x0, .int x1, .int x2, .int x3, .int x4]))] t.heap ∧ va_K (dC, dI) vwCl [] t ∧ va_D (va_A [(h0, .inr (6, [.int x0, .int x1, .int x2, .int x3, .int x4]))] sz) [(h0, .inr (6, [.int x0, .int x1, .int x2, .int x3, .int x4]))]) (va_A [(h0, .inr (6, [.int x0, .int x1, .int x2, .int x3, .int x4]))] sz)) 0 0 (va_A [(h0, .inr (6, [.int x0, .int x1, .int x2, .int x3, .int x4]))] sz) := by
  refine Met.ofW (cc := cX6_base) (maxL := 1) (ret := (some .int)) (by decide) rfl ?_
  intro p e s m args below meth c s₁ B hml hv
  obtain ⟨rfl, hsz, hP, hK, hD0⟩ := hv
  have hx := B.exec
  have hb := B.bytes
  have hr := B.returns
  have hts0 := atoms_spec (ws := Cond.code yX6_base cX6_base 1 (some .int) :: lw_G) B.pre
  have hG : ∀ w ∈ lw_G, w.before _ s = true := fun w h => hts0 w (List.mem_cons_of_mem _ h)
  have hown : s.vm.findClass RX6 = some m.cls := findClass_of_methodNamed B.named
  have hlocks := B.notSynchronized
  subst hsz
  have hD := hD0.self (sz := s.heap.size)
  generalize hAe : va_A [(h0, .inr (6, [.int x0, .int x1, .int x2, .int x3, .int x4]))] s.heap.size = A at hD ⊢
  have hA : ∀ q : Nat, s.heap.size ≤ q → A q := fun q h => by rw [← hAe]; exact Or.inr h
  have hS : va_S A s.heap s.heap [] := va_S.rf
  have hP : va_P (dC, dI) vwCl [(h0, .inr (6, [.int x0, .int x1, .int x2, .int x3, .int x4]))] s.heap := hP
  have hl := lv_entry ([.ref h0]) (n := 1) (Nat.le_of_ble_eq_true rfl)
  rw [lg_entry_eq]
  generalize (lg_sl ([.ref h0]) ++ List.replicate (1 - (lg_sl ([.ref h0])).length) Slot.unset).toArray = ls at hl ⊢
  have hl : lv_has ls 1 [(0, .ref h0)] := hl
  generalize ([.ref h0] : List Value).toArray = ar at hG ⊢
  refine wq (fun Q hQ => ?_)
  refine lv_aload_n hx hb dX6_base_0 rfl (lv_at hl 0 rfl) ?_
  refine va_get (D := (dC, dI)) (ci := 6) (v := .int x1) (C := RX6) (T := TX6) (N := 5) hx hb hG inGX6 hown hK hP 0 rfl rfl 1 (by decide) (hG _ wd_187) (fun _ h9 => h9) rfl dX6_base_1 ?_
  rw [hQ]
  obtain ⟨hP9, hD9⟩ := nv_sub2 (wc := [(h0, .inr (6, [.int x0, .int x1, .int x2, .int x3, .int x4]))]) hP hD [0] (by decide) rfl
  have hK9 := hK.sub (tys' := []) [] rfl
  exact W.iret (v := x1) hx hb hr (fun t ht hW => ⟨⟨x1, (), rfl, trivial, by rw [ht]; exact hP9, va_K.moved hW.alike hK9, hD9⟩, hS.F ht⟩) hS.2.2 dX6_base_4
set_option maxHeartbeats 100000000 in
set_option maxRecDepth 100000 in
theorem cX6_mode_1 (l : Launch) (dC : Nat → ClassId) (dI : Nat → Nat → Nat) (h0 : Nat) (sz : Nat) (x0 x1 x2 x3 x4 : Int32) (ix3 : iv x3 0 1) (ix4 : iv x4 0 1) : Met l yX6_mode (Cond.code yX6_mode cX6_mode 1 (some .int) :: lw_G) ({ frames := 0, cells := 0, slots := 0, locals := 0 }) (va_Pc [.ref h0] (fun U => U.heap.size = sz ∧ va_P (dC, dI) vwCl [(h0, .inr (6, [.int x0, .int x1, .int x2, .int x3, .int x4]))] U.heap ∧ va_K (dC, dI) vwCl [] U ∧ va_D (fun _ => True) [(h0, .inr (6, [.int x0, .int x1, .int x2, .int x3, .int x4]))])) (va_Qi (fun (r : Int32) (u : Unit) => True) (fun (u : Unit) (t : State) => va_P (dC, dI) vwCl [(h0, .inr (6, [.int x0, .int x1, .int x2, .int x3, .int x4]))] t.heap ∧ va_K (dC, dI) vwCl [] t ∧ va_D (va_A [(h0, .inr (6, [.int x0, .int x1, .int x2, .int x3, .int x4]))] sz) [(h0, .inr (6, [.int x0, .int x1, .int x2, .int x3, .int x4]))]) (va_A [(h0, .inr (6, [.int x0, .int x1, .int x2, .int x3, .int x4]))] sz)) 0 0 (va_A [(h0, .inr (6, [.int x0, .int x1, .int x2, .int x3, .int x4]))] sz) := by
  refine Met.ofW (cc := cX6_mode) (maxL := 1) (ret := (some .int)) (by decide) rfl ?_
  intro p e s m args below meth c s₁ B hml hv
  obtain ⟨rfl, hsz, hP, hK, hD0⟩ := hv
  have hx := B.exec
  have hb := B.bytes
  have hr := B.returns
  have hts0 := atoms_spec (ws := Cond.code yX6_mode cX6_mode 1 (some .int) :: lw_G) B.pre
  have hG : ∀ w ∈ lw_G, w.before _ s = true := fun w h => hts0 w (List.mem_cons_of_mem _ h)
  have hown : s.vm.findClass RX6 = some m.cls := findClass_of_methodNamed B.named
  have hlocks := B.notSynchronized
  subst hsz
  have hD := hD0.self (sz := s.heap.size)
  generalize hAe : va_A [(h0, .inr (6, [.int x0, .int x1, .int x2, .int x3, .int x4]))] s.heap.size = A at hD ⊢
  have hA : ∀ q : Nat, s.heap.size ≤ q → A q := fun q h => by rw [← hAe]; exact Or.inr h
  have hS : va_S A s.heap s.heap [] := va_S.rf
  have hP : va_P (dC, dI) vwCl [(h0, .inr (6, [.int x0, .int x1, .int x2, .int x3, .int x4]))] s.heap := hP
  have hl := lv_entry ([.ref h0]) (n := 1) (Nat.le_of_ble_eq_true rfl)
  rw [lg_entry_eq]
  generalize (lg_sl ([.ref h0]) ++ List.replicate (1 - (lg_sl ([.ref h0])).length) Slot.unset).toArray = ls at hl ⊢
  have hl : lv_has ls 1 [(0, .ref h0)] := hl
  generalize ([.ref h0] : List Value).toArray = ar at hG ⊢
  refine wq (fun Q hQ => ?_)
  refine lv_aload_n hx hb dX6_mode_0 rfl (lv_at hl 0 rfl) ?_
  refine va_get (D := (dC, dI)) (ci := 6) (v := .int x0) (C := RX6) (T := TX6) (N := 5) hx hb hG inGX6 hown hK hP 0 rfl rfl 0 (by decide) (hG _ wd_186) (fun _ h9 => h9) rfl dX6_mode_1 ?_
  rw [hQ]
  obtain ⟨hP9, hD9⟩ := nv_sub2 (wc := [(h0, .inr (6, [.int x0, .int x1, .int x2, .int x3, .int x4]))]) hP hD [0] (by decide) rfl
  have hK9 := hK.sub (tys' := []) [] rfl
  exact W.iret (v := x0) hx hb hr (fun t ht hW => ⟨⟨x0, (), rfl, trivial, by rw [ht]; exact hP9, va_K.moved hW.alike hK9, hD9⟩, hS.F ht⟩) hS.2.2 dX6_mode_4
set_option maxHeartbeats 100000000 in
set_option maxRecDepth 100000 in
theorem cX0_putWord_1 (l : Launch) (dC : Nat → ClassId) (dI : Nat → Nat → Nat) (h0 h1 h2 h3 h4 h5 h6 h7 : Nat) (y0 y1 : ClassId) (sz : Nat) (x0 x1 x2 x3 x4 x5 x6 x7 x8 x9 x10 : Int32) (f0 f1 : Nat → Int32) (ix1 : iv x1 0 2600) (ix2 : iv x2 0 1) (ix8 : iv x8 0 1) : Met l yX0_putWord (Cond.code yX0_putWord cX0_putWord 2 none :: lw_G) ({ frames := 0, cells := 0, slots := 0, locals := 0 }) (va_Pc [.ref h0, .int x0] (fun U => U.heap.size = sz ∧ va_P (dC, dI) vwCl [(h0, .inr (0, [.ref h1, .ref h2, .ref h3, .ref h4, .ref h5, .ref h6, .ref h7, .int x1, .int x2, .int x3, .int x4, .int x5, .int x6, .int x7, .int x8, .int x9, .int x10])), (h4, .inl (y0, 2600, .inl f0)), (h5, .inl (y1, 2600, .inl f1))] U.heap ∧ va_K (dC, dI) vwCl [(y0, .int), (y1, .int)] U ∧ va_D (fun _ => True) [(h0, .inr (0, [.ref h1, .ref h2, .ref h3, .ref h4, .ref h5, .ref h6, .ref h7, .int x1, .int x2, .int x3, .int x4, .int x5, .int x6, .int x7, .int x8, .int x9, .int x10])), (h4, .inl (y0, 2600, .inl f0)), (h5, .inl (y1, 2600, .inl f1))])) (va_Qv (fun (u : Int32 × Int32 × Int32 × (Nat → Int32) × (Nat → Int32)) => iv u.1 0 2600 ∧ iv u.2.1 0 1 ∧ True) (fun (u : Int32 × Int32 × Int32 × (Nat → Int32) × (Nat → Int32)) (t : State) => va_P (dC, dI) vwCl [(h0, .inr (0, [.ref h1, .ref h2, .ref h3, .ref h4, .ref h5, .ref h6, .ref h7, .int u.1, .int u.2.1, .int x3, .int u.2.2.1, .int x5, .int x6, .int x7, .int x8, .int x9, .int x10])), (h4, .inl (y0, 2600, .inl u.2.2.2.1)), (h5, .inl (y1, 2600, .inl u.2.2.2.2))] t.heap ∧ va_K (dC, dI) vwCl [(y0, .int), (y1, .int)] t ∧ va_D (va_A [(h0, .inr (0, [.ref h1, .ref h2, .ref h3, .ref h4, .ref h5, .ref h6, .ref h7, .int x1, .int x2, .int x3, .int x4, .int x5, .int x6, .int x7, .int x8, .int x9, .int x10])), (h4, .inl (y0, 2600, .inl f0)), (h5, .inl (y1, 2600, .inl f1))] sz) [(h0, .inr (0, [.ref h1, .ref h2, .ref h3, .ref h4, .ref h5, .ref h6, .ref h7, .int u.1, .int u.2.1, .int x3, .int u.2.2.1, .int x5, .int x6, .int x7, .int x8, .int x9, .int x10])), (h4, .inl (y0, 2600, .inl u.2.2.2.1)), (h5, .inl (y1, 2600, .inl u.2.2.2.2))]) (va_A [(h0, .inr (0, [.ref h1, .ref h2, .ref h3, .ref h4, .ref h5, .ref h6, .ref h7, .int x1, .int x2, .int x3, .int x4, .int x5, .int x6, .int x7, .int x8, .int x9, .int x10])), (h4, .inl (y0, 2600, .inl f0)), (h5, .inl (y1, 2600, .inl f1))] sz)) 0 0 (va_A [(h0, .inr (0, [.ref h1, .ref h2, .ref h3, .ref h4, .ref h5, .ref h6, .ref h7, .int x1, .int x2, .int x3, .int x4, .int x5, .int x6, .int x7, .int x8, .int x9, .int x10])), (h4, .inl (y0, 2600, .inl f0)), (h5, .inl (y1, 2600, .inl f1))] sz) := by
  refine Met.ofW (cc := cX0_putWord) (maxL := 2) (ret := none) (by decide) rfl ?_
  intro p e s m args below meth c s₁ B hml hv
  obtain ⟨rfl, hsz, hP, hK, hD0⟩ := hv
  have hx := B.exec
  have hb := B.bytes
  have hr := B.returns
  have hts0 := atoms_spec (ws := Cond.code yX0_putWord cX0_putWord 2 none :: lw_G) B.pre
  have hG : ∀ w ∈ lw_G, w.before _ s = true := fun w h => hts0 w (List.mem_cons_of_mem _ h)
  have hown : s.vm.findClass RX0 = some m.cls := findClass_of_methodNamed B.named
  have hlocks := B.notSynchronized
  subst hsz
  have hD := hD0.self (sz := s.heap.size)
  generalize hAe : va_A [(h0, .inr (0, [.ref h1, .ref h2, .ref h3, .ref h4, .ref h5, .ref h6, .ref h7, .int x1, .int x2, .int x3, .int x4, .int x5, .int x6, .int x7, .int x8, .int x9, .int x10])), (h4, .inl (y0, 2600, .inl f0)), (h5, .inl (y1, 2600, .inl f1))] s.heap.size = A at hD ⊢
  have hA : ∀ q : Nat, s.heap.size ≤ q → A q := fun q h => by rw [← hAe]; exact Or.inr h
  have hS : va_S A s.heap s.heap [] := va_S.rf
  have hP : va_P (dC, dI) vwCl [(h0, .inr (0, [.ref h1, .ref h2, .ref h3, .ref h4, .ref h5, .ref h6, .ref h7, .int x1, .int x2, .int x3, .int x4, .int x5, .int x6, .int x7, .int x8, .int x9, .int x10])), (h4, .inl (y0, 2600, .inl f0)), (h5, .inl (y1, 2600, .inl f1))] s.heap := hP
  have hl := lv_entry ([.ref h0, .int x0]) (n := 2) (Nat.le_of_ble_eq_true rfl)
  rw [lg_entry_eq]
  generalize (lg_sl ([.ref h0, .int x0]) ++ List.replicate (2 - (lg_sl ([.ref h0, .int x0])).length) Slot.unset).toArray = ls at hl ⊢
  have hl : lv_has ls 2 [(0, .ref h0), (1, .int x0)] := hl
  generalize ([.ref h0, .int x0] : List Value).toArray = ar at hG ⊢
  refine wq (fun Q hQ => ?_)
  refine lv_aload_n hx hb dX0_putWord_0 rfl (lv_at hl 0 rfl) ?_
  refine va_get (D := (dC, dI)) (ci := 0) (v := .int x2) (C := RX0) (T := TX0) (N := 17) hx hb hG inGX0 hown hK hP 0 rfl rfl 8 (by decide) (hG _ wd_329) (fun _ h9 => h9) rfl dX0_putWord_1 ?_
  refine jcut (a := ∀ (b20 : Int32) (b21 : Int32) (b22 : Nat → Int32) (b23 : Nat → Int32) (ib20 : iv b20 0 2600) (ib21 : iv b21 0 1) (H : Heap) (locs : List Loc) (hK : va_K (dC, dI) vwCl [(y0, .int), (y1, .int)] s) (hP : va_P (dC, dI) vwCl [(h0, .inr (0, [.ref h1, .ref h2, .ref h3, .ref h4, .ref h5, .ref h6, .ref h7, .int b20, .int b21, .int x3, .int x4, .int x5, .int x6, .int x7, .int x8, .int x9, .int x10])), (h4, .inl (y0, 2600, .inl b22)), (h5, .inl (y1, 2600, .inl b23))] H) (hD : va_D A [(h0, .inr (0, [.ref h1, .ref h2, .ref h3, .ref h4, .ref h5, .ref h6, .ref h7, .int b20, .int b21, .int x3, .int x4, .int x5, .int x6, .int x7, .int x8, .int x9, .int x10])), (h4, .inl (y0, 2600, .inl b22)), (h5, .inl (y1, 2600, .inl b23))]) (hS : va_S A s.heap H locs) (ls : Array Slot) (hl : lv_has ls 2 [(0, .ref h0)]), W p l e (headSpec (Cond.code yX0_putWord cX0_putWord 2 none :: lw_G) ({ frames := 0, cells := 0, slots := 0, locals := 0 })).room s m ar below meth c H locs 0 0 Q (F0 m 92 ls [])) ?_ (fun j24 => ?_)
  · skip
    intro b20 b21 b22 b23 ib20 ib21 H locs hK hP hD hS ls hl
    refine lv_aload_n hx hb dX0_putWord_92 rfl (lv_at hl 0 rfl) ?_
    refine lv_dup hx hb dX0_putWord_93 rfl ?_
    refine va_get (D := (dC, dI)) (ci := 0) (v := .int x4) (C := RX0) (T := TX0) (N := 17) hx hb hG inGX0 hown hK hP 0 rfl rfl 10 (by decide) (hG _ wd_331) (fun _ h9 => h9) rfl dX0_putWord_94 ?_
    refine lv_iconst (v := 2) hx hb dX0_putWord_97 (by decide) ?_
    refine lv_iadd hx hb dX0_putWord_98 ?_
    refine lv_topi (fun v25 ev25 => ?_)
    refine va_put (D := (dC, dI)) (ci := 0) (v := .int v25) (ty := .int) (C := RX0) (T := TX0) (N := 17) hx hb hG inGX0 tyX0 tyX0_ok nmX0 hown hK hP hD hS 0 rfl rfl 10 (by decide) (hG _ wd_331) (fun _ h9 => h9) rfl (by decide +kernel) rfl rfl (Nat.le_of_ble_eq_true rfl) dX0_putWord_99 (fun H locs hP hD hS => ?_)
    obtain ⟨hP, hD⟩ := nv_eq (ws' := [(h0, .inr (0, [.ref h1, .ref h2, .ref h3, .ref h4, .ref h5, .ref h6, .ref h7, .int b20, .int b21, .int x3, .int v25, .int x5, .int x6, .int x7, .int x8, .int x9, .int x10])), (h4, .inl (y0, 2600, .inl b22)), (h5, .inl (y1, 2600, .inl b23))]) hP hD rfl
    rw [hQ]
    obtain ⟨hP9, hD9⟩ := nv_sub2 (wc := [(h0, .inr (0, [.ref h1, .ref h2, .ref h3, .ref h4, .ref h5, .ref h6, .ref h7, .int b20, .int b21, .int x3, .int v25, .int x5, .int x6, .int x7, .int x8, .int x9, .int x10])), (h4, .inl (y0, 2600, .inl b22)), (h5, .inl (y1, 2600, .inl b23))]) hP hD [0, 1, 2] (by decide) rfl
    have hK9 := hK.sub (tys' := [(y0, .int), (y1, .int)]) [0, 1] rfl
    exact W.vret hx hb hr (fun t ht hW => ⟨⟨(b20, b21, v25, b22, b23), rfl, ⟨iv_w ib20 (by decide) (by decide), iv_w ib21 (by decide) (by decide), trivial⟩, by rw [ht]; exact hP9, va_K.moved hW.alike hK9, hD9⟩, hS.F ht⟩) hS.2.2 dX0_putWord_102
  refine lv_if_eq (tgt := 92) hx hb dX0_putWord_4 (by decide) (fun c1 => ?_) (fun c1 => ?_)
  · skip
    subst c1
    exact j24 x1 0 f0 f1 ix1 (iv_w (by decide : iv 0 0 0) (by decide) (by decide)) _ _ hK hP hD hS ls (lv_sub hl [0] rfl)
  · skip
    have j26 : iv x2 1 1 := iv_neLo ix2 (by decide : iv 0 0 0) c1 (by decide)
    refine lv_aload_n hx hb dX0_putWord_7 rfl (lv_at hl 0 rfl) ?_
    refine va_get (D := (dC, dI)) (ci := 0) (v := .int x1) (C := RX0) (T := TX0) (N := 17) hx hb hG inGX0 hown hK hP 0 rfl rfl 7 (by decide) (hG _ wd_328) (fun _ h9 => h9) rfl dX0_putWord_8 ?_
    refine lv_iconst (v := 2) hx hb dX0_putWord_11 (by decide) ?_
    refine lv_iadd hx hb dX0_putWord_12 ?_
    refine lv_topi (fun v27 ev27 => ?_)
    have iv27 : iv v27 2 2602 := iv_eq ev27 (iv_add ix1 (by decide : iv 2 2 2) (by decide) (by decide))
    have tv27 : v27.toInt = x1.toInt + 2 := iv_addT ev27 ix1 (by decide) (by decide) (by decide)
    refine lv_sipush (v := 2600) hx hb dX0_putWord_13 (by decide) ?_
    refine lv_icmp_gt (tgt := 92) hx hb dX0_putWord_16 (by decide) (fun c28 => ?_) (fun c28 => ?_)
    · skip
      have j29 : iv v27 2601 2602 := iv_ltR (by decide : iv 2600 2600 2600) iv27 c28 (by decide)
      have j30 : iv x1 2599 2600 := by have q9 := ix1; exact ⟨by omega, by omega⟩
      exact j24 x1 x2 f0 f1 (iv_w j30 (by decide) (by decide)) (iv_w j26 (by decide) (by decide)) _ _ hK hP hD hS ls (lv_sub hl [0] rfl)
    · skip
      have j31 : iv v27 2 2600 := iv_nltR (by decide : iv 2600 2600 2600) iv27 c28 (by decide)
      have j32 : iv x1 0 2598 := by have q9 := ix1; exact ⟨by omega, by omega⟩
      refine lv_aload_n hx hb dX0_putWord_19 rfl (lv_at hl 0 rfl) ?_
      refine va_get (D := (dC, dI)) (ci := 0) (v := .ref h4) (C := RX0) (T := TX0) (N := 17) hx hb hG inGX0 hown hK hP 0 rfl rfl 3 (by decide) (hG _ wd_324) (fun _ h9 => h9) rfl dX0_putWord_20 ?_
      refine lv_aload_n hx hb dX0_putWord_23 rfl (lv_at hl 0 rfl) ?_
      refine va_get (D := (dC, dI)) (ci := 0) (v := .int x1) (C := RX0) (T := TX0) (N := 17) hx hb hG inGX0 hown hK hP 0 rfl rfl 7 (by decide) (hG _ wd_328) (fun _ h9 => h9) rfl dX0_putWord_24 ?_
      refine lv_iload_n hx hb dX0_putWord_27 rfl (lv_at hl 1 rfl) ?_
      refine lv_sipush (v := 255) hx hb dX0_putWord_28 (by decide) ?_
      refine lv_iand hx hb dX0_putWord_31 ?_
      refine lv_topi (fun v33 ev33 => ?_)
      have iv33 : iv v33 0 255 := iv_eq ev33 (iv_and (x := x0) (iv_w (by decide : iv 255 255 255) (by decide) (by decide) : iv 255 0 255))
      refine va_iast hx hb hK hP hD hS 1 0 rfl rfl (iv_in j32 (by decide) (by decide) : vp_in x1 2600) dX0_putWord_32 (fun H locs hP hD hS => ?_)
      obtain ⟨nf34, enf34⟩ : ∃ z, z = upd f0 x1.toNatClampNeg v33 := ⟨_, rfl⟩
      obtain ⟨hP, hD⟩ := nv_eq (ws' := [(h0, .inr (0, [.ref h1, .ref h2, .ref h3, .ref h4, .ref h5, .ref h6, .ref h7, .int x1, .int x2, .int x3, .int x4, .int x5, .int x6, .int x7, .int x8, .int x9, .int x10])), (h4, .inl (y0, 2600, .inl nf34)), (h5, .inl (y1, 2600, .inl f1))]) hP hD (by subst enf34; rfl)
      refine lv_aload_n hx hb dX0_putWord_33 rfl (lv_at hl 0 rfl) ?_
      refine va_get (D := (dC, dI)) (ci := 0) (v := .ref h5) (C := RX0) (T := TX0) (N := 17) hx hb hG inGX0 hown hK hP 0 rfl rfl 4 (by decide) (hG _ wd_325) (fun _ h9 => h9) rfl dX0_putWord_34 ?_
      refine lv_aload_n hx hb dX0_putWord_37 rfl (lv_at hl 0 rfl) ?_
      refine va_get (D := (dC, dI)) (ci := 0) (v := .int x1) (C := RX0) (T := TX0) (N := 17) hx hb hG inGX0 hown hK hP 0 rfl rfl 7 (by decide) (hG _ wd_328) (fun _ h9 => h9) rfl dX0_putWord_38 ?_
      refine lv_aload_n hx hb dX0_putWord_41 rfl (lv_at hl 0 rfl) ?_
      refine va_get (D := (dC, dI)) (ci := 0) (v := .int x4) (C := RX0) (T := TX0) (N := 17) hx hb hG inGX0 hown hK hP 0 rfl rfl 10 (by decide) (hG _ wd_331) (fun _ h9 => h9) rfl dX0_putWord_42 ?_
      refine va_iast hx hb hK hP hD hS 2 1 rfl rfl (iv_in j32 (by decide) (by decide) : vp_in x1 2600) dX0_putWord_45 (fun H locs hP hD hS => ?_)
      obtain ⟨nf35, enf35⟩ : ∃ z, z = upd f1 x1.toNatClampNeg x4 := ⟨_, rfl⟩
      obtain ⟨hP, hD⟩ := nv_eq (ws' := [(h0, .inr (0, [.ref h1, .ref h2, .ref h3, .ref h4, .ref h5, .ref h6, .ref h7, .int x1, .int x2, .int x3, .int x4, .int x5, .int x6, .int x7, .int x8, .int x9, .int x10])), (h4, .inl (y0, 2600, .inl nf34)), (h5, .inl (y1, 2600, .inl nf35))]) hP hD (by subst enf35; rfl)
      refine lv_aload_n hx hb dX0_putWord_46 rfl (lv_at hl 0 rfl) ?_
      refine va_get (D := (dC, dI)) (ci := 0) (v := .ref h4) (C := RX0) (T := TX0) (N := 17) hx hb hG inGX0 hown hK hP 0 rfl rfl 3 (by decide) (hG _ wd_324) (fun _ h9 => h9) rfl dX0_putWord_47 ?_
      refine lv_aload_n hx hb dX0_putWord_50 rfl (lv_at hl 0 rfl) ?_
      refine va_get (D := (dC, dI)) (ci := 0) (v := .int x1) (C := RX0) (T := TX0) (N := 17) hx hb hG inGX0 hown hK hP 0 rfl rfl 7 (by decide) (hG _ wd_328) (fun _ h9 => h9) rfl dX0_putWord_51 ?_
      refine lv_iconst (v := 1) hx hb dX0_putWord_54 (by decide) ?_
      refine lv_iadd hx hb dX0_putWord_55 ?_
      refine lv_topi (fun v36 ev36 => ?_)
      have iv36 : iv v36 1 2599 := iv_eq ev36 (iv_add j32 (by decide : iv 1 1 1) (by decide) (by decide))
      have tv36 : v36.toInt = x1.toInt + 1 := iv_addT ev36 j32 (by decide) (by decide) (by decide)
      refine lv_iload_n hx hb dX0_putWord_56 rfl (lv_at hl 1 rfl) ?_
      refine lv_bipush (v := 8) hx hb dX0_putWord_57 (by decide) ?_
      refine lv_ishr hx hb dX0_putWord_59 ?_
      refine lv_topi (fun v37 ev37 => ?_)
      have iv37 : iv v37 (-8388608) 8388607 := iv_eq ev37 (iv_shr 8 (by decide) (iv_any x0) (by decide) (by decide))
      refine lv_sipush (v := 255) hx hb dX0_putWord_60 (by decide) ?_
      refine lv_iand hx hb dX0_putWord_63 ?_
      refine lv_topi (fun v38 ev38 => ?_)
      have iv38 : iv v38 0 255 := iv_eq ev38 (iv_and (x := v37) (iv_w (by decide : iv 255 255 255) (by decide) (by decide) : iv 255 0 255))
      refine va_iast hx hb hK hP hD hS 1 0 rfl rfl (iv_in iv36 (by decide) (by decide) : vp_in v36 2600) dX0_putWord_64 (fun H locs hP hD hS => ?_)
      obtain ⟨nf39, enf39⟩ : ∃ z, z = upd nf34 v36.toNatClampNeg v38 := ⟨_, rfl⟩
      obtain ⟨hP, hD⟩ := nv_eq (ws' := [(h0, .inr (0, [.ref h1, .ref h2, .ref h3, .ref h4, .ref h5, .ref h6, .ref h7, .int x1, .int x2, .int x3, .int x4, .int x5, .int x6, .int x7, .int x8, .int x9, .int x10])), (h4, .inl (y0, 2600, .inl nf39)), (h5, .inl (y1, 2600, .inl nf35))]) hP hD (by subst enf39; rfl)
      refine lv_aload_n hx hb dX0_putWord_65 rfl (lv_at hl 0 rfl) ?_
      refine va_get (D := (dC, dI)) (ci := 0) (v := .ref h5) (C := RX0) (T := TX0) (N := 17) hx hb hG inGX0 hown hK hP 0 rfl rfl 4 (by decide) (hG _ wd_325) (fun _ h9 => h9) rfl dX0_putWord_66 ?_
      refine lv_aload_n hx hb dX0_putWord_69 rfl (lv_at hl 0 rfl) ?_
      refine va_get (D := (dC, dI)) (ci := 0) (v := .int x1) (C := RX0) (T := TX0) (N := 17) hx hb hG inGX0 hown hK hP 0 rfl rfl 7 (by decide) (hG _ wd_328) (fun _ h9 => h9) rfl dX0_putWord_70 ?_
      refine lv_iconst (v := 1) hx hb dX0_putWord_73 (by decide) ?_
      refine lv_iadd hx hb dX0_putWord_74 ?_
      refine lv_topi (fun v40 ev40 => ?_)
      have iv40 : iv v40 1 2599 := iv_eq ev40 (iv_add j32 (by decide : iv 1 1 1) (by decide) (by decide))
      have tv40 : v40.toInt = x1.toInt + 1 := iv_addT ev40 j32 (by decide) (by decide) (by decide)
      refine lv_aload_n hx hb dX0_putWord_75 rfl (lv_at hl 0 rfl) ?_
      refine va_get (D := (dC, dI)) (ci := 0) (v := .int x4) (C := RX0) (T := TX0) (N := 17) hx hb hG inGX0 hown hK hP 0 rfl rfl 10 (by decide) (hG _ wd_331) (fun _ h9 => h9) rfl dX0_putWord_76 ?_
      refine lv_iconst (v := 1) hx hb dX0_putWord_79 (by decide) ?_
      refine lv_iadd hx hb dX0_putWord_80 ?_
      refine lv_topi (fun v41 ev41 => ?_)
      refine va_iast hx hb hK hP hD hS 2 1 rfl rfl (iv_in iv40 (by decide) (by decide) : vp_in v40 2600) dX0_putWord_81 (fun H locs hP hD hS => ?_)
      obtain ⟨nf42, enf42⟩ : ∃ z, z = upd nf35 v40.toNatClampNeg v41 := ⟨_, rfl⟩
      obtain ⟨hP, hD⟩ := nv_eq (ws' := [(h0, .inr (0, [.ref h1, .ref h2, .ref h3, .ref h4, .ref h5, .ref h6, .ref h7, .int x1, .int x2, .int x3, .int x4, .int x5, .int x6, .int x7, .int x8, .int x9, .int x10])), (h4, .inl (y0, 2600, .inl nf39)), (h5, .inl (y1, 2600, .inl nf42))]) hP hD (by subst enf42; rfl)
      refine lv_aload_n hx hb dX0_putWord_82 rfl (lv_at hl 0 rfl) ?_
      refine lv_dup hx hb dX0_putWord_83 rfl ?_
      refine va_get (D := (dC, dI)) (ci := 0) (v := .int x1) (C := RX0) (T := TX0) (N := 17) hx hb hG inGX0 hown hK hP 0 rfl rfl 7 (by decide) (hG _ wd_328) (fun _ h9 => h9) rfl dX0_putWord_84 ?_
      refine lv_iconst (v := 2) hx hb dX0_putWord_87 (by decide) ?_
      refine lv_iadd hx hb dX0_putWord_88 ?_
      refine lv_topi (fun v43 ev43 => ?_)
      have iv43 : iv v43 2 2600 := iv_eq ev43 (iv_add j32 (by decide : iv 2 2 2) (by decide) (by decide))
      have tv43 : v43.toInt = x1.toInt + 2 := iv_addT ev43 j32 (by decide) (by decide) (by decide)
      refine va_put (D := (dC, dI)) (ci := 0) (v := .int v43) (ty := .int) (C := RX0) (T := TX0) (N := 17) hx hb hG inGX0 tyX0 tyX0_ok nmX0 hown hK hP hD hS 0 rfl rfl 7 (by decide) (hG _ wd_328) (fun _ h9 => h9) rfl (by decide +kernel) rfl rfl (Nat.le_of_ble_eq_true rfl) dX0_putWord_89 (fun H locs hP hD hS => ?_)
      obtain ⟨hP, hD⟩ := nv_eq (ws' := [(h0, .inr (0, [.ref h1, .ref h2, .ref h3, .ref h4, .ref h5, .ref h6, .ref h7, .int v43, .int x2, .int x3, .int x4, .int x5, .int x6, .int x7, .int x8, .int x9, .int x10])), (h4, .inl (y0, 2600, .inl nf39)), (h5, .inl (y1, 2600, .inl nf42))]) hP hD rfl
      exact j24 v43 x2 nf39 nf42 (iv_w iv43 (by decide) (by decide)) (iv_w j26 (by decide) (by decide)) _ _ hK hP hD hS ls (lv_sub hl [0] rfl)
set_option maxHeartbeats 100000000 in
set_option maxRecDepth 100000 in
theorem cX6_hasNext_1 (l : Launch) (dC : Nat → ClassId) (dI : Nat → Nat → Nat) (h0 : Nat) (sz : Nat) (x0 x1 x2 x3 x4 : Int32) (ix3 : iv x3 0 1) (ix4 : iv x4 0 1) : Met l yX6_hasNext (Cond.code yX6_hasNext cX6_hasNext 1 (some .boolean) :: lw_G) ({ frames := 0, cells := 0, slots := 0, locals := 0 }) (va_Pc [.ref h0] (fun U => U.heap.size = sz ∧ va_P (dC, dI) vwCl [(h0, .inr (6, [.int x0, .int x1, .int x2, .int x3, .int x4]))] U.heap ∧ va_K (dC, dI) vwCl [] U ∧ va_D (fun _ => True) [(h0, .inr (6, [.int x0, .int x1, .int x2, .int x3, .int x4]))])) (va_Qi (fun (r : Int32) (u : Unit) => iv r 0 1 ∧ True) (fun (u : Unit) (t : State) => va_P (dC, dI) vwCl [(h0, .inr (6, [.int x0, .int x1, .int x2, .int x3, .int x4]))] t.heap ∧ va_K (dC, dI) vwCl [] t ∧ va_D (va_A [(h0, .inr (6, [.int x0, .int x1, .int x2, .int x3, .int x4]))] sz) [(h0, .inr (6, [.int x0, .int x1, .int x2, .int x3, .int x4]))]) (va_A [(h0, .inr (6, [.int x0, .int x1, .int x2, .int x3, .int x4]))] sz)) 0 0 (va_A [(h0, .inr (6, [.int x0, .int x1, .int x2, .int x3, .int x4]))] sz) := by
  refine Met.ofW (cc := cX6_hasNext) (maxL := 1) (ret := (some .boolean)) (by decide) rfl ?_
  intro p e s m args below meth c s₁ B hml hv
  obtain ⟨rfl, hsz, hP, hK, hD0⟩ := hv
  have hx := B.exec
  have hb := B.bytes
  have hr := B.returns
  have hts0 := atoms_spec (ws := Cond.code yX6_hasNext cX6_hasNext 1 (some .boolean) :: lw_G) B.pre
  have hG : ∀ w ∈ lw_G, w.before _ s = true := fun w h => hts0 w (List.mem_cons_of_mem _ h)
  have hown : s.vm.findClass RX6 = some m.cls := findClass_of_methodNamed B.named
  have hlocks := B.notSynchronized
  subst hsz
  have hD := hD0.self (sz := s.heap.size)
  generalize hAe : va_A [(h0, .inr (6, [.int x0, .int x1, .int x2, .int x3, .int x4]))] s.heap.size = A at hD ⊢
  have hA : ∀ q : Nat, s.heap.size ≤ q → A q := fun q h => by rw [← hAe]; exact Or.inr h
  have hS : va_S A s.heap s.heap [] := va_S.rf
  have hP : va_P (dC, dI) vwCl [(h0, .inr (6, [.int x0, .int x1, .int x2, .int x3, .int x4]))] s.heap := hP
  have hl := lv_entry ([.ref h0]) (n := 1) (Nat.le_of_ble_eq_true rfl)
  rw [lg_entry_eq]
  generalize (lg_sl ([.ref h0]) ++ List.replicate (1 - (lg_sl ([.ref h0])).length) Slot.unset).toArray = ls at hl ⊢
  have hl : lv_has ls 1 [(0, .ref h0)] := hl
  generalize ([.ref h0] : List Value).toArray = ar at hG ⊢
  refine wq (fun Q hQ => ?_)
  refine lv_aload_n hx hb dX6_hasNext_0 rfl (lv_at hl 0 rfl) ?_
  refine va_get (D := (dC, dI)) (ci := 6) (v := .int x3) (C := RX6) (T := TX6) (N := 5) hx hb hG inGX6 hown hK hP 0 rfl rfl 3 (by decide) (hG _ wd_189) (fun _ h9 => h9) rfl dX6_hasNext_1 ?_
  rw [hQ]
  obtain ⟨hP9, hD9⟩ := nv_sub2 (wc := [(h0, .inr (6, [.int x0, .int x1, .int x2, .int x3, .int x4]))]) hP hD [0] (by decide) rfl
  have hK9 := hK.sub (tys' := []) [] rfl
  exact W.zret (v := x3) hx hb hr (iv_z (iv_w ix3 (by decide) (by decide))).1 (fun t ht hW => ⟨⟨x3, (), rfl, ⟨iv_w ix3 (by decide) (by decide), trivial⟩, by rw [ht]; exact hP9, va_K.moved hW.alike hK9, hD9⟩, hS.F ht⟩) hS.2.2 dX6_hasNext_4
set_option maxHeartbeats 100000000 in
set_option maxRecDepth 100000 in
theorem cX6_next_1 (l : Launch) (dC : Nat → ClassId) (dI : Nat → Nat → Nat) (h0 : Nat) (sz : Nat) (x0 x1 x2 x3 x4 x5 : Int32) (ix4 : iv x4 0 1) (ix5 : iv x5 0 1) : Met l yX6_next (Cond.code yX6_next cX6_next 2 (some .int) :: lw_G) ({ frames := 0, cells := 0, slots := 0, locals := 0 }) (va_Pc [.ref h0, .int x0] (fun U => U.heap.size = sz ∧ va_P (dC, dI) vwCl [(h0, .inr (6, [.int x1, .int x2, .int x3, .int x4, .int x5]))] U.heap ∧ va_K (dC, dI) vwCl [] U ∧ va_D (fun _ => True) [(h0, .inr (6, [.int x1, .int x2, .int x3, .int x4, .int x5]))])) (va_Qi (fun (r : Int32) (u : Int32) => iv u 0 1 ∧ True) (fun (u : Int32) (t : State) => va_P (dC, dI) vwCl [(h0, .inr (6, [.int x1, .int x2, .int x3, .int x4, .int u]))] t.heap ∧ va_K (dC, dI) vwCl [] t ∧ va_D (va_A [(h0, .inr (6, [.int x1, .int x2, .int x3, .int x4, .int x5]))] sz) [(h0, .inr (6, [.int x1, .int x2, .int x3, .int x4, .int u]))]) (va_A [(h0, .inr (6, [.int x1, .int x2, .int x3, .int x4, .int x5]))] sz)) 0 0 (va_A [(h0, .inr (6, [.int x1, .int x2, .int x3, .int x4, .int x5]))] sz) := by
  refine Met.ofW (cc := cX6_next) (maxL := 2) (ret := (some .int)) (by decide) rfl ?_
  intro p e s m args below meth c s₁ B hml hv
  obtain ⟨rfl, hsz, hP, hK, hD0⟩ := hv
  have hx := B.exec
  have hb := B.bytes
  have hr := B.returns
  have hts0 := atoms_spec (ws := Cond.code yX6_next cX6_next 2 (some .int) :: lw_G) B.pre
  have hG : ∀ w ∈ lw_G, w.before _ s = true := fun w h => hts0 w (List.mem_cons_of_mem _ h)
  have hown : s.vm.findClass RX6 = some m.cls := findClass_of_methodNamed B.named
  have hlocks := B.notSynchronized
  subst hsz
  have hD := hD0.self (sz := s.heap.size)
  generalize hAe : va_A [(h0, .inr (6, [.int x1, .int x2, .int x3, .int x4, .int x5]))] s.heap.size = A at hD ⊢
  have hA : ∀ q : Nat, s.heap.size ≤ q → A q := fun q h => by rw [← hAe]; exact Or.inr h
  have hS : va_S A s.heap s.heap [] := va_S.rf
  have hP : va_P (dC, dI) vwCl [(h0, .inr (6, [.int x1, .int x2, .int x3, .int x4, .int x5]))] s.heap := hP
  have hl := lv_entry ([.ref h0, .int x0]) (n := 2) (Nat.le_of_ble_eq_true rfl)
  rw [lg_entry_eq]
  generalize (lg_sl ([.ref h0, .int x0]) ++ List.replicate (2 - (lg_sl ([.ref h0, .int x0])).length) Slot.unset).toArray = ls at hl ⊢
  have hl : lv_has ls 2 [(0, .ref h0), (1, .int x0)] := hl
  generalize ([.ref h0, .int x0] : List Value).toArray = ar at hG ⊢
  refine wq (fun Q hQ => ?_)
  refine lv_aload_n hx hb dX6_next_0 rfl (lv_at hl 0 rfl) ?_
  refine va_get (D := (dC, dI)) (ci := 6) (v := .int x5) (C := RX6) (T := TX6) (N := 5) hx hb hG inGX6 hown hK hP 0 rfl rfl 4 (by decide) (hG _ wd_190) (fun _ h9 => h9) rfl dX6_next_1 ?_
  refine jcut (a := ∀ (b4 : Int32) (b5 : Int32) (ib5 : iv b5 0 1) (H : Heap) (locs : List Loc) (hK : va_K (dC, dI) vwCl [] s) (hP : va_P (dC, dI) vwCl [(h0, .inr (6, [.int x1, .int x2, .int x3, .int x4, .int b5]))] H) (hD : va_D A [(h0, .inr (6, [.int x1, .int x2, .int x3, .int x4, .int b5]))]) (hS : va_S A s.heap H locs) (ls : Array Slot) (hl : lv_has ls 2 []), W p l e (headSpec (Cond.code yX6_next cX6_next 2 (some .int) :: lw_G) ({ frames := 0, cells := 0, slots := 0, locals := 0 })).room s m ar below meth c H locs 0 0 Q (F0 m 20 ls [.int b4])) ?_ (fun j6 => ?_)
  · skip
    intro b4 b5 ib5 H locs hK hP hD hS ls hl
    rw [hQ]
    obtain ⟨hP9, hD9⟩ := nv_sub2 (wc := [(h0, .inr (6, [.int x1, .int x2, .int x3, .int x4, .int b5]))]) hP hD [0] (by decide) rfl
    have hK9 := hK.sub (tys' := []) [] rfl
    exact W.iret (v := b4) hx hb hr (fun t ht hW => ⟨⟨b4, b5, rfl, ⟨iv_w ib5 (by decide) (by decide), trivial⟩, by rw [ht]; exact hP9, va_K.moved hW.alike hK9, hD9⟩, hS.F ht⟩) hS.2.2 dX6_next_20
  refine lv_if_eq (tgt := 16) hx hb dX6_next_4 (by decide) (fun c1 => ?_) (fun c1 => ?_)
  · skip
    subst c1
    refine lv_aload_n hx hb dX6_next_16 rfl (lv_at hl 0 rfl) ?_
    refine va_get (D := (dC, dI)) (ci := 6) (v := .int x3) (C := RX6) (T := TX6) (N := 5) hx hb hG inGX6 hown hK hP 0 rfl rfl 2 (by decide) (hG _ wd_188) (fun _ h9 => h9) rfl dX6_next_17 ?_
    exact j6 x3 0 (iv_w (by decide : iv 0 0 0) (by decide) (by decide)) _ _ hK hP hD hS ls (lv_sub hl [] rfl)
  · skip
    have j7 : iv x5 1 1 := iv_neLo ix5 (by decide : iv 0 0 0) c1 (by decide)
    refine lv_aload_n hx hb dX6_next_7 rfl (lv_at hl 0 rfl) ?_
    refine va_get (D := (dC, dI)) (ci := 6) (v := .int x3) (C := RX6) (T := TX6) (N := 5) hx hb hG inGX6 hown hK hP 0 rfl rfl 2 (by decide) (hG _ wd_188) (fun _ h9 => h9) rfl dX6_next_8 ?_
    refine lv_iload_n hx hb dX6_next_11 rfl (lv_at hl 1 rfl) ?_
    refine lv_isub hx hb dX6_next_12 ?_
    refine lv_topi (fun v8 ev8 => ?_)
    refine lv_goto (tgt := 20) hx hb dX6_next_13 (by decide) ?_
    exact j6 v8 x5 (iv_w j7 (by decide) (by decide)) _ _ hK hP hD hS ls (lv_sub hl [] rfl)
set_option maxHeartbeats 100000000 in
set_option maxRecDepth 100000 in
theorem cX0_putNext_1 (l : Launch) (dC : Nat → ClassId) (dI : Nat → Nat → Nat) (h0 h1 h2 h3 h4 h5 h6 h7 : Nat) (y0 y1 : ClassId) (sz : Nat) (x0 x1 x2 x3 x4 x5 x6 x7 x8 x9 x10 x11 x12 x13 x14 : Int32) (f0 f1 : Nat → Int32) (ix3 : iv x3 0 1) (ix4 : iv x4 0 1) (ix5 : iv x5 0 2600) (ix6 : iv x6 0 1) (ix12 : iv x12 0 1) : Met l yX0_putNext (Cond.code yX0_putNext cX0_putNext 2 none :: lw_G) ({ frames := 1, cells := 0, slots := 0, locals := 21 }) (va_Pc [.ref h0, .ref h1] (fun U => U.heap.size = sz ∧ va_P (dC, dI) vwCl [(h1, .inr (6, [.int x0, .int x1, .int x2, .int x3, .int x4])), (h0, .inr (0, [.ref h2, .ref h1, .ref h3, .ref h4, .ref h5, .ref h6, .ref h7, .int x5, .int x6, .int x7, .int x8, .int x9, .int x10, .int x11, .int x12, .int x13, .int x14])), (h4, .inl (y0, 2600, .inl f0)), (h5, .inl (y1, 2600, .inl f1))] U.heap ∧ va_K (dC, dI) vwCl [(y0, .int), (y1, .int)] U ∧ va_D (fun _ => True) [(h1, .inr (6, [.int x0, .int x1, .int x2, .int x3, .int x4])), (h0, .inr (0, [.ref h2, .ref h1, .ref h3, .ref h4, .ref h5, .ref h6, .ref h7, .int x5, .int x6, .int x7, .int x8, .int x9, .int x10, .int x11, .int x12, .int x13, .int x14])), (h4, .inl (y0, 2600, .inl f0)), (h5, .inl (y1, 2600, .inl f1))])) (va_Qv (fun (u : Int32 × Int32 × Int32 × Int32 × (Nat → Int32) × (Nat → Int32)) => iv u.1 0 1 ∧ iv u.2.1 0 2600 ∧ iv u.2.2.1 0 1 ∧ True) (fun (u : Int32 × Int32 × Int32 × Int32 × (Nat → Int32) × (Nat → Int32)) (t : State) => va_P (dC, dI) vwCl [(h1, .inr (6, [.int x0, .int x1, .int x2, .int x3, .int u.1])), (h0, .inr (0, [.ref h2, .ref h1, .ref h3, .ref h4, .ref h5, .ref h6, .ref h7, .int u.2.1, .int u.2.2.1, .int x7, .int u.2.2.2.1, .int x9, .int x10, .int x11, .int x12, .int x13, .int x14])), (h4, .inl (y0, 2600, .inl u.2.2.2.2.1)), (h5, .inl (y1, 2600, .inl u.2.2.2.2.2))] t.heap ∧ va_K (dC, dI) vwCl [(y0, .int), (y1, .int)] t ∧ va_D (va_A [(h1, .inr (6, [.int x0, .int x1, .int x2, .int x3, .int x4])), (h0, .inr (0, [.ref h2, .ref h1, .ref h3, .ref h4, .ref h5, .ref h6, .ref h7, .int x5, .int x6, .int x7, .int x8, .int x9, .int x10, .int x11, .int x12, .int x13, .int x14])), (h4, .inl (y0, 2600, .inl f0)), (h5, .inl (y1, 2600, .inl f1))] sz) [(h1, .inr (6, [.int x0, .int x1, .int x2, .int x3, .int u.1])), (h0, .inr (0, [.ref h2, .ref h1, .ref h3, .ref h4, .ref h5, .ref h6, .ref h7, .int u.2.1, .int u.2.2.1, .int x7, .int u.2.2.2.1, .int x9, .int x10, .int x11, .int x12, .int x13, .int x14])), (h4, .inl (y0, 2600, .inl u.2.2.2.2.1)), (h5, .inl (y1, 2600, .inl u.2.2.2.2.2))]) (va_A [(h1, .inr (6, [.int x0, .int x1, .int x2, .int x3, .int x4])), (h0, .inr (0, [.ref h2, .ref h1, .ref h3, .ref h4, .ref h5, .ref h6, .ref h7, .int x5, .int x6, .int x7, .int x8, .int x9, .int x10, .int x11, .int x12, .int x13, .int x14])), (h4, .inl (y0, 2600, .inl f0)), (h5, .inl (y1, 2600, .inl f1))] sz)) 0 0 (va_A [(h1, .inr (6, [.int x0, .int x1, .int x2, .int x3, .int x4])), (h0, .inr (0, [.ref h2, .ref h1, .ref h3, .ref h4, .ref h5, .ref h6, .ref h7, .int x5, .int x6, .int x7, .int x8, .int x9, .int x10, .int x11, .int x12, .int x13, .int x14])), (h4, .inl (y0, 2600, .inl f0)), (h5, .inl (y1, 2600, .inl f1))] sz) := by
  refine Met.ofW (cc := cX0_putNext) (maxL := 2) (ret := none) (by decide) rfl ?_
  intro p e s m args below meth c s₁ B hml hv
  obtain ⟨rfl, hsz, hP, hK, hD0⟩ := hv
  have hx := B.exec
  have hb := B.bytes
  have hr := B.returns
  have hts0 := atoms_spec (ws := Cond.code yX0_putNext cX0_putNext 2 none :: lw_G) B.pre
  have hG : ∀ w ∈ lw_G, w.before _ s = true := fun w h => hts0 w (List.mem_cons_of_mem _ h)
  have hown : s.vm.findClass RX0 = some m.cls := findClass_of_methodNamed B.named
  have hlocks := B.notSynchronized
  subst hsz
  have hD := hD0.self (sz := s.heap.size)
  generalize hAe : va_A [(h1, .inr (6, [.int x0, .int x1, .int x2, .int x3, .int x4])), (h0, .inr (0, [.ref h2, .ref h1, .ref h3, .ref h4, .ref h5, .ref h6, .ref h7, .int x5, .int x6, .int x7, .int x8, .int x9, .int x10, .int x11, .int x12, .int x13, .int x14])), (h4, .inl (y0, 2600, .inl f0)), (h5, .inl (y1, 2600, .inl f1))] s.heap.size = A at hD ⊢
  have hA : ∀ q : Nat, s.heap.size ≤ q → A q := fun q h => by rw [← hAe]; exact Or.inr h
  have hS : va_S A s.heap s.heap [] := va_S.rf
  have hP : va_P (dC, dI) vwCl [(h1, .inr (6, [.int x0, .int x1, .int x2, .int x3, .int x4])), (h0, .inr (0, [.ref h2, .ref h1, .ref h3, .ref h4, .ref h5, .ref h6, .ref h7, .int x5, .int x6, .int x7, .int x8, .int x9, .int x10, .int x11, .int x12, .int x13, .int x14])), (h4, .inl (y0, 2600, .inl f0)), (h5, .inl (y1, 2600, .inl f1))] s.heap := hP
  have hl := lv_entry ([.ref h0, .ref h1]) (n := 2) (Nat.le_of_ble_eq_true rfl)
  rw [lg_entry_eq]
  generalize (lg_sl ([.ref h0, .ref h1]) ++ List.replicate (2 - (lg_sl ([.ref h0, .ref h1])).length) Slot.unset).toArray = ls at hl ⊢
  have hl : lv_has ls 2 [(0, .ref h0), (1, .ref h1)] := hl
  generalize ([.ref h0, .ref h1] : List Value).toArray = ar at hG ⊢
  refine wq (fun Q hQ => ?_)
  refine lv_aload_n hx hb dX0_putNext_0 rfl (lv_at hl 1 rfl) ?_
  obtain ⟨hPc, hDc, hFc⟩ := nv_sub3 (wc := [(h1, .inr (6, [.int x0, .int x1, .int x2, .int x3, .int x4]))]) hP hD hS hA [0] (by decide) rfl
  have hKc := hK.sub (tys' := []) [] rfl
  refine va_calli (va_runV (As := []) (rest := []) ⟨hx, hb, hml, hown, hG⟩ (cX6_hasNext_1 l dC dI h1 s.heap.size x0 x1 x2 x3 x4 ix3 ix4) (cwV 0 hG (gV wd_673 wd_674 wd_675 wd_9 wd_676) rfl rfl rfl (by decide +kernel) ⟨Nat.le_of_ble_eq_true rfl, Nat.le_of_ble_eq_true rfl⟩) ⟨fun a U g mk q => by obtain ⟨q0, q1, qP, qK, qD⟩ := q; exact ⟨q0, q1, qP, va_K.moved (u := U) (U := U.calling g mk a) (Vm.Alike.refl U.vm) qK, qD⟩, va_recv hKc hPc (ci := 6) (q0 := 0) rfl rfl, fun U hU hW => ⟨rfl, by rw [hU], by rw [hU]; exact hPc, va_K.moved hW.alike hKc, hDc.weaken (fun _ _ _ _ => trivial)⟩⟩ rfl rfl hl.1 rfl (lv_room (Nat.le_of_ble_eq_true rfl)) dX0_putNext_1 ⟨by decide, by decide⟩) hS (fun q _ h => hFc q h) hFc (fun r1 u2 t H1 locs ht hvm hw hB hz1 hk1 hS => ?_)
  have hw : iv r1 0 1 ∧ True := hw
  obtain ⟨ir1, -⟩ := hw
  obtain ⟨hP1, hK1, hD1⟩ := hB
  rw [ht] at hP1
  have hK1 := va_K.moved hvm.symm hK1
  obtain ⟨hP, hD⟩ := nv_join (wf := [(h0, .inr (0, [.ref h2, .ref h1, .ref h3, .ref h4, .ref h5, .ref h6, .ref h7, .int x5, .int x6, .int x7, .int x8, .int x9, .int x10, .int x11, .int x12, .int x13, .int x14])), (h4, .inl (y0, 2600, .inl f0)), (h5, .inl (y1, 2600, .inl f1)), (h1, .inr (6, [.int x0, .int x1, .int x2, .int x3, .int x4]))]) hP hD [0] [1, 2, 3] rfl rfl (by decide) (by decide) hk1 hFc hP1 hD1 rfl
  have hK := (hK.sub (tys' := [(y0, .int), (y1, .int)]) [0, 1] rfl).app hK1
  generalize H1 = H at hP hS ⊢
  have hK : va_K (dC, dI) vwCl [(y0, .int), (y1, .int)] s := hK
  refine jcut (a := ∀ (b9 : Int32) (b10 : Int32) (b11 : Int32) (b12 : Nat → Int32) (b13 : Nat → Int32) (b14 : Int32) (ib9 : iv b9 0 2600) (ib10 : iv b10 0 1) (ib14 : iv b14 0 1) (H : Heap) (locs : List Loc) (hK : va_K (dC, dI) vwCl [(y0, .int), (y1, .int)] s) (hP : va_P (dC, dI) vwCl [(h0, .inr (0, [.ref h2, .ref h1, .ref h3, .ref h4, .ref h5, .ref h6, .ref h7, .int b9, .int b10, .int x7, .int b11, .int x9, .int x10, .int x11, .int x12, .int x13, .int x14])), (h4, .inl (y0, 2600, .inl b12)), (h5, .inl (y1, 2600, .inl b13)), (h1, .inr (6, [.int x0, .int x1, .int x2, .int x3, .int b14]))] H) (hD : va_D A [(h0, .inr (0, [.ref h2, .ref h1, .ref h3, .ref h4, .ref h5, .ref h6, .ref h7, .int b9, .int b10, .int x7, .int b11, .int x9, .int x10, .int x11, .int x12, .int x13, .int x14])), (h4, .inl (y0, 2600, .inl b12)), (h5, .inl (y1, 2600, .inl b13)), (h1, .inr (6, [.int x0, .int x1, .int x2, .int x3, .int b14]))]) (hS : va_S A s.heap H locs) (ls : Array Slot) (hl : lv_has ls 2 []), W p l e (headSpec (Cond.code yX0_putNext cX0_putNext 2 none :: lw_G) ({ frames := 1, cells := 0, slots := 0, locals := 21 })).room s m ar below meth c H locs 0 0 Q (F0 m 19 ls [])) ?_ (fun j15 => ?_)
  · skip
    intro b9 b10 b11 b12 b13 b14 ib9 ib10 ib14 H locs hK hP hD hS ls hl
    rw [hQ]
    obtain ⟨hP9, hD9⟩ := nv_sub2 (wc := [(h1, .inr (6, [.int x0, .int x1, .int x2, .int x3, .int b14])), (h0, .inr (0, [.ref h2, .ref h1, .ref h3, .ref h4, .ref h5, .ref h6, .ref h7, .int b9, .int b10, .int x7, .int b11, .int x9, .int x10, .int x11, .int x12, .int x13, .int x14])), (h4, .inl (y0, 2600, .inl b12)), (h5, .inl (y1, 2600, .inl b13))]) hP hD [3, 0, 1, 2] (by decide) rfl
    have hK9 := hK.sub (tys' := [(y0, .int), (y1, .int)]) [0, 1] rfl
    exact W.vret hx hb hr (fun t ht hW => ⟨⟨(b14, b9, b10, b11, b12, b13), rfl, ⟨iv_w ib14 (by decide) (by decide), iv_w ib9 (by decide) (by decide), iv_w ib10 (by decide) (by decide), trivial⟩, by rw [ht]; exact hP9, va_K.moved hW.alike hK9, hD9⟩, hS.F ht⟩) hS.2.2 dX0_putNext_19
  refine lv_if_eq (tgt := 19) hx hb dX0_putNext_4 (by decide) (fun c3 => ?_) (fun c3 => ?_)
  · skip
    subst c3
    exact j15 x5 x6 x8 f0 f1 x4 ix5 ix6 ix4 _ _ hK hP hD hS ls (lv_sub hl [] rfl)
  · skip
    have j16 : iv r1 1 1 := iv_neLo ir1 (by decide : iv 0 0 0) c3 (by decide)
    refine lv_aload_n hx hb dX0_putNext_7 rfl (lv_at hl 0 rfl) ?_
    refine lv_aload_n hx hb dX0_putNext_8 rfl (lv_at hl 1 rfl) ?_
    refine lv_aload_n hx hb dX0_putNext_9 rfl (lv_at hl 0 rfl) ?_
    refine va_get (D := (dC, dI)) (ci := 0) (v := .int x8) (C := RX0) (T := TX0) (N := 17) hx hb hG inGX0 hown hK hP 0 rfl rfl 10 (by decide) (hG _ wd_331) (fun _ h9 => h9) rfl dX0_putNext_10 ?_
    obtain ⟨hPc, hDc, hFc⟩ := nv_sub3 (wc := [(h1, .inr (6, [.int x0, .int x1, .int x2, .int x3, .int x4]))]) hP hD hS hA [3] (by decide) rfl
    have hKc := hK.sub (tys' := []) [] rfl
    refine va_calli (va_runV (As := [.int x8]) (rest := [.ref h0]) ⟨hx, hb, hml, hown, hG⟩ (cX6_next_1 l dC dI h1 H.size x8 x0 x1 x2 x3 x4 ix3 ix4) (cwV 1 hG (gV wd_677 wd_678 wd_679 wd_9 wd_680) rfl rfl rfl (by decide +kernel) ⟨Nat.le_of_ble_eq_true rfl, Nat.le_of_ble_eq_true rfl⟩) ⟨fun a U g mk q => by obtain ⟨q0, q1, qP, qK, qD⟩ := q; exact ⟨q0, q1, qP, va_K.moved (u := U) (U := U.calling g mk a) (Vm.Alike.refl U.vm) qK, qD⟩, va_recv hKc hPc (ci := 6) (q0 := 0) rfl rfl, fun U hU hW => ⟨rfl, by rw [hU], by rw [hU]; exact hPc, va_K.moved hW.alike hKc, hDc.weaken (fun _ _ _ _ => trivial)⟩⟩ rfl rfl hl.1 rfl (lv_room (Nat.le_of_ble_eq_true rfl)) dX0_putNext_13 ⟨by decide, by decide⟩) hS (fun q _ h => hFc q h) hFc (fun r17 u18 t H1 locs ht hvm hw hB hz1 hk1 hS => ?_)
    obtain ⟨u18_0, rfl⟩ : ∃ z, z = u18 := ⟨_, rfl⟩
    have hw : iv u18_0 0 1 ∧ True := hw
    obtain ⟨iu18_0, -⟩ := hw
    obtain ⟨hP1, hK1, hD1⟩ := hB
    rw [ht] at hP1
    have hK1 := va_K.moved hvm.symm hK1
    obtain ⟨hP, hD⟩ := nv_join (wf := [(h0, .inr (0, [.ref h2, .ref h1, .ref h3, .ref h4, .ref h5, .ref h6, .ref h7, .int x5, .int x6, .int x7, .int x8, .int x9, .int x10, .int x11, .int x12, .int x13, .int x14])), (h4, .inl (y0, 2600, .inl f0)), (h5, .inl (y1, 2600, .inl f1)), (h1, .inr (6, [.int x0, .int x1, .int x2, .int x3, .int u18_0]))]) hP hD [3] [0, 1, 2] rfl rfl (by decide) (by decide) hk1 hFc hP1 hD1 rfl
    have hK := (hK.sub (tys' := [(y0, .int), (y1, .int)]) [0, 1] rfl).app hK1
    generalize H1 = H at hP hS ⊢
    have hK : va_K (dC, dI) vwCl [(y0, .int), (y1, .int)] s := hK
    obtain ⟨hPc, hDc, hFc⟩ := nv_sub3 (wc := [(h0, .inr (0, [.ref h2, .ref h1, .ref h3, .ref h4, .ref h5, .ref h6, .ref h7, .int x5, .int x6, .int x7, .int x8, .int x9, .int x10, .int x11, .int x12, .int x13, .int x14])), (h4, .inl (y0, 2600, .inl f0)), (h5, .inl (y1, 2600, .inl f1))]) hP hD hS hA [0, 1, 2] (by decide) rfl
    have hKc := hK.sub (tys' := [(y0, .int), (y1, .int)]) [0, 1] rfl
    refine va_callv (va_runV (As := [.int r17]) (rest := []) ⟨hx, hb, hml, hown, hG⟩ (cX0_putWord_1 l dC dI h0 h2 h1 h3 h4 h5 h6 h7 y0 y1 H.size r17 x5 x6 x7 x8 x9 x10 x11 x12 x13 x14 f0 f1 ix5 ix6 ix12) (cwV 1 hG (gV wd_610 wd_612 wp_16 wd_8 wd_613) rfl rfl rfl (by decide +kernel) ⟨Nat.le_of_ble_eq_true rfl, Nat.le_of_ble_eq_true rfl⟩) ⟨fun a U g mk q => by obtain ⟨q0, q1, qP, qK, qD⟩ := q; exact ⟨q0, q1, qP, va_K.moved (u := U) (U := U.calling g mk a) (Vm.Alike.refl U.vm) qK, qD⟩, va_recv hKc hPc (ci := 0) (q0 := 0) rfl rfl, fun U hU hW => ⟨rfl, by rw [hU], by rw [hU]; exact hPc, va_K.moved hW.alike hKc, hDc.weaken (fun _ _ _ _ => trivial)⟩⟩ rfl rfl hl.1 rfl (lv_room (Nat.le_of_ble_eq_true rfl)) dX0_putNext_16 ⟨by decide, by decide⟩) hS (fun q _ h => hFc q h) hFc (fun u20 t H1 locs ht hvm hw hB hz1 hk1 hS => ?_)
    obtain ⟨u20_0, u20_1, u20_2, u20_3, u20_4⟩ := u20
    have hw : iv u20_0 0 2600 ∧ iv u20_1 0 1 ∧ True := hw
    obtain ⟨iu20_0, iu20_1, -⟩ := hw
    obtain ⟨hP1, hK1, hD1⟩ := hB
    rw [ht] at hP1
    have hK1 := va_K.moved hvm.symm hK1
    obtain ⟨hP, hD⟩ := nv_join (wf := [(h1, .inr (6, [.int x0, .int x1, .int x2, .int x3, .int u18_0])), (h0, .inr (0, [.ref h2, .ref h1, .ref h3, .ref h4, .ref h5, .ref h6, .ref h7, .int u20_0, .int u20_1, .int x7, .int u20_2, .int x9, .int x10, .int x11, .int x12, .int x13, .int x14])), (h4, .inl (y0, 2600, .inl u20_3)), (h5, .inl (y1, 2600, .inl u20_4))]) hP hD [0, 1, 2] [3] rfl rfl (by decide) (by decide) hk1 hFc hP1 hD1 rfl
    have hK := (hK.sub (tys' := []) [] rfl).app hK1
    generalize H1 = H at hP hS ⊢
    have hK : va_K (dC, dI) vwCl [(y0, .int), (y1, .int)] s := hK
    exact j15 u20_0 u20_1 u20_2 u20_3 u20_4 u18_0 iu20_0 iu20_1 iu18_0 _ _ hK (hP.sub (ws' := _) [1, 2, 3, 0] rfl) (hD.sub (ws' := _) [1, 2, 3, 0] (by decide) rfl) hS ls (lv_sub hl [] rfl)
set_option maxHeartbeats 100000000 in
set_option maxRecDepth 100000 in
theorem cX0_putNext_2 (l : Launch) (dC : Nat → ClassId) (dI : Nat → Nat → Nat) (h0 h1 h2 h3 h4 h5 h6 h7 : Nat) (y0 y1 : ClassId) (sz : Nat) (x0 x1 x2 x3 x4 x5 x6 x7 x8 x9 x10 x11 x12 x13 x14 : Int32) (f0 f1 : Nat → Int32) (ix3 : iv x3 0 1) (ix4 : iv x4 0 1) (ix5 : iv x5 0 2600) (ix6 : iv x6 0 1) (ix12 : iv x12 0 1) : Met l yX0_putNext (Cond.code yX0_putNext cX0_putNext 2 none :: lw_G) ({ frames := 1, cells := 0, slots := 0, locals := 21 }) (va_Pc [.ref h0, .ref h1] (fun U => U.heap.size = sz ∧ va_P (dC, dI) vwCl [(h1, .inr (6, [.int x0, .int x1, .int x2, .int x3, .int x4])), (h0, .inr (0, [.ref h2, .ref h3, .ref h1, .ref h4, .ref h5, .ref h6, .ref h7, .int x5, .int x6, .int x7, .int x8, .int x9, .int x10, .int x11, .int x12, .int x13, .int x14])), (h4, .inl (y0, 2600, .inl f0)), (h5, .inl (y1, 2600, .inl f1))] U.heap ∧ va_K (dC, dI) vwCl [(y0, .int), (y1, .int)] U ∧ va_D (fun _ => True) [(h1, .inr (6, [.int x0, .int x1, .int x2, .int x3, .int x4])), (h0, .inr (0, [.ref h2, .ref h3, .ref h1, .ref h4, .ref h5, .ref h6, .ref h7, .int x5, .int x6, .int x7, .int x8, .int x9, .int x10, .int x11, .int x12, .int x13, .int x14])), (h4, .inl (y0, 2600, .inl f0)), (h5, .inl (y1, 2600, .inl f1))])) (va_Qv (fun (u : Int32 × Int32 × Int32 × Int32 × (Nat → Int32) × (Nat → Int32)) => iv u.1 0 1 ∧ iv u.2.1 0 2600 ∧ iv u.2.2.1 0 1 ∧ True) (fun (u : Int32 × Int32 × Int32 × Int32 × (Nat → Int32) × (Nat → Int32)) (t : State) => va_P (dC, dI) vwCl [(h1, .inr (6, [.int x0, .int x1, .int x2, .int x3, .int u.1])), (h0, .inr (0, [.ref h2, .ref h3, .ref h1, .ref h4, .ref h5, .ref h6, .ref h7, .int u.2.1, .int u.2.2.1, .int x7, .int u.2.2.2.1, .int x9, .int x10, .int x11, .int x12, .int x13, .int x14])), (h4, .inl (y0, 2600, .inl u.2.2.2.2.1)), (h5, .inl (y1, 2600, .inl u.2.2.2.2.2))] t.heap ∧ va_K (dC, dI) vwCl [(y0, .int), (y1, .int)] t ∧ va_D (va_A [(h1, .inr (6, [.int x0, .int x1, .int x2, .int x3, .int x4])), (h0, .inr (0, [.ref h2, .ref h3, .ref h1, .ref h4, .ref h5, .ref h6, .ref h7, .int x5, .int x6, .int x7, .int x8, .int x9, .int x10, .int x11, .int x12, .int x13, .int x14])), (h4, .inl (y0, 2600, .inl f0)), (h5, .inl (y1, 2600, .inl f1))] sz) [(h1, .inr (6, [.int x0, .int x1, .int x2, .int x3, .int u.1])), (h0, .inr (0, [.ref h2, .ref h3, .ref h1, .ref h4, .ref h5, .ref h6, .ref h7, .int u.2.1, .int u.2.2.1, .int x7, .int u.2.2.2.1, .int x9, .int x10, .int x11, .int x12, .int x13, .int x14])), (h4, .inl (y0, 2600, .inl u.2.2.2.2.1)), (h5, .inl (y1, 2600, .inl u.2.2.2.2.2))]) (va_A [(h1, .inr (6, [.int x0, .int x1, .int x2, .int x3, .int x4])), (h0, .inr (0, [.ref h2, .ref h3, .ref h1, .ref h4, .ref h5, .ref h6, .ref h7, .int x5, .int x6, .int x7, .int x8, .int x9, .int x10, .int x11, .int x12, .int x13, .int x14])), (h4, .inl (y0, 2600, .inl f0)), (h5, .inl (y1, 2600, .inl f1))] sz)) 0 0 (va_A [(h1, .inr (6, [.int x0, .int x1, .int x2, .int x3, .int x4])), (h0, .inr (0, [.ref h2, .ref h3, .ref h1, .ref h4, .ref h5, .ref h6, .ref h7, .int x5, .int x6, .int x7, .int x8, .int x9, .int x10, .int x11, .int x12, .int x13, .int x14])), (h4, .inl (y0, 2600, .inl f0)), (h5, .inl (y1, 2600, .inl f1))] sz) := by
  refine Met.ofW (cc := cX0_putNext) (maxL := 2) (ret := none) (by decide) rfl ?_
  intro p e s m args below meth c s₁ B hml hv
  obtain ⟨rfl, hsz, hP, hK, hD0⟩ := hv
  have hx := B.exec
  have hb := B.bytes
  have hr := B.returns
  have hts0 := atoms_spec (ws := Cond.code yX0_putNext cX0_putNext 2 none :: lw_G) B.pre
  have hG : ∀ w ∈ lw_G, w.before _ s = true := fun w h => hts0 w (List.mem_cons_of_mem _ h)
  have hown : s.vm.findClass RX0 = some m.cls := findClass_of_methodNamed B.named
  have hlocks := B.notSynchronized
  subst hsz
  have hD := hD0.self (sz := s.heap.size)
  generalize hAe : va_A [(h1, .inr (6, [.int x0, .int x1, .int x2, .int x3, .int x4])), (h0, .inr (0, [.ref h2, .ref h3, .ref h1, .ref h4, .ref h5, .ref h6, .ref h7, .int x5, .int x6, .int x7, .int x8, .int x9, .int x10, .int x11, .int x12, .int x13, .int x14])), (h4, .inl (y0, 2600, .inl f0)), (h5, .inl (y1, 2600, .inl f1))] s.heap.size = A at hD ⊢
  have hA : ∀ q : Nat, s.heap.size ≤ q → A q := fun q h => by rw [← hAe]; exact Or.inr h
  have hS : va_S A s.heap s.heap [] := va_S.rf
  have hP : va_P (dC, dI) vwCl [(h1, .inr (6, [.int x0, .int x1, .int x2, .int x3, .int x4])), (h0, .inr (0, [.ref h2, .ref h3, .ref h1, .ref h4, .ref h5, .ref h6, .ref h7, .int x5, .int x6, .int x7, .int x8, .int x9, .int x10, .int x11, .int x12, .int x13, .int x14])), (h4, .inl (y0, 2600, .inl f0)), (h5, .inl (y1, 2600, .inl f1))] s.heap := hP
  have hl := lv_entry ([.ref h0, .ref h1]) (n := 2) (Nat.le_of_ble_eq_true rfl)
  rw [lg_entry_eq]
  generalize (lg_sl ([.ref h0, .ref h1]) ++ List.replicate (2 - (lg_sl ([.ref h0, .ref h1])).length) Slot.unset).toArray = ls at hl ⊢
  have hl : lv_has ls 2 [(0, .ref h0), (1, .ref h1)] := hl
  generalize ([.ref h0, .ref h1] : List Value).toArray = ar at hG ⊢
  refine wq (fun Q hQ => ?_)
  refine lv_aload_n hx hb dX0_putNext_0 rfl (lv_at hl 1 rfl) ?_
  obtain ⟨hPc, hDc, hFc⟩ := nv_sub3 (wc := [(h1, .inr (6, [.int x0, .int x1, .int x2, .int x3, .int x4]))]) hP hD hS hA [0] (by decide) rfl
  have hKc := hK.sub (tys' := []) [] rfl
  refine va_calli (va_runV (As := []) (rest := []) ⟨hx, hb, hml, hown, hG⟩ (cX6_hasNext_1 l dC dI h1 s.heap.size x0 x1 x2 x3 x4 ix3 ix4) (cwV 0 hG (gV wd_673 wd_674 wd_675 wd_9 wd_676) rfl rfl rfl (by decide +kernel) ⟨Nat.le_of_ble_eq_true rfl, Nat.le_of_ble_eq_true rfl⟩) ⟨fun a U g mk q => by obtain ⟨q0, q1, qP, qK, qD⟩ := q; exact ⟨q0, q1, qP, va_K.moved (u := U) (U := U.calling g mk a) (Vm.Alike.refl U.vm) qK, qD⟩, va_recv hKc hPc (ci := 6) (q0 := 0) rfl rfl, fun U hU hW => ⟨rfl, by rw [hU], by rw [hU]; exact hPc, va_K.moved hW.alike hKc, hDc.weaken (fun _ _ _ _ => trivial)⟩⟩ rfl rfl hl.1 rfl (lv_room (Nat.le_of_ble_eq_true rfl)) dX0_putNext_1 ⟨by decide, by decide⟩) hS (fun q _ h => hFc q h) hFc (fun r1 u2 t H1 locs ht hvm hw hB hz1 hk1 hS => ?_)
  have hw : iv r1 0 1 ∧ True := hw
  obtain ⟨ir1, -⟩ := hw
  obtain ⟨hP1, hK1, hD1⟩ := hB
  rw [ht] at hP1
  have hK1 := va_K.moved hvm.symm hK1
  obtain ⟨hP, hD⟩ := nv_join (wf := [(h0, .inr (0, [.ref h2, .ref h3, .ref h1, .ref h4, .ref h5, .ref h6, .ref h7, .int x5, .int x6, .int x7, .int x8, .int x9, .int x10, .int x11, .int x12, .int x13, .int x14])), (h4, .inl (y0, 2600, .inl f0)), (h5, .inl (y1, 2600, .inl f1)), (h1, .inr (6, [.int x0, .int x1, .int x2, .int x3, .int x4]))]) hP hD [0] [1, 2, 3] rfl rfl (by decide) (by decide) hk1 hFc hP1 hD1 rfl
  have hK := (hK.sub (tys' := [(y0, .int), (y1, .int)]) [0, 1] rfl).app hK1
  generalize H1 = H at hP hS ⊢
  have hK : va_K (dC, dI) vwCl [(y0, .int), (y1, .int)] s := hK
  refine jcut (a := ∀ (b9 : Int32) (b10 : Int32) (b11 : Int32) (b12 : Nat → Int32) (b13 : Nat → Int32) (b14 : Int32) (ib9 : iv b9 0 2600) (ib10 : iv b10 0 1) (ib14 : iv b14 0 1) (H : Heap) (locs : List Loc) (hK : va_K (dC, dI) vwCl [(y0, .int), (y1, .int)] s) (hP : va_P (dC, dI) vwCl [(h0, .inr (0, [.ref h2, .ref h3, .ref h1, .ref h4, .ref h5, .ref h6, .ref h7, .int b9, .int b10, .int x7, .int b11, .int x9, .int x10, .int x11, .int x12, .int x13, .int x14])), (h4, .inl (y0, 2600, .inl b12)), (h5, .inl (y1, 2600, .inl b13)), (h1, .inr (6, [.int x0, .int x1, .int x2, .int x3, .int b14]))] H) (hD : va_D A [(h0, .inr (0, [.ref h2, .ref h3, .ref h1, .ref h4, .ref h5, .ref h6, .ref h7, .int b9, .int b10, .int x7, .int b11, .int x9, .int x10, .int x11, .int x12, .int x13, .int x14])), (h4, .inl (y0, 2600, .inl b12)), (h5, .inl (y1, 2600, .inl b13)), (h1, .inr (6, [.int x0, .int x1, .int x2, .int x3, .int b14]))]) (hS : va_S A s.heap H locs) (ls : Array Slot) (hl : lv_has ls 2 []), W p l e (headSpec (Cond.code yX0_putNext cX0_putNext 2 none :: lw_G) ({ frames := 1, cells := 0, slots := 0, locals := 21 })).room s m ar below meth c H locs 0 0 Q (F0 m 19 ls [])) ?_ (fun j15 => ?_)
  · skip
    intro b9 b10 b11 b12 b13 b14 ib9 ib10 ib14 H locs hK hP hD hS ls hl
    rw [hQ]
    obtain ⟨hP9, hD9⟩ := nv_sub2 (wc := [(h1, .inr (6, [.int x0, .int x1, .int x2, .int x3, .int b14])), (h0, .inr (0, [.ref h2, .ref h3, .ref h1, .ref h4, .ref h5, .ref h6, .ref h7, .int b9, .int b10, .int x7, .int b11, .int x9, .int x10, .int x11, .int x12, .int x13, .int x14])), (h4, .inl (y0, 2600, .inl b12)), (h5, .inl (y1, 2600, .inl b13))]) hP hD [3, 0, 1, 2] (by decide) rfl
    have hK9 := hK.sub (tys' := [(y0, .int), (y1, .int)]) [0, 1] rfl
    exact W.vret hx hb hr (fun t ht hW => ⟨⟨(b14, b9, b10, b11, b12, b13), rfl, ⟨iv_w ib14 (by decide) (by decide), iv_w ib9 (by decide) (by decide), iv_w ib10 (by decide) (by decide), trivial⟩, by rw [ht]; exact hP9, va_K.moved hW.alike hK9, hD9⟩, hS.F ht⟩) hS.2.2 dX0_putNext_19
  refine lv_if_eq (tgt := 19) hx hb dX0_putNext_4 (by decide) (fun c3 => ?_) (fun c3 => ?_)
  · skip
    subst c3
    exact j15 x5 x6 x8 f0 f1 x4 ix5 ix6 ix4 _ _ hK hP hD hS ls (lv_sub hl [] rfl)
  · skip
    have j16 : iv r1 1 1 := iv_neLo ir1 (by decide : iv 0 0 0) c3 (by decide)
    refine lv_aload_n hx hb dX0_putNext_7 rfl (lv_at hl 0 rfl) ?_
    refine lv_aload_n hx hb dX0_putNext_8 rfl (lv_at hl 1 rfl) ?_
    refine lv_aload_n hx hb dX0_putNext_9 rfl (lv_at hl 0 rfl) ?_
    refine va_get (D := (dC, dI)) (ci := 0) (v := .int x8) (C := RX0) (T := TX0) (N := 17) hx hb hG inGX0 hown hK hP 0 rfl rfl 10 (by decide) (hG _ wd_331) (fun _ h9 => h9) rfl dX0_putNext_10 ?_
    obtain ⟨hPc, hDc, hFc⟩ := nv_sub3 (wc := [(h1, .inr (6, [.int x0, .int x1, .int x2, .int x3, .int x4]))]) hP hD hS hA [3] (by decide) rfl
    have hKc := hK.sub (tys' := []) [] rfl
    refine va_calli (va_runV (As := [.int x8]) (rest := [.ref h0]) ⟨hx, hb, hml, hown, hG⟩ (cX6_next_1 l dC dI h1 H.size x8 x0 x1 x2 x3 x4 ix3 ix4) (cwV 1 hG (gV wd_677 wd_678 wd_679 wd_9 wd_680) rfl rfl rfl (by decide +kernel) ⟨Nat.le_of_ble_eq_true rfl, Nat.le_of_ble_eq_true rfl⟩) ⟨fun a U g mk q => by obtain ⟨q0, q1, qP, qK, qD⟩ := q; exact ⟨q0, q1, qP, va_K.moved (u := U) (U := U.calling g mk a) (Vm.Alike.refl U.vm) qK, qD⟩, va_recv hKc hPc (ci := 6) (q0 := 0) rfl rfl, fun U hU hW => ⟨rfl, by rw [hU], by rw [hU]; exact hPc, va_K.moved hW.alike hKc, hDc.weaken (fun _ _ _ _ => trivial)⟩⟩ rfl rfl hl.1 rfl (lv_room (Nat.le_of_ble_eq_true rfl)) dX0_putNext_13 ⟨by decide, by decide⟩) hS (fun q _ h => hFc q h) hFc (fun r17 u18 t H1 locs ht hvm hw hB hz1 hk1 hS => ?_)
    obtain ⟨u18_0, rfl⟩ : ∃ z, z = u18 := ⟨_, rfl⟩
    have hw : iv u18_0 0 1 ∧ True := hw
    obtain ⟨iu18_0, -⟩ := hw
    obtain ⟨hP1, hK1, hD1⟩ := hB
    rw [ht] at hP1
    have hK1 := va_K.moved hvm.symm hK1
    obtain ⟨hP, hD⟩ := nv_join (wf := [(h0, .inr (0, [.ref h2, .ref h3, .ref h1, .ref h4, .ref h5, .ref h6, .ref h7, .int x5, .int x6, .int x7, .int x8, .int x9, .int x10, .int x11, .int x12, .int x13, .int x14])), (h4, .inl (y0, 2600, .inl f0)), (h5, .inl (y1, 2600, .inl f1)), (h1, .inr (6, [.int x0, .int x1, .int x2, .int x3, .int u18_0]))]) hP hD [3] [0, 1, 2] rfl rfl (by decide) (by decide) hk1 hFc hP1 hD1 rfl
    have hK := (hK.sub (tys' := [(y0, .int), (y1, .int)]) [0, 1] rfl).app hK1
    generalize H1 = H at hP hS ⊢
    have hK : va_K (dC, dI) vwCl [(y0, .int), (y1, .int)] s := hK
    obtain ⟨hPc, hDc, hFc⟩ := nv_sub3 (wc := [(h0, .inr (0, [.ref h2, .ref h3, .ref h1, .ref h4, .ref h5, .ref h6, .ref h7, .int x5, .int x6, .int x7, .int x8, .int x9, .int x10, .int x11, .int x12, .int x13, .int x14])), (h4, .inl (y0, 2600, .inl f0)), (h5, .inl (y1, 2600, .inl f1))]) hP hD hS hA [0, 1, 2] (by decide) rfl
    have hKc := hK.sub (tys' := [(y0, .int), (y1, .int)]) [0, 1] rfl
    refine va_callv (va_runV (As := [.int r17]) (rest := []) ⟨hx, hb, hml, hown, hG⟩ (cX0_putWord_1 l dC dI h0 h2 h3 h1 h4 h5 h6 h7 y0 y1 H.size r17 x5 x6 x7 x8 x9 x10 x11 x12 x13 x14 f0 f1 ix5 ix6 ix12) (cwV 1 hG (gV wd_610 wd_612 wp_16 wd_8 wd_613) rfl rfl rfl (by decide +kernel) ⟨Nat.le_of_ble_eq_true rfl, Nat.le_of_ble_eq_true rfl⟩) ⟨fun a U g mk q => by obtain ⟨q0, q1, qP, qK, qD⟩ := q; exact ⟨q0, q1, qP, va_K.moved (u := U) (U := U.calling g mk a) (Vm.Alike.refl U.vm) qK, qD⟩, va_recv hKc hPc (ci := 0) (q0 := 0) rfl rfl, fun U hU hW => ⟨rfl, by rw [hU], by rw [hU]; exact hPc, va_K.moved hW.alike hKc, hDc.weaken (fun _ _ _ _ => trivial)⟩⟩ rfl rfl hl.1 rfl (lv_room (Nat.le_of_ble_eq_true rfl)) dX0_putNext_16 ⟨by decide, by decide⟩) hS (fun q _ h => hFc q h) hFc (fun u20 t H1 locs ht hvm hw hB hz1 hk1 hS => ?_)
    obtain ⟨u20_0, u20_1, u20_2, u20_3, u20_4⟩ := u20
    have hw : iv u20_0 0 2600 ∧ iv u20_1 0 1 ∧ True := hw
    obtain ⟨iu20_0, iu20_1, -⟩ := hw
    obtain ⟨hP1, hK1, hD1⟩ := hB
    rw [ht] at hP1
    have hK1 := va_K.moved hvm.symm hK1
    obtain ⟨hP, hD⟩ := nv_join (wf := [(h1, .inr (6, [.int x0, .int x1, .int x2, .int x3, .int u18_0])), (h0, .inr (0, [.ref h2, .ref h3, .ref h1, .ref h4, .ref h5, .ref h6, .ref h7, .int u20_0, .int u20_1, .int x7, .int u20_2, .int x9, .int x10, .int x11, .int x12, .int x13, .int x14])), (h4, .inl (y0, 2600, .inl u20_3)), (h5, .inl (y1, 2600, .inl u20_4))]) hP hD [0, 1, 2] [3] rfl rfl (by decide) (by decide) hk1 hFc hP1 hD1 rfl
    have hK := (hK.sub (tys' := []) [] rfl).app hK1
    generalize H1 = H at hP hS ⊢
    have hK : va_K (dC, dI) vwCl [(y0, .int), (y1, .int)] s := hK
    exact j15 u20_0 u20_1 u20_2 u20_3 u20_4 u18_0 iu20_0 iu20_1 iu18_0 _ _ hK (hP.sub (ws' := _) [1, 2, 3, 0] rfl) (hD.sub (ws' := _) [1, 2, 3, 0] (by decide) rfl) hS ls (lv_sub hl [] rfl)
