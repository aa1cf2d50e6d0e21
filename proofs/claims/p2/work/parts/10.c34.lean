set_option maxHeartbeats 100000000 in
set_option maxRecDepth 100000 in
theorem cX2_turn_1 (l : Launch) (dC : Nat → ClassId) (dI : Nat → Nat → Nat) (h0 h1 h2 h3 : Nat) (y0 : ClassId) (sz : Nat) (x0 x1 x2 x3 x4 x5 x6 : Int32) (f0 : Nat → Int32) (ix6 : iv x6 0 1) : Met l yX2_turn (Cond.code yX2_turn cX2_turn 6 (some .int) :: lw_G) ({ frames := 1, cells := 0, slots := 0, locals := 25 }) (va_Pc [.ref h0, .int x0, .int x1] (fun U => U.heap.size = sz ∧ va_P (dC, dI) vwCl [(h0, .inr (2, [.ref h1, .ref h2, .ref h3, .int x2, .int x3, .int x4, .int x5, .int x6])), (h1, .inl (y0, 16, .inl f0))] U.heap ∧ va_K (dC, dI) vwCl [(y0, .int)] U ∧ va_D (fun _ => True) [(h0, .inr (2, [.ref h1, .ref h2, .ref h3, .int x2, .int x3, .int x4, .int x5, .int x6])), (h1, .inl (y0, 16, .inl f0))])) (va_Qi (fun (r : Int32) (u : Int32 × (Nat → Int32)) => iv u.1 0 1 ∧ True) (fun (u : Int32 × (Nat → Int32)) (t : State) => va_P (dC, dI) vwCl [(h0, .inr (2, [.ref h1, .ref h2, .ref h3, .int x2, .int x3, .int x4, .int x5, .int u.1])), (h1, .inl (y0, 16, .inl u.2))] t.heap ∧ va_K (dC, dI) vwCl [(y0, .int)] t ∧ va_D (va_A [(h0, .inr (2, [.ref h1, .ref h2, .ref h3, .int x2, .int x3, .int x4, .int x5, .int x6])), (h1, .inl (y0, 16, .inl f0))] sz) [(h0, .inr (2, [.ref h1, .ref h2, .ref h3, .int x2, .int x3, .int x4, .int x5, .int u.1])), (h1, .inl (y0, 16, .inl u.2))]) (va_A [(h0, .inr (2, [.ref h1, .ref h2, .ref h3, .int x2, .int x3, .int x4, .int x5, .int x6])), (h1, .inl (y0, 16, .inl f0))] sz)) 0 0 (va_A [(h0, .inr (2, [.ref h1, .ref h2, .ref h3, .int x2, .int x3, .int x4, .int x5, .int x6])), (h1, .inl (y0, 16, .inl f0))] sz) := by
  refine Met.ofW (cc := cX2_turn) (maxL := 6) (ret := (some .int)) (by decide) rfl ?_
  intro p e s m args below meth c s₁ B hml hv
  obtain ⟨rfl, hsz, hP, hK, hD0⟩ := hv
  have hx := B.exec
  have hb := B.bytes
  have hr := B.returns
  have hts0 := atoms_spec (ws := Cond.code yX2_turn cX2_turn 6 (some .int) :: lw_G) B.pre
  have hG : ∀ w ∈ lw_G, w.before _ s = true := fun w h => hts0 w (List.mem_cons_of_mem _ h)
  have hown : s.vm.findClass RX2 = some m.cls := findClass_of_methodNamed B.named
  have hlocks := B.notSynchronized
  subst hsz
  have hD := hD0.self (sz := s.heap.size)
  generalize hAe : va_A [(h0, .inr (2, [.ref h1, .ref h2, .ref h3, .int x2, .int x3, .int x4, .int x5, .int x6])), (h1, .inl (y0, 16, .inl f0))] s.heap.size = A at hD ⊢
  have hA : ∀ q : Nat, s.heap.size ≤ q → A q := fun q h => by rw [← hAe]; exact Or.inr h
  have hS : va_S A s.heap s.heap [] := va_S.rf
  have hP : va_P (dC, dI) vwCl [(h0, .inr (2, [.ref h1, .ref h2, .ref h3, .int x2, .int x3, .int x4, .int x5, .int x6])), (h1, .inl (y0, 16, .inl f0))] s.heap := hP
  have hl := lv_entry ([.ref h0, .int x0, .int x1]) (n := 6) (Nat.le_of_ble_eq_true rfl)
  rw [lg_entry_eq]
  generalize (lg_sl ([.ref h0, .int x0, .int x1]) ++ List.replicate (6 - (lg_sl ([.ref h0, .int x0, .int x1])).length) Slot.unset).toArray = ls at hl ⊢
  have hl : lv_has ls 6 [(0, .ref h0), (1, .int x0), (2, .int x1)] := hl
  generalize ([.ref h0, .int x0, .int x1] : List Value).toArray = ar at hG ⊢
  refine wq (fun Q hQ => ?_)
  refine lv_iload_n hx hb dX2_turn_0 rfl (lv_at hl 1 rfl) ?_
  refine lv_iconst (v := 1) hx hb dX2_turn_1 (by decide) ?_
  refine lv_icmp_ne (tgt := 19) hx hb dX2_turn_2 (by decide) (fun c1 => ?_) (fun c1 => ?_)
  · skip
    refine lv_iload_n hx hb dX2_turn_19 rfl (lv_at hl 1 rfl) ?_
    refine lv_iconst (v := 3) hx hb dX2_turn_20 (by decide) ?_
    refine lv_icmp_ne (tgt := 47) hx hb dX2_turn_21 (by decide) (fun c2 => ?_) (fun c2 => ?_)
    · skip
      refine lv_aload_n hx hb dX2_turn_47 rfl (lv_at hl 0 rfl) ?_
      refine va_get (D := (dC, dI)) (ci := 2) (v := .int x6) (C := RX2) (T := TX2) (N := 8) hx hb hG inGX2 hown hK hP 0 rfl rfl 7 (by decide) (hG _ wd_156) (fun _ h9 => h9) rfl dX2_turn_48 ?_
      refine jcut (a := ∀ (b5 : Int32) (b6 : Int32) (ib5 : iv b5 128 32768) (ib6 : iv b6 0 1) (H : Heap) (locs : List Loc) (hK : va_K (dC, dI) vwCl [(y0, .int)] s) (hP : va_P (dC, dI) vwCl [(h0, .inr (2, [.ref h1, .ref h2, .ref h3, .int x2, .int x3, .int x4, .int x5, .int b6])), (h1, .inl (y0, 16, .inl f0))] H) (hD : va_D A [(h0, .inr (2, [.ref h1, .ref h2, .ref h3, .int x2, .int x3, .int x4, .int x5, .int b6])), (h1, .inl (y0, 16, .inl f0))]) (hS : va_S A s.heap H locs) (ls : Array Slot) (hl : lv_has ls 6 [(0, .ref h0), (1, .int x0), (2, .int x1)]), W p l e (headSpec (Cond.code yX2_turn cX2_turn 6 (some .int) :: lw_G) ({ frames := 1, cells := 0, slots := 0, locals := 25 })).room s m ar below meth c H locs 0 0 Q (F0 m 62 ls [.int b5])) ?_ (fun j7 => ?_)
      · skip
        intro b5 b6 ib5 ib6 H locs hK hP hD hS ls hl
        refine lv_istore_n (lv' := [(3, .int b5), (0, .ref h0), (1, .int x0), (2, .int x1)]) hx hb dX2_turn_62 rfl hl (by decide) rfl (fun ls hl => ?_)
        refine lv_iload_n hx hb dX2_turn_63 rfl (lv_at hl 2 rfl) ?_
        refine jcut (a := ∀ (b13 : Int32) (ib13 : iv b13 0 32768) (H : Heap) (locs : List Loc) (hK : va_K (dC, dI) vwCl [(y0, .int)] s) (hP : va_P (dC, dI) vwCl [(h0, .inr (2, [.ref h1, .ref h2, .ref h3, .int x2, .int x3, .int x4, .int x5, .int b6])), (h1, .inl (y0, 16, .inl f0))] H) (hD : va_D A [(h0, .inr (2, [.ref h1, .ref h2, .ref h3, .int x2, .int x3, .int x4, .int x5, .int b6])), (h1, .inl (y0, 16, .inl f0))]) (hS : va_S A s.heap H locs) (ls : Array Slot) (hl : lv_has ls 6 [(0, .ref h0), (2, .int x1)]), W p l e (headSpec (Cond.code yX2_turn cX2_turn 6 (some .int) :: lw_G) ({ frames := 1, cells := 0, slots := 0, locals := 25 })).room s m ar below meth c H locs 0 0 Q (F0 m 83 ls [.int b13])) ?_ (fun j14 => ?_)
        · skip
          intro b13 ib13 H locs hK hP hD hS ls hl
          refine lv_istore (lv' := [(4, .int b13), (0, .ref h0), (2, .int x1)]) hx hb dX2_turn_83 hl (by decide) rfl (fun ls hl => ?_)
          refine lv_iload_n hx hb dX2_turn_85 rfl (lv_at hl 2 rfl) ?_
          refine lv_iconst (v := 1) hx hb dX2_turn_86 (by decide) ?_
          refine lv_ishr hx hb dX2_turn_87 ?_
          refine lv_topi (fun v15 ev15 => ?_)
          have iv15 : iv v15 (-1073741824) 1073741823 := iv_eq ev15 (iv_shr 1 (by decide) (iv_any x1) (by decide) (by decide))
          refine lv_iload hx hb dX2_turn_88 (lv_at hl 0 rfl) ?_
          refine lv_ior hx hb dX2_turn_90 ?_
          refine lv_topi (fun v16 ev16 => ?_)
          refine lv_istore (lv' := [(5, .int v16), (4, .int b13), (0, .ref h0), (2, .int x1)]) hx hb dX2_turn_91 hl (by decide) rfl (fun ls hl => ?_)
          refine lv_aload_n hx hb dX2_turn_93 rfl (lv_at hl 2 rfl) ?_
          refine lv_iload hx hb dX2_turn_94 (lv_at hl 0 rfl) ?_
          refine lv_iload_n hx hb dX2_turn_96 rfl (lv_at hl 3 rfl) ?_
          refine lv_iconst (v := 1) hx hb dX2_turn_97 (by decide) ?_
          refine lv_iand hx hb dX2_turn_98 ?_
          refine lv_topi (fun v17 ev17 => ?_)
          have iv17 : iv v17 0 1 := iv_eq ev17 (iv_and (x := x1) (iv_w (by decide : iv 1 1 1) (by decide) (by decide) : iv 1 0 1))
          refine jcut (a := ∀ (b20 : Int32) (ib20 : iv b20 0 1) (H : Heap) (locs : List Loc) (hK : va_K (dC, dI) vwCl [(y0, .int)] s) (hP : va_P (dC, dI) vwCl [(h0, .inr (2, [.ref h1, .ref h2, .ref h3, .int x2, .int x3, .int x4, .int x5, .int b6])), (h1, .inl (y0, 16, .inl f0))] H) (hD : va_D A [(h0, .inr (2, [.ref h1, .ref h2, .ref h3, .int x2, .int x3, .int x4, .int x5, .int b6])), (h1, .inl (y0, 16, .inl f0))]) (hS : va_S A s.heap H locs) (ls : Array Slot) (hl : lv_has ls 6 [(5, .int v16)]), W p l e (headSpec (Cond.code yX2_turn cX2_turn 6 (some .int) :: lw_G) ({ frames := 1, cells := 0, slots := 0, locals := 25 })).room s m ar below meth c H locs 0 0 Q (F0 m 107 ls [.int b20, .int v16, .ref h0])) ?_ (fun j21 => ?_)
          · skip
            intro b20 ib20 H locs hK hP hD hS ls hl
            refine lv_iconst (v := 0) hx hb dX2_turn_107 (by decide) ?_
            obtain ⟨hPc, hDc, hFc⟩ := nv_sub3 (wc := [(h0, .inr (2, [.ref h1, .ref h2, .ref h3, .int x2, .int x3, .int x4, .int x5, .int b6])), (h1, .inl (y0, 16, .inl f0))]) hP hD hS hA [0, 1] (by decide) rfl
            have hKc := hK.sub (tys' := [(y0, .int)]) [0] rfl
            refine va_callv (va_runV (As := [.int v16, .int b20, .int 0]) (rest := []) ⟨hx, hb, hml, hown, hG⟩ (cX2_putFlags_1 l dC dI h0 h1 h2 h3 y0 H.size v16 b20 0 x2 x3 x4 x5 b6 f0 ib20 (iv_w (by decide : iv 0 0 0) (by decide) (by decide)) ib6) (cwV 3 hG (gV wd_1048 wd_1050 wp_41 wd_6 wd_1051) rfl rfl rfl (by decide +kernel) ⟨Nat.le_of_ble_eq_true rfl, Nat.le_of_ble_eq_true rfl⟩) ⟨fun a U g mk q => by obtain ⟨q0, q1, qP, qK, qD⟩ := q; exact ⟨q0, q1, qP, va_K.moved (u := U) (U := U.calling g mk a) (Vm.Alike.refl U.vm) qK, qD⟩, va_recv hKc hPc (ci := 2) (q0 := 0) rfl rfl, fun U hU hW => ⟨rfl, by rw [hU], by rw [hU]; exact hPc, va_K.moved hW.alike hKc, hDc.weaken (fun _ _ _ _ => trivial)⟩⟩ rfl rfl hl.1 rfl (lv_room (Nat.le_of_ble_eq_true rfl)) dX2_turn_108 ⟨by decide, by decide⟩) hS (fun q _ h => hFc q h) hFc (fun u23 t H1 locs ht hvm hw hB hz1 hk1 hS => ?_)
            obtain ⟨u23_0, u23_1⟩ := u23
            have hw : iv u23_0 0 1 ∧ True := hw
            obtain ⟨iu23_0, -⟩ := hw
            obtain ⟨hP1, hK1, hD1⟩ := hB
            rw [ht] at hP1
            have hK1 := va_K.moved hvm.symm hK1
            obtain ⟨hP, hD⟩ := nv_join (wf := [(h0, .inr (2, [.ref h1, .ref h2, .ref h3, .int x2, .int x3, .int x4, .int x5, .int u23_0])), (h1, .inl (y0, 16, .inl u23_1))]) hP hD [0, 1] [] rfl rfl (by decide) (by decide) hk1 hFc hP1 hD1 rfl
            have hK := (hK.sub (tys' := []) [] rfl).app hK1
            generalize H1 = H at hP hS ⊢
            have hK : va_K (dC, dI) vwCl [(y0, .int)] s := hK
            refine lv_iload hx hb dX2_turn_111 (lv_at hl 0 rfl) ?_
            rw [hQ]
            obtain ⟨hP9, hD9⟩ := nv_sub2 (wc := [(h0, .inr (2, [.ref h1, .ref h2, .ref h3, .int x2, .int x3, .int x4, .int x5, .int u23_0])), (h1, .inl (y0, 16, .inl u23_1))]) hP hD [0, 1] (by decide) rfl
            have hK9 := hK.sub (tys' := [(y0, .int)]) [0] rfl
            exact W.iret (v := v16) hx hb hr (fun t ht hW => ⟨⟨v16, (u23_0, u23_1), rfl, ⟨iv_w iu23_0 (by decide) (by decide), trivial⟩, by rw [ht]; exact hP9, va_K.moved hW.alike hK9, hD9⟩, hS.F ht⟩) hS.2.2 dX2_turn_113
          refine lv_if_eq (tgt := 106) hx hb dX2_turn_99 (by decide) (fun c18 => ?_) (fun c18 => ?_)
          · skip
            subst c18
            refine lv_iconst (v := 0) hx hb dX2_turn_106 (by decide) ?_
            exact j21 0 (iv_w (by decide : iv 0 0 0) (by decide) (by decide)) _ _ hK hP hD hS ls (lv_sub hl [0] rfl)
          · skip
            have j24 : iv v17 1 1 := iv_neLo iv17 (by decide : iv 0 0 0) c18 (by decide)
            refine lv_iconst (v := 1) hx hb dX2_turn_102 (by decide) ?_
            refine lv_goto (tgt := 107) hx hb dX2_turn_103 (by decide) ?_
            exact j21 1 (iv_w (by decide : iv 1 1 1) (by decide) (by decide)) _ _ hK hP hD hS ls (lv_sub hl [0] rfl)
        refine lv_if_ne (tgt := 80) hx hb dX2_turn_64 (by decide) (fun c8 => ?_) (fun c8 => ?_)
        · skip
          refine lv_iload_n hx hb dX2_turn_80 rfl (lv_at hl 3 rfl) ?_
          refine lv_iload_n hx hb dX2_turn_81 rfl (lv_at hl 0 rfl) ?_
          refine lv_iand hx hb dX2_turn_82 ?_
          refine lv_topi (fun v25 ev25 => ?_)
          have iv25 : iv v25 0 32768 := iv_eq ev25 (iv_and (x := x1) (iv_w ib5 (by decide) (by decide) : iv b5 0 32768))
          exact j14 v25 iv25 _ _ hK hP hD hS ls (lv_sub hl [1, 3] rfl)
        · skip
          subst c8
          refine lv_aload_n hx hb dX2_turn_67 rfl (lv_at hl 1 rfl) ?_
          refine va_get (D := (dC, dI)) (ci := 2) (v := .ref h1) (C := RX2) (T := TX2) (N := 8) hx hb hG inGX2 hown hK hP 0 rfl rfl 0 (by decide) (hG _ wd_149) (fun _ h9 => h9) rfl dX2_turn_68 ?_
          refine lv_iconst (v := 2) hx hb dX2_turn_71 (by decide) ?_
          refine va_iald hx hb hK hP 1 0 rfl rfl (iv_in (by decide : iv 2 2 2) (by decide) (by decide) : vp_in 2 16) dX2_turn_72 ?_
          refine lv_topi (fun v26 ev26 => ?_)
          refine lv_iconst (v := 1) hx hb dX2_turn_73 (by decide) ?_
          refine lv_iand hx hb dX2_turn_74 ?_
          refine lv_topi (fun v27 ev27 => ?_)
          have iv27 : iv v27 0 1 := iv_eq ev27 (iv_and (x := v26) (iv_w (by decide : iv 1 1 1) (by decide) (by decide) : iv 1 0 1))
          refine lv_iload_n hx hb dX2_turn_75 rfl (lv_at hl 0 rfl) ?_
          refine lv_imul hx hb dX2_turn_76 ?_
          refine lv_topi (fun v28 ev28 => ?_)
          have iv28 : iv v28 0 32768 := iv_eq ev28 (iv_mul iv27 ib5 (by decide) (by decide) (by decide))
          refine lv_goto (tgt := 83) hx hb dX2_turn_77 (by decide) ?_
          exact j14 v28 iv28 _ _ hK hP hD hS ls (lv_sub hl [1, 3] rfl)
      refine lv_if_eq (tgt := 60) hx hb dX2_turn_51 (by decide) (fun c3 => ?_) (fun c3 => ?_)
      · skip
        subst c3
        refine lv_ldc hx hb hown (hG _ wd_1047) dX2_turn_60 ?_
        exact j7 32768 0 (iv_w (by decide : iv 32768 32768 32768) (by decide) (by decide)) (iv_w (by decide : iv 0 0 0) (by decide) (by decide)) _ _ hK hP hD hS ls hl
      · skip
        have j29 : iv x6 1 1 := iv_neLo ix6 (by decide : iv 0 0 0) c3 (by decide)
        refine lv_sipush (v := 128) hx hb dX2_turn_54 (by decide) ?_
        refine lv_goto (tgt := 62) hx hb dX2_turn_57 (by decide) ?_
        exact j7 128 x6 (iv_w (by decide : iv 128 128 128) (by decide) (by decide)) (iv_w j29 (by decide) (by decide)) _ _ hK hP hD hS ls hl
    · skip
      subst c2
      refine lv_iload_n hx hb dX2_turn_24 rfl (lv_at hl 2 rfl) ?_
      refine lv_i2b (v := _) hx hb dX2_turn_25 rfl ?_
      refine lv_topi (fun v30 ev30 => ?_)
      have iv30 : iv v30 (-128) 127 := iv_eq ev30 (iv_i2b _)
      refine lv_ldc hx hb hown (hG _ wd_829) dX2_turn_26 ?_
      refine lv_iand hx hb dX2_turn_28 ?_
      refine lv_topi (fun v31 ev31 => ?_)
      have iv31 : iv v31 0 65535 := iv_eq ev31 (iv_and (x := v30) (iv_w (by decide : iv 65535 65535 65535) (by decide) (by decide) : iv 65535 0 65535))
      refine lv_istore_n (lv' := [(3, .int v31), (0, .ref h0), (1, .int 3), (2, .int x1)]) hx hb dX2_turn_29 rfl hl (by decide) rfl (fun ls hl => ?_)
      refine lv_aload_n hx hb dX2_turn_30 rfl (lv_at hl 1 rfl) ?_
      refine lv_iload_n hx hb dX2_turn_31 rfl (lv_at hl 0 rfl) ?_
      refine lv_iload_n hx hb dX2_turn_32 rfl (lv_at hl 0 rfl) ?_
      refine jcut (a := ∀ (b34 : Int32) (b35 : Int32) (ib34 : iv b34 0 1) (ib35 : iv b35 0 65535) (H : Heap) (locs : List Loc) (hK : va_K (dC, dI) vwCl [(y0, .int)] s) (hP : va_P (dC, dI) vwCl [(h0, .inr (2, [.ref h1, .ref h2, .ref h3, .int x2, .int x3, .int x4, .int x5, .int x6])), (h1, .inl (y0, 16, .inl f0))] H) (hD : va_D A [(h0, .inr (2, [.ref h1, .ref h2, .ref h3, .int x2, .int x3, .int x4, .int x5, .int x6])), (h1, .inl (y0, 16, .inl f0))]) (hS : va_S A s.heap H locs) (ls : Array Slot) (hl : lv_has ls 6 [(3, .int b35)]), W p l e (headSpec (Cond.code yX2_turn cX2_turn 6 (some .int) :: lw_G) ({ frames := 1, cells := 0, slots := 0, locals := 25 })).room s m ar below meth c H locs 0 0 Q (F0 m 41 ls [.int b34, .int b35, .ref h0])) ?_ (fun j36 => ?_)
      · skip
        intro b34 b35 ib34 ib35 H locs hK hP hD hS ls hl
        refine lv_iconst (v := 0) hx hb dX2_turn_41 (by decide) ?_
        obtain ⟨hPc, hDc, hFc⟩ := nv_sub3 (wc := [(h0, .inr (2, [.ref h1, .ref h2, .ref h3, .int x2, .int x3, .int x4, .int x5, .int x6])), (h1, .inl (y0, 16, .inl f0))]) hP hD hS hA [0, 1] (by decide) rfl
        have hKc := hK.sub (tys' := [(y0, .int)]) [0] rfl
        refine va_callv (va_runV (As := [.int b35, .int b34, .int 0]) (rest := []) ⟨hx, hb, hml, hown, hG⟩ (cX2_putFlags_1 l dC dI h0 h1 h2 h3 y0 H.size b35 b34 0 x2 x3 x4 x5 x6 f0 ib34 (iv_w (by decide : iv 0 0 0) (by decide) (by decide)) ix6) (cwV 3 hG (gV wd_1048 wd_1050 wp_41 wd_6 wd_1051) rfl rfl rfl (by decide +kernel) ⟨Nat.le_of_ble_eq_true rfl, Nat.le_of_ble_eq_true rfl⟩) ⟨fun a U g mk q => by obtain ⟨q0, q1, qP, qK, qD⟩ := q; exact ⟨q0, q1, qP, va_K.moved (u := U) (U := U.calling g mk a) (Vm.Alike.refl U.vm) qK, qD⟩, va_recv hKc hPc (ci := 2) (q0 := 0) rfl rfl, fun U hU hW => ⟨rfl, by rw [hU], by rw [hU]; exact hPc, va_K.moved hW.alike hKc, hDc.weaken (fun _ _ _ _ => trivial)⟩⟩ rfl rfl hl.1 rfl (lv_room (Nat.le_of_ble_eq_true rfl)) dX2_turn_42 ⟨by decide, by decide⟩) hS (fun q _ h => hFc q h) hFc (fun u38 t H1 locs ht hvm hw hB hz1 hk1 hS => ?_)
        obtain ⟨u38_0, u38_1⟩ := u38
        have hw : iv u38_0 0 1 ∧ True := hw
        obtain ⟨iu38_0, -⟩ := hw
        obtain ⟨hP1, hK1, hD1⟩ := hB
        rw [ht] at hP1
        have hK1 := va_K.moved hvm.symm hK1
        obtain ⟨hP, hD⟩ := nv_join (wf := [(h0, .inr (2, [.ref h1, .ref h2, .ref h3, .int x2, .int x3, .int x4, .int x5, .int u38_0])), (h1, .inl (y0, 16, .inl u38_1))]) hP hD [0, 1] [] rfl rfl (by decide) (by decide) hk1 hFc hP1 hD1 rfl
        have hK := (hK.sub (tys' := []) [] rfl).app hK1
        generalize H1 = H at hP hS ⊢
        have hK : va_K (dC, dI) vwCl [(y0, .int)] s := hK
        refine lv_iload_n hx hb dX2_turn_45 rfl (lv_at hl 0 rfl) ?_
        rw [hQ]
        obtain ⟨hP9, hD9⟩ := nv_sub2 (wc := [(h0, .inr (2, [.ref h1, .ref h2, .ref h3, .int x2, .int x3, .int x4, .int x5, .int u38_0])), (h1, .inl (y0, 16, .inl u38_1))]) hP hD [0, 1] (by decide) rfl
        have hK9 := hK.sub (tys' := [(y0, .int)]) [0] rfl
        exact W.iret (v := b35) hx hb hr (fun t ht hW => ⟨⟨b35, (u38_0, u38_1), rfl, ⟨iv_w iu38_0 (by decide) (by decide), trivial⟩, by rw [ht]; exact hP9, va_K.moved hW.alike hK9, hD9⟩, hS.F ht⟩) hS.2.2 dX2_turn_46
      refine lv_if_eq (tgt := 40) hx hb dX2_turn_33 (by decide) (fun c32 => ?_) (fun c32 => ?_)
      · skip
        subst c32
        refine lv_iconst (v := 0) hx hb dX2_turn_40 (by decide) ?_
        exact j36 0 0 (iv_w (by decide : iv 0 0 0) (by decide) (by decide)) (iv_w (by decide : iv 0 0 0) (by decide) (by decide)) _ _ hK hP hD hS ls (lv_sub hl [0] rfl)
      · skip
        have j39 : iv v31 1 65535 := iv_neLo iv31 (by decide : iv 0 0 0) c32 (by decide)
        refine lv_iconst (v := 1) hx hb dX2_turn_36 (by decide) ?_
        refine lv_goto (tgt := 41) hx hb dX2_turn_37 (by decide) ?_
        exact j36 1 v31 (iv_w (by decide : iv 1 1 1) (by decide) (by decide)) (iv_w j39 (by decide) (by decide)) _ _ hK hP hD hS ls (lv_sub hl [0] rfl)
  · skip
    subst c1
    refine lv_iload_n hx hb dX2_turn_5 rfl (lv_at hl 2 rfl) ?_
    refine lv_sipush (v := 255) hx hb dX2_turn_6 (by decide) ?_
    refine lv_iand hx hb dX2_turn_9 ?_
    refine lv_topi (fun v40 ev40 => ?_)
    have iv40 : iv v40 0 255 := iv_eq ev40 (iv_and (x := x1) (iv_w (by decide : iv 255 255 255) (by decide) (by decide) : iv 255 0 255))
    refine lv_bipush (v := 8) hx hb dX2_turn_10 (by decide) ?_
    refine lv_ishl hx hb dX2_turn_12 ?_
    refine lv_topi (fun v41 ev41 => ?_)
    have iv41 : iv v41 0 65280 := iv_eq ev41 (iv_shl 8 (by decide) iv40 (by decide) (by decide) (by decide) (by decide))
    refine lv_iload_n hx hb dX2_turn_13 rfl (lv_at hl 2 rfl) ?_
    refine lv_bipush (v := 8) hx hb dX2_turn_14 (by decide) ?_
    refine lv_ishr hx hb dX2_turn_16 ?_
    refine lv_topi (fun v42 ev42 => ?_)
    have iv42 : iv v42 (-8388608) 8388607 := iv_eq ev42 (iv_shr 8 (by decide) (iv_any x1) (by decide) (by decide))
    refine lv_ior hx hb dX2_turn_17 ?_
    refine lv_topi (fun v43 ev43 => ?_)
    rw [hQ]
    obtain ⟨hP9, hD9⟩ := nv_sub2 (wc := [(h0, .inr (2, [.ref h1, .ref h2, .ref h3, .int x2, .int x3, .int x4, .int x5, .int x6])), (h1, .inl (y0, 16, .inl f0))]) hP hD [0, 1] (by decide) rfl
    have hK9 := hK.sub (tys' := [(y0, .int)]) [0] rfl
    exact W.iret (v := v43) hx hb hr (fun t ht hW => ⟨⟨v43, (x6, f0), rfl, ⟨iv_w ix6 (by decide) (by decide), trivial⟩, by rw [ht]; exact hP9, va_K.moved hW.alike hK9, hD9⟩, hS.F ht⟩) hS.2.2 dX2_turn_18
set_option maxHeartbeats 100000000 in
set_option maxRecDepth 100000 in
theorem cX1_writeWord_1 (l : Launch) (dC : Nat → ClassId) (dI : Nat → Nat → Nat) (h0 h1 h2 h3 h4 h5 h6 : Nat) (y0 y1 y2 : ClassId) (sz : Nat) (x0 x1 x2 x3 x4 x5 x6 x7 x8 x9 x10 x11 x12 x13 x14 x15 x16 : Int32) (f0 f1 f2 : Nat → Int32) (ix10 : iv x10 0 1) : Met l yX1_writeWord (Cond.code yX1_writeWord cX1_writeWord 4 none :: lw_G) ({ frames := 3, cells := 0, slots := 0, locals := 66 }) (va_Pc [.ref h0, .int x0, .int x1] (fun U => U.heap.size = sz ∧ va_P (dC, dI) vwCl [(h0, .inr (1, [.ref h1, .ref h2, .ref h3, .ref h4])), (h2, .inr (7, [.int x2, .int x3, .int x4, .int x5, .int x6])), (h4, .inr (9, [.ref h5, .ref h6, .int x7, .int x8, .int x9, .int x10])), (h6, .inl (y0, 3, .inl f0)), (h5, .inl (y1, 3, .inl f1)), (h3, .inr (5, [.int x11, .int x12, .int x13, .int x14, .int x15, .int x16])), (h1, .inl (y2, 32768, .inl f2))] U.heap ∧ va_K (dC, dI) vwCl [(y0, .int), (y1, .int), (y2, .int)] U ∧ va_D (fun _ => True) [(h0, .inr (1, [.ref h1, .ref h2, .ref h3, .ref h4])), (h2, .inr (7, [.int x2, .int x3, .int x4, .int x5, .int x6])), (h4, .inr (9, [.ref h5, .ref h6, .int x7, .int x8, .int x9, .int x10])), (h6, .inl (y0, 3, .inl f0)), (h5, .inl (y1, 3, .inl f1)), (h3, .inr (5, [.int x11, .int x12, .int x13, .int x14, .int x15, .int x16])), (h1, .inl (y2, 32768, .inl f2))])) (va_Qv (fun (u : Int32 × Int32 × Int32 × Int32 × Int32 × Int32 × Int32 × Int32 × (Nat → Int32) × (Nat → Int32) × Int32 × Int32 × Int32 × Int32 × Int32 × Int32 × (Nat → Int32)) => iv u.2.2.2.2.2.2.2.1 0 1 ∧ True) (fun (u : Int32 × Int32 × Int32 × Int32 × Int32 × Int32 × Int32 × Int32 × (Nat → Int32) × (Nat → Int32) × Int32 × Int32 × Int32 × Int32 × Int32 × Int32 × (Nat → Int32)) (t : State) => va_P (dC, dI) vwCl [(h0, .inr (1, [.ref h1, .ref h2, .ref h3, .ref h4])), (h2, .inr (7, [.int x2, .int u.1, .int u.2.1, .int u.2.2.1, .int u.2.2.2.1])), (h4, .inr (9, [.ref h5, .ref h6, .int u.2.2.2.2.1, .int u.2.2.2.2.2.1, .int u.2.2.2.2.2.2.1, .int u.2.2.2.2.2.2.2.1])), (h6, .inl (y0, 3, .inl u.2.2.2.2.2.2.2.2.1)), (h5, .inl (y1, 3, .inl u.2.2.2.2.2.2.2.2.2.1)), (h3, .inr (5, [.int u.2.2.2.2.2.2.2.2.2.2.1, .int u.2.2.2.2.2.2.2.2.2.2.2.1, .int u.2.2.2.2.2.2.2.2.2.2.2.2.1, .int u.2.2.2.2.2.2.2.2.2.2.2.2.2.1, .int u.2.2.2.2.2.2.2.2.2.2.2.2.2.2.1, .int u.2.2.2.2.2.2.2.2.2.2.2.2.2.2.2.1])), (h1, .inl (y2, 32768, .inl u.2.2.2.2.2.2.2.2.2.2.2.2.2.2.2.2))] t.heap ∧ va_K (dC, dI) vwCl [(y0, .int), (y1, .int), (y2, .int)] t ∧ va_D (va_A [(h0, .inr (1, [.ref h1, .ref h2, .ref h3, .ref h4])), (h2, .inr (7, [.int x2, .int x3, .int x4, .int x5, .int x6])), (h4, .inr (9, [.ref h5, .ref h6, .int x7, .int x8, .int x9, .int x10])), (h6, .inl (y0, 3, .inl f0)), (h5, .inl (y1, 3, .inl f1)), (h3, .inr (5, [.int x11, .int x12, .int x13, .int x14, .int x15, .int x16])), (h1, .inl (y2, 32768, .inl f2))] sz) [(h0, .inr (1, [.ref h1, .ref h2, .ref h3, .ref h4])), (h2, .inr (7, [.int x2, .int u.1, .int u.2.1, .int u.2.2.1, .int u.2.2.2.1])), (h4, .inr (9, [.ref h5, .ref h6, .int u.2.2.2.2.1, .int u.2.2.2.2.2.1, .int u.2.2.2.2.2.2.1, .int u.2.2.2.2.2.2.2.1])), (h6, .inl (y0, 3, .inl u.2.2.2.2.2.2.2.2.1)), (h5, .inl (y1, 3, .inl u.2.2.2.2.2.2.2.2.2.1)), (h3, .inr (5, [.int u.2.2.2.2.2.2.2.2.2.2.1, .int u.2.2.2.2.2.2.2.2.2.2.2.1, .int u.2.2.2.2.2.2.2.2.2.2.2.2.1, .int u.2.2.2.2.2.2.2.2.2.2.2.2.2.1, .int u.2.2.2.2.2.2.2.2.2.2.2.2.2.2.1, .int u.2.2.2.2.2.2.2.2.2.2.2.2.2.2.2.1])), (h1, .inl (y2, 32768, .inl u.2.2.2.2.2.2.2.2.2.2.2.2.2.2.2.2))]) (va_A [(h0, .inr (1, [.ref h1, .ref h2, .ref h3, .ref h4])), (h2, .inr (7, [.int x2, .int x3, .int x4, .int x5, .int x6])), (h4, .inr (9, [.ref h5, .ref h6, .int x7, .int x8, .int x9, .int x10])), (h6, .inl (y0, 3, .inl f0)), (h5, .inl (y1, 3, .inl f1)), (h3, .inr (5, [.int x11, .int x12, .int x13, .int x14, .int x15, .int x16])), (h1, .inl (y2, 32768, .inl f2))] sz)) 0 0 (va_A [(h0, .inr (1, [.ref h1, .ref h2, .ref h3, .ref h4])), (h2, .inr (7, [.int x2, .int x3, .int x4, .int x5, .int x6])), (h4, .inr (9, [.ref h5, .ref h6, .int x7, .int x8, .int x9, .int x10])), (h6, .inl (y0, 3, .inl f0)), (h5, .inl (y1, 3, .inl f1)), (h3, .inr (5, [.int x11, .int x12, .int x13, .int x14, .int x15, .int x16])), (h1, .inl (y2, 32768, .inl f2))] sz) := by
  refine Met.ofW (cc := cX1_writeWord) (maxL := 4) (ret := none) (by decide) rfl ?_
  intro p e s m args below meth c s₁ B hml hv
  obtain ⟨rfl, hsz, hP, hK, hD0⟩ := hv
  have hx := B.exec
  have hb := B.bytes
  have hr := B.returns
  have hts0 := atoms_spec (ws := Cond.code yX1_writeWord cX1_writeWord 4 none :: lw_G) B.pre
  have hG : ∀ w ∈ lw_G, w.before _ s = true := fun w h => hts0 w (List.mem_cons_of_mem _ h)
  have hown : s.vm.findClass RX1 = some m.cls := findClass_of_methodNamed B.named
  have hlocks := B.notSynchronized
  subst hsz
  have hD := hD0.self (sz := s.heap.size)
  generalize hAe : va_A [(h0, .inr (1, [.ref h1, .ref h2, .ref h3, .ref h4])), (h2, .inr (7, [.int x2, .int x3, .int x4, .int x5, .int x6])), (h4, .inr (9, [.ref h5, .ref h6, .int x7, .int x8, .int x9, .int x10])), (h6, .inl (y0, 3, .inl f0)), (h5, .inl (y1, 3, .inl f1)), (h3, .inr (5, [.int x11, .int x12, .int x13, .int x14, .int x15, .int x16])), (h1, .inl (y2, 32768, .inl f2))] s.heap.size = A at hD ⊢
  have hA : ∀ q : Nat, s.heap.size ≤ q → A q := fun q h => by rw [← hAe]; exact Or.inr h
  have hS : va_S A s.heap s.heap [] := va_S.rf
  have hP : va_P (dC, dI) vwCl [(h0, .inr (1, [.ref h1, .ref h2, .ref h3, .ref h4])), (h2, .inr (7, [.int x2, .int x3, .int x4, .int x5, .int x6])), (h4, .inr (9, [.ref h5, .ref h6, .int x7, .int x8, .int x9, .int x10])), (h6, .inl (y0, 3, .inl f0)), (h5, .inl (y1, 3, .inl f1)), (h3, .inr (5, [.int x11, .int x12, .int x13, .int x14, .int x15, .int x16])), (h1, .inl (y2, 32768, .inl f2))] s.heap := hP
  have hl := lv_entry ([.ref h0, .int x0, .int x1]) (n := 4) (Nat.le_of_ble_eq_true rfl)
  rw [lg_entry_eq]
  generalize (lg_sl ([.ref h0, .int x0, .int x1]) ++ List.replicate (4 - (lg_sl ([.ref h0, .int x0, .int x1])).length) Slot.unset).toArray = ls at hl ⊢
  have hl : lv_has ls 4 [(0, .ref h0), (1, .int x0), (2, .int x1)] := hl
  generalize ([.ref h0, .int x0, .int x1] : List Value).toArray = ar at hG ⊢
  refine wq (fun Q hQ => ?_)
  refine lv_iload_n hx hb dX1_writeWord_0 rfl (lv_at hl 1 rfl) ?_
  refine lv_ldc hx hb hown (hG _ wd_719) dX1_writeWord_1 ?_
  refine lv_iand hx hb dX1_writeWord_3 ?_
  refine lv_topi (fun v1 ev1 => ?_)
  have iv1 : iv v1 0 65534 := iv_eq ev1 (iv_and (x := x0) (iv_w (by decide : iv 65534 65534 65534) (by decide) (by decide) : iv 65534 0 65534))
  refine lv_istore_n (lv' := [(3, .int v1), (0, .ref h0), (1, .int x0), (2, .int x1)]) hx hb dX1_writeWord_4 rfl hl (by decide) rfl (fun ls hl => ?_)
  refine lv_iload_n hx hb dX1_writeWord_5 rfl (lv_at hl 0 rfl) ?_
  refine lv_sipush (v := 512) hx hb dX1_writeWord_6 (by decide) ?_
  refine jcut (a := ∀ (b22 : Int32) (b23 : Int32) (b24 : Int32) (b25 : Int32) (b26 : Nat → Int32) (b27 : Nat → Int32) (b28 : Int32) (b29 : Int32) (b30 : Int32) (b31 : Int32) (b32 : Int32) (b33 : Int32) (b34 : Nat → Int32) (b35 : Int32) (b36 : Int32) (b37 : Int32) (b38 : Int32) (ib25 : iv b25 0 1) (H : Heap) (locs : List Loc) (hK : va_K (dC, dI) vwCl [(y0, .int), (y1, .int), (y2, .int)] s) (hP : va_P (dC, dI) vwCl [(h0, .inr (1, [.ref h1, .ref h2, .ref h3, .ref h4])), (h4, .inr (9, [.ref h5, .ref h6, .int b22, .int b23, .int b24, .int b25])), (h6, .inl (y0, 3, .inl b26)), (h5, .inl (y1, 3, .inl b27)), (h3, .inr (5, [.int b28, .int b29, .int b30, .int b31, .int b32, .int b33])), (h1, .inl (y2, 32768, .inl b34)), (h2, .inr (7, [.int x2, .int b35, .int b36, .int b37, .int b38]))] H) (hD : va_D A [(h0, .inr (1, [.ref h1, .ref h2, .ref h3, .ref h4])), (h4, .inr (9, [.ref h5, .ref h6, .int b22, .int b23, .int b24, .int b25])), (h6, .inl (y0, 3, .inl b26)), (h5, .inl (y1, 3, .inl b27)), (h3, .inr (5, [.int b28, .int b29, .int b30, .int b31, .int b32, .int b33])), (h1, .inl (y2, 32768, .inl b34)), (h2, .inr (7, [.int x2, .int b35, .int b36, .int b37, .int b38]))]) (hS : va_S A s.heap H locs) (ls : Array Slot) (hl : lv_has ls 4 []), W p l e (headSpec (Cond.code yX1_writeWord cX1_writeWord 4 none :: lw_G) ({ frames := 3, cells := 0, slots := 0, locals := 66 })).room s m ar below meth c H locs 0 0 Q (F0 m 77 ls [])) ?_ (fun j39 => ?_)
  · skip
    intro b22 b23 b24 b25 b26 b27 b28 b29 b30 b31 b32 b33 b34 b35 b36 b37 b38 ib25 H locs hK hP hD hS ls hl
    rw [hQ]
    obtain ⟨hP9, hD9⟩ := nv_sub2 (wc := [(h0, .inr (1, [.ref h1, .ref h2, .ref h3, .ref h4])), (h2, .inr (7, [.int x2, .int b35, .int b36, .int b37, .int b38])), (h4, .inr (9, [.ref h5, .ref h6, .int b22, .int b23, .int b24, .int b25])), (h6, .inl (y0, 3, .inl b26)), (h5, .inl (y1, 3, .inl b27)), (h3, .inr (5, [.int b28, .int b29, .int b30, .int b31, .int b32, .int b33])), (h1, .inl (y2, 32768, .inl b34))]) hP hD [0, 6, 1, 2, 3, 4, 5] (by decide) rfl
    have hK9 := hK.sub (tys' := [(y0, .int), (y1, .int), (y2, .int)]) [0, 1, 2] rfl
    exact W.vret hx hb hr (fun t ht hW => ⟨⟨(b35, b36, b37, b38, b22, b23, b24, b25, b26, b27, b28, b29, b30, b31, b32, b33, b34), rfl, ⟨iv_w ib25 (by decide) (by decide), trivial⟩, by rw [ht]; exact hP9, va_K.moved hW.alike hK9, hD9⟩, hS.F ht⟩) hS.2.2 dX1_writeWord_77
  refine lv_icmp_lt (tgt := 27) hx hb dX1_writeWord_9 (by decide) (fun c2 => ?_) (fun c2 => ?_)
  · skip
    have j40 : iv v1 0 511 := iv_ltL iv1 (by decide : iv 512 512 512) c2 (by decide)
    refine lv_iload_n hx hb dX1_writeWord_27 rfl (lv_at hl 0 rfl) ?_
    refine lv_sipush (v := 288) hx hb dX1_writeWord_28 (by decide) ?_
    refine lv_icmp_lt (tgt := 46) hx hb dX1_writeWord_31 (by decide) (fun c41 => ?_) (fun c41 => ?_)
    · skip
      have j42 : iv v1 0 287 := iv_ltL j40 (by decide : iv 288 288 288) c41 (by decide)
      refine lv_aload_n hx hb dX1_writeWord_46 rfl (lv_at hl 1 rfl) ?_
      refine va_get (D := (dC, dI)) (ci := 1) (v := .ref h2) (C := RX1) (T := TX1) (N := 4) hx hb hG inGX1 hown hK hP 0 rfl rfl 1 (by decide) (hG _ wd_115) (fun _ h9 => h9) rfl dX1_writeWord_47 ?_
      refine lv_iload_n hx hb dX1_writeWord_50 rfl (lv_at hl 0 rfl) ?_
      refine lv_iload_n hx hb dX1_writeWord_51 rfl (lv_at hl 3 rfl) ?_
      refine lv_sipush (v := 255) hx hb dX1_writeWord_52 (by decide) ?_
      refine lv_iand hx hb dX1_writeWord_55 ?_
      refine lv_topi (fun v43 ev43 => ?_)
      have iv43 : iv v43 0 255 := iv_eq ev43 (iv_and (x := x1) (iv_w (by decide : iv 255 255 255) (by decide) (by decide) : iv 255 0 255))
      obtain ⟨hPc, hDc, hFc⟩ := nv_sub3 (wc := [(h2, .inr (7, [.int x2, .int x3, .int x4, .int x5, .int x6]))]) hP hD hS hA [1] (by decide) rfl
      have hKc := hK.sub (tys' := []) [] rfl
      refine va_callv (va_runV (As := [.int v1, .int v43]) (rest := []) ⟨hx, hb, hml, hown, hG⟩ (cX7_write_1 l dC dI h2 s.heap.size v1 v43 x2 x3 x4 x5 x6) (cwV 2 hG (gV wd_715 wd_716 wd_717 wd_3 wd_718) rfl rfl rfl (by decide +kernel) ⟨Nat.le_of_ble_eq_true rfl, Nat.le_of_ble_eq_true rfl⟩) ⟨fun a U g mk q => by obtain ⟨q0, q1, qP, qK, qD⟩ := q; exact ⟨q0, q1, qP, va_K.moved (u := U) (U := U.calling g mk a) (Vm.Alike.refl U.vm) qK, qD⟩, va_recv hKc hPc (ci := 7) (q0 := 0) rfl rfl, fun U hU hW => ⟨rfl, by rw [hU], by rw [hU]; exact hPc, va_K.moved hW.alike hKc, hDc.weaken (fun _ _ _ _ => trivial)⟩⟩ rfl rfl hl.1 rfl (lv_room (Nat.le_of_ble_eq_true rfl)) dX1_writeWord_56 ⟨by decide, by decide⟩) hS (fun q _ h => hFc q h) hFc (fun u45 t H1 locs ht hvm hw hB hz1 hk1 hS => ?_)
      obtain ⟨u45_0, u45_1, u45_2, u45_3⟩ := u45
      obtain ⟨hP1, hK1, hD1⟩ := hB
      rw [ht] at hP1
      have hK1 := va_K.moved hvm.symm hK1
      obtain ⟨hP, hD⟩ := nv_join (wf := [(h0, .inr (1, [.ref h1, .ref h2, .ref h3, .ref h4])), (h4, .inr (9, [.ref h5, .ref h6, .int x7, .int x8, .int x9, .int x10])), (h6, .inl (y0, 3, .inl f0)), (h5, .inl (y1, 3, .inl f1)), (h3, .inr (5, [.int x11, .int x12, .int x13, .int x14, .int x15, .int x16])), (h1, .inl (y2, 32768, .inl f2)), (h2, .inr (7, [.int x2, .int u45_0, .int u45_1, .int u45_2, .int u45_3]))]) hP hD [1] [0, 2, 3, 4, 5, 6] rfl rfl (by decide) (by decide) hk1 hFc hP1 hD1 rfl
      have hK := (hK.sub (tys' := [(y0, .int), (y1, .int), (y2, .int)]) [0, 1, 2] rfl).app hK1
      generalize H1 = H at hP hS ⊢
      have hK : va_K (dC, dI) vwCl [(y0, .int), (y1, .int), (y2, .int)] s := hK
      refine lv_aload_n hx hb dX1_writeWord_59 rfl (lv_at hl 1 rfl) ?_
      refine va_get (D := (dC, dI)) (ci := 1) (v := .ref h2) (C := RX1) (T := TX1) (N := 4) hx hb hG inGX1 hown hK hP 0 rfl rfl 1 (by decide) (hG _ wd_115) (fun _ h9 => h9) rfl dX1_writeWord_60 ?_
      refine lv_iload_n hx hb dX1_writeWord_63 rfl (lv_at hl 0 rfl) ?_
      refine lv_iconst (v := 1) hx hb dX1_writeWord_64 (by decide) ?_
      refine lv_iadd hx hb dX1_writeWord_65 ?_
      refine lv_topi (fun v46 ev46 => ?_)
      have iv46 : iv v46 1 288 := iv_eq ev46 (iv_add j42 (by decide : iv 1 1 1) (by decide) (by decide))
      have tv46 : v46.toInt = v1.toInt + 1 := iv_addT ev46 j42 (by decide) (by decide) (by decide)
      refine lv_iload_n hx hb dX1_writeWord_66 rfl (lv_at hl 3 rfl) ?_
      refine lv_bipush (v := 8) hx hb dX1_writeWord_67 (by decide) ?_
      refine lv_ishr hx hb dX1_writeWord_69 ?_
      refine lv_topi (fun v47 ev47 => ?_)
      have iv47 : iv v47 (-8388608) 8388607 := iv_eq ev47 (iv_shr 8 (by decide) (iv_any x1) (by decide) (by decide))
      refine lv_sipush (v := 255) hx hb dX1_writeWord_70 (by decide) ?_
      refine lv_iand hx hb dX1_writeWord_73 ?_
      refine lv_topi (fun v48 ev48 => ?_)
      have iv48 : iv v48 0 255 := iv_eq ev48 (iv_and (x := v47) (iv_w (by decide : iv 255 255 255) (by decide) (by decide) : iv 255 0 255))
      obtain ⟨hPc, hDc, hFc⟩ := nv_sub3 (wc := [(h2, .inr (7, [.int x2, .int u45_0, .int u45_1, .int u45_2, .int u45_3]))]) hP hD hS hA [6] (by decide) rfl
      have hKc := hK.sub (tys' := []) [] rfl
      refine va_callv (va_runV (As := [.int v46, .int v48]) (rest := []) ⟨hx, hb, hml, hown, hG⟩ (cX7_write_1 l dC dI h2 H.size v46 v48 x2 u45_0 u45_1 u45_2 u45_3) (cwV 2 hG (gV wd_715 wd_716 wd_717 wd_3 wd_718) rfl rfl rfl (by decide +kernel) ⟨Nat.le_of_ble_eq_true rfl, Nat.le_of_ble_eq_true rfl⟩) ⟨fun a U g mk q => by obtain ⟨q0, q1, qP, qK, qD⟩ := q; exact ⟨q0, q1, qP, va_K.moved (u := U) (U := U.calling g mk a) (Vm.Alike.refl U.vm) qK, qD⟩, va_recv hKc hPc (ci := 7) (q0 := 0) rfl rfl, fun U hU hW => ⟨rfl, by rw [hU], by rw [hU]; exact hPc, va_K.moved hW.alike hKc, hDc.weaken (fun _ _ _ _ => trivial)⟩⟩ rfl rfl hl.1 rfl (lv_room (Nat.le_of_ble_eq_true rfl)) dX1_writeWord_74 ⟨by decide, by decide⟩) hS (fun q _ h => hFc q h) hFc (fun u50 t H1 locs ht hvm hw hB hz1 hk1 hS => ?_)
      obtain ⟨u50_0, u50_1, u50_2, u50_3⟩ := u50
      obtain ⟨hP1, hK1, hD1⟩ := hB
      rw [ht] at hP1
      have hK1 := va_K.moved hvm.symm hK1
      obtain ⟨hP, hD⟩ := nv_join (wf := [(h0, .inr (1, [.ref h1, .ref h2, .ref h3, .ref h4])), (h4, .inr (9, [.ref h5, .ref h6, .int x7, .int x8, .int x9, .int x10])), (h6, .inl (y0, 3, .inl f0)), (h5, .inl (y1, 3, .inl f1)), (h3, .inr (5, [.int x11, .int x12, .int x13, .int x14, .int x15, .int x16])), (h1, .inl (y2, 32768, .inl f2)), (h2, .inr (7, [.int x2, .int u50_0, .int u50_1, .int u50_2, .int u50_3]))]) hP hD [6] [0, 1, 2, 3, 4, 5] rfl rfl (by decide) (by decide) hk1 hFc hP1 hD1 rfl
      have hK := (hK.sub (tys' := [(y0, .int), (y1, .int), (y2, .int)]) [0, 1, 2] rfl).app hK1
      generalize H1 = H at hP hS ⊢
      have hK : va_K (dC, dI) vwCl [(y0, .int), (y1, .int), (y2, .int)] s := hK
      exact j39 x7 x8 x9 x10 f0 f1 x11 x12 x13 x14 x15 x16 f2 u50_0 u50_1 u50_2 u50_3 ix10 _ _ hK hP hD hS ls (lv_sub hl [] rfl)
    · skip
      have j51 : iv v1 288 511 := iv_nltL j40 (by decide : iv 288 288 288) c41 (by decide)
      refine lv_aload_n hx hb dX1_writeWord_34 rfl (lv_at hl 1 rfl) ?_
      refine lv_iload_n hx hb dX1_writeWord_35 rfl (lv_at hl 0 rfl) ?_
      refine lv_iload_n hx hb dX1_writeWord_36 rfl (lv_at hl 3 rfl) ?_
      refine lv_ldc hx hb hown (hG _ wd_714) dX1_writeWord_37 ?_
      refine lv_iand hx hb dX1_writeWord_39 ?_
      refine lv_topi (fun v52 ev52 => ?_)
      have iv52 : iv v52 0 65535 := iv_eq ev52 (iv_and (x := x1) (iv_w (by decide : iv 65535 65535 65535) (by decide) (by decide) : iv 65535 0 65535))
      obtain ⟨hPc, hDc, hFc⟩ := nv_sub3 (wc := [(h0, .inr (1, [.ref h1, .ref h2, .ref h3, .ref h4])), (h4, .inr (9, [.ref h5, .ref h6, .int x7, .int x8, .int x9, .int x10])), (h6, .inl (y0, 3, .inl f0)), (h5, .inl (y1, 3, .inl f1)), (h3, .inr (5, [.int x11, .int x12, .int x13, .int x14, .int x15, .int x16]))]) hP hD hS hA [0, 2, 3, 4, 5] (by decide) rfl
      have hKc := hK.sub (tys' := [(y0, .int), (y1, .int)]) [0, 1] rfl
      refine va_callv (va_runV (As := [.int v1, .int v52]) (rest := []) ⟨hx, hb, hml, hown, hG⟩ (cX1_writeThing_1 l dC dI h0 h1 h2 h3 h4 h5 h6 y0 y1 s.heap.size v1 v52 x7 x8 x9 x10 x11 x12 x13 x14 x15 x16 f0 f1 ix10) (cwV 2 hG (gV wd_741 wd_743 wp_28 wd_2 wd_744) rfl rfl rfl (by decide +kernel) ⟨Nat.le_of_ble_eq_true rfl, Nat.le_of_ble_eq_true rfl⟩) ⟨fun a U g mk q => by obtain ⟨q0, q1, qP, qK, qD⟩ := q; exact ⟨q0, q1, qP, va_K.moved (u := U) (U := U.calling g mk a) (Vm.Alike.refl U.vm) qK, qD⟩, va_recv hKc hPc (ci := 1) (q0 := 0) rfl rfl, fun U hU hW => ⟨rfl, by rw [hU], by rw [hU]; exact hPc, va_K.moved hW.alike hKc, hDc.weaken (fun _ _ _ _ => trivial)⟩⟩ rfl rfl hl.1 rfl (lv_room (Nat.le_of_ble_eq_true rfl)) dX1_writeWord_40 ⟨by decide, by decide⟩) hS (fun q _ h => hFc q h) hFc (fun u54 t H1 locs ht hvm hw hB hz1 hk1 hS => ?_)
      obtain ⟨u54_0, u54_1, u54_2, u54_3, u54_4, u54_5, u54_6, u54_7, u54_8, u54_9, u54_10, u54_11⟩ := u54
      have hw : iv u54_3 0 1 ∧ True := hw
      obtain ⟨iu54_3, -⟩ := hw
      obtain ⟨hP1, hK1, hD1⟩ := hB
      rw [ht] at hP1
      have hK1 := va_K.moved hvm.symm hK1
      obtain ⟨hP, hD⟩ := nv_join (wf := [(h2, .inr (7, [.int x2, .int x3, .int x4, .int x5, .int x6])), (h1, .inl (y2, 32768, .inl f2)), (h0, .inr (1, [.ref h1, .ref h2, .ref h3, .ref h4])), (h4, .inr (9, [.ref h5, .ref h6, .int u54_0, .int u54_1, .int u54_2, .int u54_3])), (h6, .inl (y0, 3, .inl u54_4)), (h5, .inl (y1, 3, .inl u54_5)), (h3, .inr (5, [.int u54_6, .int u54_7, .int u54_8, .int u54_9, .int u54_10, .int u54_11]))]) hP hD [0, 2, 3, 4, 5] [1, 6] rfl rfl (by decide) (by decide) hk1 hFc hP1 hD1 rfl
      have hK := (hK.sub (tys' := [(y2, .int)]) [2] rfl).app hK1
      generalize H1 = H at hP hS ⊢
      have hK : va_K (dC, dI) vwCl [(y2, .int), (y0, .int), (y1, .int)] s := hK
      refine lv_goto (tgt := 77) hx hb dX1_writeWord_43 (by decide) ?_
      exact j39 u54_0 u54_1 u54_2 u54_3 u54_4 u54_5 u54_6 u54_7 u54_8 u54_9 u54_10 u54_11 f2 x3 x4 x5 x6 iu54_3 _ _ (hK.sub (tys' := _) [1, 2, 0] rfl) (hP.sub (ws' := _) [2, 3, 4, 5, 6, 1, 0] rfl) (hD.sub (ws' := _) [2, 3, 4, 5, 6, 1, 0] (by decide) rfl) hS ls (lv_sub hl [] rfl)
  · skip
    have j55 : iv v1 512 65534 := iv_nltL iv1 (by decide : iv 512 512 512) c2 (by decide)
    refine lv_aload_n hx hb dX1_writeWord_12 rfl (lv_at hl 1 rfl) ?_
    refine va_get (D := (dC, dI)) (ci := 1) (v := .ref h1) (C := RX1) (T := TX1) (N := 4) hx hb hG inGX1 hown hK hP 0 rfl rfl 0 (by decide) (hG _ wd_114) (fun _ h9 => h9) rfl dX1_writeWord_13 ?_
    refine lv_iload_n hx hb dX1_writeWord_16 rfl (lv_at hl 0 rfl) ?_
    refine lv_iconst (v := 1) hx hb dX1_writeWord_17 (by decide) ?_
    refine lv_ishr hx hb dX1_writeWord_18 ?_
    refine lv_topi (fun v56 ev56 => ?_)
    have iv56 : iv v56 256 32767 := iv_eq ev56 (iv_shr 1 (by decide) j55 (by decide) (by decide))
    refine lv_iload_n hx hb dX1_writeWord_19 rfl (lv_at hl 3 rfl) ?_
    refine lv_ldc hx hb hown (hG _ wd_714) dX1_writeWord_20 ?_
    refine lv_iand hx hb dX1_writeWord_22 ?_
    refine lv_topi (fun v57 ev57 => ?_)
    have iv57 : iv v57 0 65535 := iv_eq ev57 (iv_and (x := x1) (iv_w (by decide : iv 65535 65535 65535) (by decide) (by decide) : iv 65535 0 65535))
    refine va_iast hx hb hK hP hD hS 6 2 rfl rfl (iv_in iv56 (by decide) (by decide) : vp_in v56 32768) dX1_writeWord_23 (fun H locs hP hD hS => ?_)
    obtain ⟨nf58, enf58⟩ : ∃ z, z = upd f2 v56.toNatClampNeg v57 := ⟨_, rfl⟩
    obtain ⟨hP, hD⟩ := nv_eq (ws' := [(h0, .inr (1, [.ref h1, .ref h2, .ref h3, .ref h4])), (h2, .inr (7, [.int x2, .int x3, .int x4, .int x5, .int x6])), (h4, .inr (9, [.ref h5, .ref h6, .int x7, .int x8, .int x9, .int x10])), (h6, .inl (y0, 3, .inl f0)), (h5, .inl (y1, 3, .inl f1)), (h3, .inr (5, [.int x11, .int x12, .int x13, .int x14, .int x15, .int x16])), (h1, .inl (y2, 32768, .inl nf58))]) hP hD (by subst enf58; rfl)
    refine lv_goto (tgt := 77) hx hb dX1_writeWord_24 (by decide) ?_
    exact j39 x7 x8 x9 x10 f0 f1 x11 x12 x13 x14 x15 x16 nf58 x3 x4 x5 x6 ix10 _ _ hK (hP.sub (ws' := _) [0, 2, 3, 4, 5, 6, 1] rfl) (hD.sub (ws' := _) [0, 2, 3, 4, 5, 6, 1] (by decide) rfl) hS ls (lv_sub hl [] rfl)
set_option maxHeartbeats 100000000 in
set_option maxRecDepth 100000 in
theorem cX2_store_1 (l : Launch) (dC : Nat → ClassId) (dI : Nat → Nat → Nat) (h0 h1 h2 h3 h4 h5 h6 h7 h8 h9 : Nat) (y0 y1 y2 y3 : ClassId) (sz : Nat) (x0 x1 x2 x3 x4 x5 x6 x7 x8 x9 x10 x11 x12 x13 x14 x15 x16 x17 x18 x19 x20 : Int32) (f0 f1 f2 f3 : Nat → Int32) (ix5 : iv x5 0 1) (ix14 : iv x14 0 1) : Met l yX2_store (Cond.code yX2_store cX2_store 2 none :: lw_G) ({ frames := 4, cells := 0, slots := 0, locals := 92 }) (va_Pc [.ref h0, .int x0] (fun U => U.heap.size = sz ∧ va_P (dC, dI) vwCl [(h0, .inr (2, [.ref h1, .ref h2, .ref h3, .int x1, .int x2, .int x3, .int x4, .int x5])), (h3, .inr (1, [.ref h4, .ref h5, .ref h6, .ref h7])), (h5, .inr (7, [.int x6, .int x7, .int x8, .int x9, .int x10])), (h7, .inr (9, [.ref h8, .ref h9, .int x11, .int x12, .int x13, .int x14])), (h9, .inl (y0, 3, .inl f0)), (h8, .inl (y1, 3, .inl f1)), (h6, .inr (5, [.int x15, .int x16, .int x17, .int x18, .int x19, .int x20])), (h4, .inl (y2, 32768, .inl f2)), (h1, .inl (y3, 16, .inl f3))] U.heap ∧ va_K (dC, dI) vwCl [(y0, .int), (y1, .int), (y2, .int), (y3, .int)] U ∧ va_D (fun _ => True) [(h0, .inr (2, [.ref h1, .ref h2, .ref h3, .int x1, .int x2, .int x3, .int x4, .int x5])), (h3, .inr (1, [.ref h4, .ref h5, .ref h6, .ref h7])), (h5, .inr (7, [.int x6, .int x7, .int x8, .int x9, .int x10])), (h7, .inr (9, [.ref h8, .ref h9, .int x11, .int x12, .int x13, .int x14])), (h9, .inl (y0, 3, .inl f0)), (h8, .inl (y1, 3, .inl f1)), (h6, .inr (5, [.int x15, .int x16, .int x17, .int x18, .int x19, .int x20])), (h4, .inl (y2, 32768, .inl f2)), (h1, .inl (y3, 16, .inl f3))])) (va_Qv (fun (u : Int32 × Int32 × Int32 × Int32 × Int32 × Int32 × Int32 × Int32 × Int32 × Int32 × (Nat → Int32) × (Nat → Int32) × Int32 × Int32 × Int32 × Int32 × Int32 × Int32 × (Nat → Int32) × (Nat → Int32)) => iv u.2.1 0 1 ∧ iv u.2.2.2.2.2.2.2.2.2.1 0 1 ∧ True) (fun (u : Int32 × Int32 × Int32 × Int32 × Int32 × Int32 × Int32 × Int32 × Int32 × Int32 × (Nat → Int32) × (Nat → Int32) × Int32 × Int32 × Int32 × Int32 × Int32 × Int32 × (Nat → Int32) × (Nat → Int32)) (t : State) => va_P (dC, dI) vwCl [(h0, .inr (2, [.ref h1, .ref h2, .ref h3, .int x1, .int x2, .int x3, .int u.1, .int u.2.1])), (h3, .inr (1, [.ref h4, .ref h5, .ref h6, .ref h7])), (h5, .inr (7, [.int x6, .int u.2.2.1, .int u.2.2.2.1, .int u.2.2.2.2.1, .int u.2.2.2.2.2.1])), (h7, .inr (9, [.ref h8, .ref h9, .int u.2.2.2.2.2.2.1, .int u.2.2.2.2.2.2.2.1, .int u.2.2.2.2.2.2.2.2.1, .int u.2.2.2.2.2.2.2.2.2.1])), (h9, .inl (y0, 3, .inl u.2.2.2.2.2.2.2.2.2.2.1)), (h8, .inl (y1, 3, .inl u.2.2.2.2.2.2.2.2.2.2.2.1)), (h6, .inr (5, [.int u.2.2.2.2.2.2.2.2.2.2.2.2.1, .int u.2.2.2.2.2.2.2.2.2.2.2.2.2.1, .int u.2.2.2.2.2.2.2.2.2.2.2.2.2.2.1, .int u.2.2.2.2.2.2.2.2.2.2.2.2.2.2.2.1, .int u.2.2.2.2.2.2.2.2.2.2.2.2.2.2.2.2.1, .int u.2.2.2.2.2.2.2.2.2.2.2.2.2.2.2.2.2.1])), (h4, .inl (y2, 32768, .inl u.2.2.2.2.2.2.2.2.2.2.2.2.2.2.2.2.2.2.1)), (h1, .inl (y3, 16, .inl u.2.2.2.2.2.2.2.2.2.2.2.2.2.2.2.2.2.2.2))] t.heap ∧ va_K (dC, dI) vwCl [(y0, .int), (y1, .int), (y2, .int), (y3, .int)] t ∧ va_D (va_A [(h0, .inr (2, [.ref h1, .ref h2, .ref h3, .int x1, .int x2, .int x3, .int x4, .int x5])), (h3, .inr (1, [.ref h4, .ref h5, .ref h6, .ref h7])), (h5, .inr (7, [.int x6, .int x7, .int x8, .int x9, .int x10])), (h7, .inr (9, [.ref h8, .ref h9, .int x11, .int x12, .int x13, .int x14])), (h9, .inl (y0, 3, .inl f0)), (h8, .inl (y1, 3, .inl f1)), (h6, .inr (5, [.int x15, .int x16, .int x17, .int x18, .int x19, .int x20])), (h4, .inl (y2, 32768, .inl f2)), (h1, .inl (y3, 16, .inl f3))] sz) [(h0, .inr (2, [.ref h1, .ref h2, .ref h3, .int x1, .int x2, .int x3, .int u.1, .int u.2.1])), (h3, .inr (1, [.ref h4, .ref h5, .ref h6, .ref h7])), (h5, .inr (7, [.int x6, .int u.2.2.1, .int u.2.2.2.1, .int u.2.2.2.2.1, .int u.2.2.2.2.2.1])), (h7, .inr (9, [.ref h8, .ref h9, .int u.2.2.2.2.2.2.1, .int u.2.2.2.2.2.2.2.1, .int u.2.2.2.2.2.2.2.2.1, .int u.2.2.2.2.2.2.2.2.2.1])), (h9, .inl (y0, 3, .inl u.2.2.2.2.2.2.2.2.2.2.1)), (h8, .inl (y1, 3, .inl u.2.2.2.2.2.2.2.2.2.2.2.1)), (h6, .inr (5, [.int u.2.2.2.2.2.2.2.2.2.2.2.2.1, .int u.2.2.2.2.2.2.2.2.2.2.2.2.2.1, .int u.2.2.2.2.2.2.2.2.2.2.2.2.2.2.1, .int u.2.2.2.2.2.2.2.2.2.2.2.2.2.2.2.1, .int u.2.2.2.2.2.2.2.2.2.2.2.2.2.2.2.2.1, .int u.2.2.2.2.2.2.2.2.2.2.2.2.2.2.2.2.2.1])), (h4, .inl (y2, 32768, .inl u.2.2.2.2.2.2.2.2.2.2.2.2.2.2.2.2.2.2.1)), (h1, .inl (y3, 16, .inl u.2.2.2.2.2.2.2.2.2.2.2.2.2.2.2.2.2.2.2))]) (va_A [(h0, .inr (2, [.ref h1, .ref h2, .ref h3, .int x1, .int x2, .int x3, .int x4, .int x5])), (h3, .inr (1, [.ref h4, .ref h5, .ref h6, .ref h7])), (h5, .inr (7, [.int x6, .int x7, .int x8, .int x9, .int x10])), (h7, .inr (9, [.ref h8, .ref h9, .int x11, .int x12, .int x13, .int x14])), (h9, .inl (y0, 3, .inl f0)), (h8, .inl (y1, 3, .inl f1)), (h6, .inr (5, [.int x15, .int x16, .int x17, .int x18, .int x19, .int x20])), (h4, .inl (y2, 32768, .inl f2)), (h1, .inl (y3, 16, .inl f3))] sz)) 0 0 (va_A [(h0, .inr (2, [.ref h1, .ref h2, .ref h3, .int x1, .int x2, .int x3, .int x4, .int x5])), (h3, .inr (1, [.ref h4, .ref h5, .ref h6, .ref h7])), (h5, .inr (7, [.int x6, .int x7, .int x8, .int x9, .int x10])), (h7, .inr (9, [.ref h8, .ref h9, .int x11, .int x12, .int x13, .int x14])), (h9, .inl (y0, 3, .inl f0)), (h8, .inl (y1, 3, .inl f1)), (h6, .inr (5, [.int x15, .int x16, .int x17, .int x18, .int x19, .int x20])), (h4, .inl (y2, 32768, .inl f2)), (h1, .inl (y3, 16, .inl f3))] sz) := by
  refine Met.ofW (cc := cX2_store) (maxL := 2) (ret := none) (by decide) rfl ?_
  intro p e s m args below meth c s₁ B hml hv
  obtain ⟨rfl, hsz, hP, hK, hD0⟩ := hv
  have hx := B.exec
  have hb := B.bytes
  have hr := B.returns
  have hts0 := atoms_spec (ws := Cond.code yX2_store cX2_store 2 none :: lw_G) B.pre
  have hG : ∀ w ∈ lw_G, w.before _ s = true := fun w h => hts0 w (List.mem_cons_of_mem _ h)
  have hown : s.vm.findClass RX2 = some m.cls := findClass_of_methodNamed B.named
  have hlocks := B.notSynchronized
  subst hsz
  have hD := hD0.self (sz := s.heap.size)
  generalize hAe : va_A [(h0, .inr (2, [.ref h1, .ref h2, .ref h3, .int x1, .int x2, .int x3, .int x4, .int x5])), (h3, .inr (1, [.ref h4, .ref h5, .ref h6, .ref h7])), (h5, .inr (7, [.int x6, .int x7, .int x8, .int x9, .int x10])), (h7, .inr (9, [.ref h8, .ref h9, .int x11, .int x12, .int x13, .int x14])), (h9, .inl (y0, 3, .inl f0)), (h8, .inl (y1, 3, .inl f1)), (h6, .inr (5, [.int x15, .int x16, .int x17, .int x18, .int x19, .int x20])), (h4, .inl (y2, 32768, .inl f2)), (h1, .inl (y3, 16, .inl f3))] s.heap.size = A at hD ⊢
  have hA : ∀ q : Nat, s.heap.size ≤ q → A q := fun q h => by rw [← hAe]; exact Or.inr h
  have hS : va_S A s.heap s.heap [] := va_S.rf
  have hP : va_P (dC, dI) vwCl [(h0, .inr (2, [.ref h1, .ref h2, .ref h3, .int x1, .int x2, .int x3, .int x4, .int x5])), (h3, .inr (1, [.ref h4, .ref h5, .ref h6, .ref h7])), (h5, .inr (7, [.int x6, .int x7, .int x8, .int x9, .int x10])), (h7, .inr (9, [.ref h8, .ref h9, .int x11, .int x12, .int x13, .int x14])), (h9, .inl (y0, 3, .inl f0)), (h8, .inl (y1, 3, .inl f1)), (h6, .inr (5, [.int x15, .int x16, .int x17, .int x18, .int x19, .int x20])), (h4, .inl (y2, 32768, .inl f2)), (h1, .inl (y3, 16, .inl f3))] s.heap := hP
  have hl := lv_entry ([.ref h0, .int x0]) (n := 2) (Nat.le_of_ble_eq_true rfl)
  rw [lg_entry_eq]
  generalize (lg_sl ([.ref h0, .int x0]) ++ List.replicate (2 - (lg_sl ([.ref h0, .int x0])).length) Slot.unset).toArray = ls at hl ⊢
  have hl : lv_has ls 2 [(0, .ref h0), (1, .int x0)] := hl
  generalize ([.ref h0, .int x0] : List Value).toArray = ar at hG ⊢
  refine wq (fun Q hQ => ?_)
  refine lv_aload_n hx hb dX2_store_0 rfl (lv_at hl 0 rfl) ?_
  refine va_get (D := (dC, dI)) (ci := 2) (v := .int x4) (C := RX2) (T := TX2) (N := 8) hx hb hG inGX2 hown hK hP 0 rfl rfl 6 (by decide) (hG _ wd_155) (fun _ h9 => h9) rfl dX2_store_1 ?_
  refine lv_iconst (v := (-1)) hx hb dX2_store_4 (by decide) ?_
  refine lv_icmp_ne (tgt := 9) hx hb dX2_store_5 (by decide) (fun c1 => ?_) (fun c1 => ?_)
  · skip
    refine lv_aload_n hx hb dX2_store_9 rfl (lv_at hl 0 rfl) ?_
    refine va_get (D := (dC, dI)) (ci := 2) (v := .int x4) (C := RX2) (T := TX2) (N := 8) hx hb hG inGX2 hown hK hP 0 rfl rfl 6 (by decide) (hG _ wd_155) (fun _ h9 => h9) rfl dX2_store_10 ?_
    refine lv_ldc hx hb hown (hG _ wd_1026) dX2_store_13 ?_
    refine jcut (a := ∀ (b19 : Int32) (b20 : Nat → Int32) (b21 : Int32) (b22 : Int32) (b23 : Int32) (b24 : Int32) (b25 : Int32) (b26 : Int32) (b27 : Int32) (b28 : Int32) (b29 : Nat → Int32) (b30 : Nat → Int32) (b31 : Int32) (b32 : Int32) (b33 : Int32) (b34 : Int32) (b35 : Int32) (b36 : Int32) (b37 : Nat → Int32) (ib19 : iv b19 0 1) (ib28 : iv b28 0 1) (H : Heap) (locs : List Loc) (hK : va_K (dC, dI) vwCl [(y3, .int), (y0, .int), (y1, .int), (y2, .int)] s) (hP : va_P (dC, dI) vwCl [(h0, .inr (2, [.ref h1, .ref h2, .ref h3, .int x1, .int x2, .int x3, .int x4, .int b19])), (h1, .inl (y3, 16, .inl b20)), (h3, .inr (1, [.ref h4, .ref h5, .ref h6, .ref h7])), (h5, .inr (7, [.int x6, .int b21, .int b22, .int b23, .int b24])), (h7, .inr (9, [.ref h8, .ref h9, .int b25, .int b26, .int b27, .int b28])), (h9, .inl (y0, 3, .inl b29)), (h8, .inl (y1, 3, .inl b30)), (h6, .inr (5, [.int b31, .int b32, .int b33, .int b34, .int b35, .int b36])), (h4, .inl (y2, 32768, .inl b37))] H) (hD : va_D A [(h0, .inr (2, [.ref h1, .ref h2, .ref h3, .int x1, .int x2, .int x3, .int x4, .int b19])), (h1, .inl (y3, 16, .inl b20)), (h3, .inr (1, [.ref h4, .ref h5, .ref h6, .ref h7])), (h5, .inr (7, [.int x6, .int b21, .int b22, .int b23, .int b24])), (h7, .inr (9, [.ref h8, .ref h9, .int b25, .int b26, .int b27, .int b28])), (h9, .inl (y0, 3, .inl b29)), (h8, .inl (y1, 3, .inl b30)), (h6, .inr (5, [.int b31, .int b32, .int b33, .int b34, .int b35, .int b36])), (h4, .inl (y2, 32768, .inl b37))]) (hS : va_S A s.heap H locs) (ls : Array Slot) (hl : lv_has ls 2 []), W p l e (headSpec (Cond.code yX2_store cX2_store 2 none :: lw_G) ({ frames := 4, cells := 0, slots := 0, locals := 92 })).room s m ar below meth c H locs 0 0 Q (F0 m 82 ls [])) ?_ (fun j38 => ?_)
    · skip
      intro b19 b20 b21 b22 b23 b24 b25 b26 b27 b28 b29 b30 b31 b32 b33 b34 b35 b36 b37 ib19 ib28 H locs hK hP hD hS ls hl
      rw [hQ]
      obtain ⟨hP9, hD9⟩ := nv_sub2 (wc := [(h0, .inr (2, [.ref h1, .ref h2, .ref h3, .int x1, .int x2, .int x3, .int x4, .int b19])), (h3, .inr (1, [.ref h4, .ref h5, .ref h6, .ref h7])), (h5, .inr (7, [.int x6, .int b21, .int b22, .int b23, .int b24])), (h7, .inr (9, [.ref h8, .ref h9, .int b25, .int b26, .int b27, .int b28])), (h9, .inl (y0, 3, .inl b29)), (h8, .inl (y1, 3, .inl b30)), (h6, .inr (5, [.int b31, .int b32, .int b33, .int b34, .int b35, .int b36])), (h4, .inl (y2, 32768, .inl b37)), (h1, .inl (y3, 16, .inl b20))]) hP hD [0, 2, 3, 4, 5, 6, 7, 8, 1] (by decide) rfl
      have hK9 := hK.sub (tys' := [(y0, .int), (y1, .int), (y2, .int), (y3, .int)]) [1, 2, 3, 0] rfl
      exact W.vret hx hb hr (fun t ht hW => ⟨⟨(x4, b19, b21, b22, b23, b24, b25, b26, b27, b28, b29, b30, b31, b32, b33, b34, b35, b36, b37, b20), rfl, ⟨iv_w ib19 (by decide) (by decide), iv_w ib28 (by decide) (by decide), trivial⟩, by rw [ht]; exact hP9, va_K.moved hW.alike hK9, hD9⟩, hS.F ht⟩) hS.2.2 dX2_store_82
    refine lv_icmp_lt (tgt := 48) hx hb dX2_store_15 (by decide) (fun c2 => ?_) (fun c2 => ?_)
    · skip
      have j39 : iv x4 (-2147483648) 65535 := iv_ltL (iv_any x4) (by decide : iv 65536 65536 65536) c2 (by decide)
      refine lv_aload_n hx hb dX2_store_48 rfl (lv_at hl 0 rfl) ?_
      refine va_get (D := (dC, dI)) (ci := 2) (v := .int x5) (C := RX2) (T := TX2) (N := 8) hx hb hG inGX2 hown hK hP 0 rfl rfl 7 (by decide) (hG _ wd_156) (fun _ h9 => h9) rfl dX2_store_49 ?_
      refine lv_if_eq (tgt := 70) hx hb dX2_store_52 (by decide) (fun c40 => ?_) (fun c40 => ?_)
      · skip
        subst c40
        refine lv_aload_n hx hb dX2_store_70 rfl (lv_at hl 0 rfl) ?_
        refine va_get (D := (dC, dI)) (ci := 2) (v := .ref h3) (C := RX2) (T := TX2) (N := 8) hx hb hG inGX2 hown hK hP 0 rfl rfl 2 (by decide) (hG _ wd_151) (fun _ h9 => h9) rfl dX2_store_71 ?_
        refine lv_aload_n hx hb dX2_store_74 rfl (lv_at hl 0 rfl) ?_
        refine va_get (D := (dC, dI)) (ci := 2) (v := .int x4) (C := RX2) (T := TX2) (N := 8) hx hb hG inGX2 hown hK hP 0 rfl rfl 6 (by decide) (hG _ wd_155) (fun _ h9 => h9) rfl dX2_store_75 ?_
        refine lv_iload_n hx hb dX2_store_78 rfl (lv_at hl 1 rfl) ?_
        obtain ⟨hPc, hDc, hFc⟩ := nv_sub3 (wc := [(h3, .inr (1, [.ref h4, .ref h5, .ref h6, .ref h7])), (h5, .inr (7, [.int x6, .int x7, .int x8, .int x9, .int x10])), (h7, .inr (9, [.ref h8, .ref h9, .int x11, .int x12, .int x13, .int x14])), (h9, .inl (y0, 3, .inl f0)), (h8, .inl (y1, 3, .inl f1)), (h6, .inr (5, [.int x15, .int x16, .int x17, .int x18, .int x19, .int x20])), (h4, .inl (y2, 32768, .inl f2))]) hP hD hS hA [1, 2, 3, 4, 5, 6, 7] (by decide) rfl
        have hKc := hK.sub (tys' := [(y0, .int), (y1, .int), (y2, .int)]) [0, 1, 2] rfl
        refine va_callv (va_runV (As := [.int x4, .int x0]) (rest := []) ⟨hx, hb, hml, hown, hG⟩ (cX1_writeWord_1 l dC dI h3 h4 h5 h6 h7 h8 h9 y0 y1 y2 s.heap.size x4 x0 x6 x7 x8 x9 x10 x11 x12 x13 x14 x15 x16 x17 x18 x19 x20 f0 f1 f2 ix14) (cwV 2 hG (gV wd_1001 wd_1002 wd_1003 wd_2 wd_1004) rfl rfl rfl (by decide +kernel) ⟨Nat.le_of_ble_eq_true rfl, Nat.le_of_ble_eq_true rfl⟩) ⟨fun a U g mk q => by obtain ⟨q0, q1, qP, qK, qD⟩ := q; exact ⟨q0, q1, qP, va_K.moved (u := U) (U := U.calling g mk a) (Vm.Alike.refl U.vm) qK, qD⟩, va_recv hKc hPc (ci := 1) (q0 := 0) rfl rfl, fun U hU hW => ⟨rfl, by rw [hU], by rw [hU]; exact hPc, va_K.moved hW.alike hKc, hDc.weaken (fun _ _ _ _ => trivial)⟩⟩ rfl rfl hl.1 rfl (lv_room (Nat.le_of_ble_eq_true rfl)) dX2_store_79 ⟨by decide, by decide⟩) hS (fun q _ h => hFc q h) hFc (fun u42 t H1 locs ht hvm hw hB hz1 hk1 hS => ?_)
        obtain ⟨u42_0, u42_1, u42_2, u42_3, u42_4, u42_5, u42_6, u42_7, u42_8, u42_9, u42_10, u42_11, u42_12, u42_13, u42_14, u42_15, u42_16⟩ := u42
        have hw : iv u42_7 0 1 ∧ True := hw
        obtain ⟨iu42_7, -⟩ := hw
        obtain ⟨hP1, hK1, hD1⟩ := hB
        rw [ht] at hP1
        have hK1 := va_K.moved hvm.symm hK1
        obtain ⟨hP, hD⟩ := nv_join (wf := [(h0, .inr (2, [.ref h1, .ref h2, .ref h3, .int x1, .int x2, .int x3, .int x4, .int 0])), (h1, .inl (y3, 16, .inl f3)), (h3, .inr (1, [.ref h4, .ref h5, .ref h6, .ref h7])), (h5, .inr (7, [.int x6, .int u42_0, .int u42_1, .int u42_2, .int u42_3])), (h7, .inr (9, [.ref h8, .ref h9, .int u42_4, .int u42_5, .int u42_6, .int u42_7])), (h9, .inl (y0, 3, .inl u42_8)), (h8, .inl (y1, 3, .inl u42_9)), (h6, .inr (5, [.int u42_10, .int u42_11, .int u42_12, .int u42_13, .int u42_14, .int u42_15])), (h4, .inl (y2, 32768, .inl u42_16))]) hP hD [1, 2, 3, 4, 5, 6, 7] [0, 8] rfl rfl (by decide) (by decide) hk1 hFc hP1 hD1 rfl
        have hK := (hK.sub (tys' := [(y3, .int)]) [3] rfl).app hK1
        generalize H1 = H at hP hS ⊢
        have hK : va_K (dC, dI) vwCl [(y3, .int), (y0, .int), (y1, .int), (y2, .int)] s := hK
        exact j38 0 f3 u42_0 u42_1 u42_2 u42_3 u42_4 u42_5 u42_6 u42_7 u42_8 u42_9 u42_10 u42_11 u42_12 u42_13 u42_14 u42_15 u42_16 (iv_w (by decide : iv 0 0 0) (by decide) (by decide)) iu42_7 _ _ hK hP hD hS ls (lv_sub hl [] rfl)
      · skip
        have j43 : iv x5 1 1 := iv_neLo ix5 (by decide : iv 0 0 0) c40 (by decide)
        refine lv_aload_n hx hb dX2_store_55 rfl (lv_at hl 0 rfl) ?_
        refine va_get (D := (dC, dI)) (ci := 2) (v := .ref h3) (C := RX2) (T := TX2) (N := 8) hx hb hG inGX2 hown hK hP 0 rfl rfl 2 (by decide) (hG _ wd_151) (fun _ h9 => h9) rfl dX2_store_56 ?_
        refine lv_aload_n hx hb dX2_store_59 rfl (lv_at hl 0 rfl) ?_
        refine va_get (D := (dC, dI)) (ci := 2) (v := .int x4) (C := RX2) (T := TX2) (N := 8) hx hb hG inGX2 hown hK hP 0 rfl rfl 6 (by decide) (hG _ wd_155) (fun _ h9 => h9) rfl dX2_store_60 ?_
        refine lv_iload_n hx hb dX2_store_63 rfl (lv_at hl 1 rfl) ?_
        obtain ⟨hPc, hDc, hFc⟩ := nv_sub3 (wc := [(h3, .inr (1, [.ref h4, .ref h5, .ref h6, .ref h7])), (h4, .inl (y2, 32768, .inl f2)), (h7, .inr (9, [.ref h8, .ref h9, .int x11, .int x12, .int x13, .int x14])), (h9, .inl (y0, 3, .inl f0)), (h8, .inl (y1, 3, .inl f1)), (h6, .inr (5, [.int x15, .int x16, .int x17, .int x18, .int x19, .int x20])), (h5, .inr (7, [.int x6, .int x7, .int x8, .int x9, .int x10]))]) hP hD hS hA [1, 7, 3, 4, 5, 6, 2] (by decide) rfl
        have hKc := hK.sub (tys' := [(y2, .int), (y0, .int), (y1, .int)]) [2, 0, 1] rfl
        refine va_callv (va_runV (As := [.int x4, .int x0]) (rest := []) ⟨hx, hb, hml, hown, hG⟩ (cX1_writeByte_1 l dC dI h3 h4 h5 h6 h7 h8 h9 y2 y0 y1 s.heap.size x4 x0 x11 x12 x13 x14 x15 x16 x17 x18 x19 x20 x6 x7 x8 x9 x10 f2 f0 f1 ix14) (cwV 2 hG (gV wd_1068 wd_711 wd_712 wd_2 wd_713) rfl rfl rfl (by decide +kernel) ⟨Nat.le_of_ble_eq_true rfl, Nat.le_of_ble_eq_true rfl⟩) ⟨fun a U g mk q => by obtain ⟨q0, q1, qP, qK, qD⟩ := q; exact ⟨q0, q1, qP, va_K.moved (u := U) (U := U.calling g mk a) (Vm.Alike.refl U.vm) qK, qD⟩, va_recv hKc hPc (ci := 1) (q0 := 0) rfl rfl, fun U hU hW => ⟨rfl, by rw [hU], by rw [hU]; exact hPc, va_K.moved hW.alike hKc, hDc.weaken (fun _ _ _ _ => trivial)⟩⟩ rfl rfl hl.1 rfl (lv_room (Nat.le_of_ble_eq_true rfl)) dX2_store_64 ⟨by decide, by decide⟩) hS (fun q _ h => hFc q h) hFc (fun u45 t H1 locs ht hvm hw hB hz1 hk1 hS => ?_)
        obtain ⟨u45_0, u45_1, u45_2, u45_3, u45_4, u45_5, u45_6, u45_7, u45_8, u45_9, u45_10, u45_11, u45_12, u45_13, u45_14, u45_15, u45_16⟩ := u45
        have hw : iv u45_4 0 1 ∧ True := hw
        obtain ⟨iu45_4, -⟩ := hw
        obtain ⟨hP1, hK1, hD1⟩ := hB
        rw [ht] at hP1
        have hK1 := va_K.moved hvm.symm hK1
        obtain ⟨hP, hD⟩ := nv_join (wf := [(h0, .inr (2, [.ref h1, .ref h2, .ref h3, .int x1, .int x2, .int x3, .int x4, .int x5])), (h1, .inl (y3, 16, .inl f3)), (h3, .inr (1, [.ref h4, .ref h5, .ref h6, .ref h7])), (h4, .inl (y2, 32768, .inl u45_0)), (h7, .inr (9, [.ref h8, .ref h9, .int u45_1, .int u45_2, .int u45_3, .int u45_4])), (h9, .inl (y0, 3, .inl u45_5)), (h8, .inl (y1, 3, .inl u45_6)), (h6, .inr (5, [.int u45_7, .int u45_8, .int u45_9, .int u45_10, .int u45_11, .int u45_12])), (h5, .inr (7, [.int x6, .int u45_13, .int u45_14, .int u45_15, .int u45_16]))]) hP hD [1, 7, 3, 4, 5, 6, 2] [0, 8] rfl rfl (by decide) (by decide) hk1 hFc hP1 hD1 rfl
        have hK := (hK.sub (tys' := [(y3, .int)]) [3] rfl).app hK1
        generalize H1 = H at hP hS ⊢
        have hK : va_K (dC, dI) vwCl [(y3, .int), (y2, .int), (y0, .int), (y1, .int)] s := hK
        refine lv_goto (tgt := 82) hx hb dX2_store_67 (by decide) ?_
        exact j38 x5 f3 u45_13 u45_14 u45_15 u45_16 u45_1 u45_2 u45_3 u45_4 u45_5 u45_6 u45_7 u45_8 u45_9 u45_10 u45_11 u45_12 u45_0 (iv_w j43 (by decide) (by decide)) iu45_4 _ _ (hK.sub (tys' := _) [0, 2, 3, 1] rfl) (hP.sub (ws' := _) [0, 1, 2, 8, 4, 5, 6, 7, 3] rfl) (hD.sub (ws' := _) [0, 1, 2, 8, 4, 5, 6, 7, 3] (by decide) rfl) hS ls (lv_sub hl [] rfl)
    · skip
      have j46 : iv x4 65536 2147483647 := iv_nltL (iv_any x4) (by decide : iv 65536 65536 65536) c2 (by decide)
      refine lv_aload_n hx hb dX2_store_18 rfl (lv_at hl 0 rfl) ?_
      refine lv_aload_n hx hb dX2_store_19 rfl (lv_at hl 0 rfl) ?_
      refine va_get (D := (dC, dI)) (ci := 2) (v := .int x4) (C := RX2) (T := TX2) (N := 8) hx hb hG inGX2 hown hK hP 0 rfl rfl 6 (by decide) (hG _ wd_155) (fun _ h9 => h9) rfl dX2_store_20 ?_
      refine lv_bipush (v := 15) hx hb dX2_store_23 (by decide) ?_
      refine lv_iand hx hb dX2_store_25 ?_
      refine lv_topi (fun v47 ev47 => ?_)
      have iv47 : iv v47 0 15 := iv_eq ev47 (iv_and (x := x4) (iv_w (by decide : iv 15 15 15) (by decide) (by decide) : iv 15 0 15))
      refine lv_aload_n hx hb dX2_store_26 rfl (lv_at hl 0 rfl) ?_
      refine va_get (D := (dC, dI)) (ci := 2) (v := .int x5) (C := RX2) (T := TX2) (N := 8) hx hb hG inGX2 hown hK hP 0 rfl rfl 7 (by decide) (hG _ wd_156) (fun _ h9 => h9) rfl dX2_store_27 ?_
      refine jcut (a := ∀ (b51 : Int32) (b52 : Int32) (ib52 : iv b52 0 1) (H : Heap) (locs : List Loc) (hK : va_K (dC, dI) vwCl [(y0, .int), (y1, .int), (y2, .int), (y3, .int)] s) (hP : va_P (dC, dI) vwCl [(h0, .inr (2, [.ref h1, .ref h2, .ref h3, .int x1, .int x2, .int x3, .int x4, .int b52])), (h3, .inr (1, [.ref h4, .ref h5, .ref h6, .ref h7])), (h5, .inr (7, [.int x6, .int x7, .int x8, .int x9, .int x10])), (h7, .inr (9, [.ref h8, .ref h9, .int x11, .int x12, .int x13, .int x14])), (h9, .inl (y0, 3, .inl f0)), (h8, .inl (y1, 3, .inl f1)), (h6, .inr (5, [.int x15, .int x16, .int x17, .int x18, .int x19, .int x20])), (h4, .inl (y2, 32768, .inl f2)), (h1, .inl (y3, 16, .inl f3))] H) (hD : va_D A [(h0, .inr (2, [.ref h1, .ref h2, .ref h3, .int x1, .int x2, .int x3, .int x4, .int b52])), (h3, .inr (1, [.ref h4, .ref h5, .ref h6, .ref h7])), (h5, .inr (7, [.int x6, .int x7, .int x8, .int x9, .int x10])), (h7, .inr (9, [.ref h8, .ref h9, .int x11, .int x12, .int x13, .int x14])), (h9, .inl (y0, 3, .inl f0)), (h8, .inl (y1, 3, .inl f1)), (h6, .inr (5, [.int x15, .int x16, .int x17, .int x18, .int x19, .int x20])), (h4, .inl (y2, 32768, .inl f2)), (h1, .inl (y3, 16, .inl f3))]) (hS : va_S A s.heap H locs) (ls : Array Slot) (hl : lv_has ls 2 []), W p l e (headSpec (Cond.code yX2_store cX2_store 2 none :: lw_G) ({ frames := 4, cells := 0, slots := 0, locals := 92 })).room s m ar below meth c H locs 0 0 Q (F0 m 42 ls [.int b51, .int v47, .ref h0])) ?_ (fun j53 => ?_)
      · skip
        intro b51 b52 ib52 H locs hK hP hD hS ls hl
        obtain ⟨hPc, hDc, hFc⟩ := nv_sub3 (wc := [(h0, .inr (2, [.ref h1, .ref h2, .ref h3, .int x1, .int x2, .int x3, .int x4, .int b52])), (h1, .inl (y3, 16, .inl f3))]) hP hD hS hA [0, 8] (by decide) rfl
        have hKc := hK.sub (tys' := [(y3, .int)]) [3] rfl
        refine va_callv (va_runV (As := [.int v47, .int b51]) (rest := []) ⟨hx, hb, hml, hown, hG⟩ (cX2_writeRegister_1 l dC dI h0 h1 h2 h3 y3 H.size v47 b51 x1 x2 x3 x4 b52 f3 ib52) (cwV 2 hG (gV wd_825 wd_826 wd_827 wd_6 wd_828) rfl rfl rfl (by decide +kernel) ⟨Nat.le_of_ble_eq_true rfl, Nat.le_of_ble_eq_true rfl⟩) ⟨fun a U g mk q => by obtain ⟨q0, q1, qP, qK, qD⟩ := q; exact ⟨q0, q1, qP, va_K.moved (u := U) (U := U.calling g mk a) (Vm.Alike.refl U.vm) qK, qD⟩, va_recv hKc hPc (ci := 2) (q0 := 0) rfl rfl, fun U hU hW => ⟨rfl, by rw [hU], by rw [hU]; exact hPc, va_K.moved hW.alike hKc, hDc.weaken (fun _ _ _ _ => trivial)⟩⟩ rfl rfl hl.1 rfl (lv_room (Nat.le_of_ble_eq_true rfl)) dX2_store_42 ⟨by decide, by decide⟩) hS (fun q _ h => hFc q h) hFc (fun u55 t H1 locs ht hvm hw hB hz1 hk1 hS => ?_)
        obtain ⟨u55_0, rfl⟩ : ∃ z, z = u55 := ⟨_, rfl⟩
        obtain ⟨hP1, hK1, hD1⟩ := hB
        rw [ht] at hP1
        have hK1 := va_K.moved hvm.symm hK1
        obtain ⟨hP, hD⟩ := nv_join (wf := [(h3, .inr (1, [.ref h4, .ref h5, .ref h6, .ref h7])), (h5, .inr (7, [.int x6, .int x7, .int x8, .int x9, .int x10])), (h7, .inr (9, [.ref h8, .ref h9, .int x11, .int x12, .int x13, .int x14])), (h9, .inl (y0, 3, .inl f0)), (h8, .inl (y1, 3, .inl f1)), (h6, .inr (5, [.int x15, .int x16, .int x17, .int x18, .int x19, .int x20])), (h4, .inl (y2, 32768, .inl f2)), (h0, .inr (2, [.ref h1, .ref h2, .ref h3, .int x1, .int x2, .int x3, .int x4, .int b52])), (h1, .inl (y3, 16, .inl u55_0))]) hP hD [0, 8] [1, 2, 3, 4, 5, 6, 7] rfl rfl (by decide) (by decide) hk1 hFc hP1 hD1 rfl
        have hK := (hK.sub (tys' := [(y0, .int), (y1, .int), (y2, .int)]) [0, 1, 2] rfl).app hK1
        generalize H1 = H at hP hS ⊢
        have hK : va_K (dC, dI) vwCl [(y0, .int), (y1, .int), (y2, .int), (y3, .int)] s := hK
        refine lv_goto (tgt := 82) hx hb dX2_store_45 (by decide) ?_
        exact j38 b52 u55_0 x7 x8 x9 x10 x11 x12 x13 x14 f0 f1 x15 x16 x17 x18 x19 x20 f2 ib52 ix14 _ _ (hK.sub (tys' := _) [3, 0, 1, 2] rfl) (hP.sub (ws' := _) [7, 8, 0, 1, 2, 3, 4, 5, 6] rfl) (hD.sub (ws' := _) [7, 8, 0, 1, 2, 3, 4, 5, 6] (by decide) rfl) hS ls hl
      refine lv_if_eq (tgt := 41) hx hb dX2_store_30 (by decide) (fun c48 => ?_) (fun c48 => ?_)
      · skip
        subst c48
        refine lv_iload_n hx hb dX2_store_41 rfl (lv_at hl 1 rfl) ?_
        exact j53 x0 0 (iv_w (by decide : iv 0 0 0) (by decide) (by decide)) _ _ hK hP hD hS ls (lv_sub hl [] rfl)
      · skip
        have j56 : iv x5 1 1 := iv_neLo ix5 (by decide : iv 0 0 0) c48 (by decide)
        refine lv_iload_n hx hb dX2_store_33 rfl (lv_at hl 1 rfl) ?_
        refine lv_sipush (v := 255) hx hb dX2_store_34 (by decide) ?_
        refine lv_iand hx hb dX2_store_37 ?_
        refine lv_topi (fun v57 ev57 => ?_)
        have iv57 : iv v57 0 255 := iv_eq ev57 (iv_and (x := x0) (iv_w (by decide : iv 255 255 255) (by decide) (by decide) : iv 255 0 255))
        refine lv_goto (tgt := 42) hx hb dX2_store_38 (by decide) ?_
        exact j53 v57 x5 (iv_w j56 (by decide) (by decide)) _ _ hK hP hD hS ls (lv_sub hl [] rfl)
  · skip
    subst c1
    rw [hQ]
    obtain ⟨hP9, hD9⟩ := nv_sub2 (wc := [(h0, .inr (2, [.ref h1, .ref h2, .ref h3, .int x1, .int x2, .int x3, .int (-1), .int x5])), (h3, .inr (1, [.ref h4, .ref h5, .ref h6, .ref h7])), (h5, .inr (7, [.int x6, .int x7, .int x8, .int x9, .int x10])), (h7, .inr (9, [.ref h8, .ref h9, .int x11, .int x12, .int x13, .int x14])), (h9, .inl (y0, 3, .inl f0)), (h8, .inl (y1, 3, .inl f1)), (h6, .inr (5, [.int x15, .int x16, .int x17, .int x18, .int x19, .int x20])), (h4, .inl (y2, 32768, .inl f2)), (h1, .inl (y3, 16, .inl f3))]) hP hD [0, 1, 2, 3, 4, 5, 6, 7, 8] (by decide) rfl
    have hK9 := hK.sub (tys' := [(y0, .int), (y1, .int), (y2, .int), (y3, .int)]) [0, 1, 2, 3] rfl
    exact W.vret hx hb hr (fun t ht hW => ⟨⟨((-1), x5, x7, x8, x9, x10, x11, x12, x13, x14, f0, f1, x15, x16, x17, x18, x19, x20, f2, f3), rfl, ⟨iv_w ix5 (by decide) (by decide), iv_w ix14 (by decide) (by decide), trivial⟩, by rw [ht]; exact hP9, va_K.moved hW.alike hK9, hD9⟩, hS.F ht⟩) hS.2.2 dX2_store_8
set_option maxHeartbeats 100000000 in
set_option maxRecDepth 100000 in
theorem cX2_pushWord_1 (l : Launch) (dC : Nat → ClassId) (dI : Nat → Nat → Nat) (h0 h1 h2 h3 h4 h5 h6 h7 h8 h9 : Nat) (y0 y1 y2 y3 : ClassId) (sz : Nat) (x0 x1 x2 x3 x4 x5 x6 x7 x8 x9 x10 x11 x12 x13 x14 x15 x16 x17 x18 x19 x20 : Int32) (f0 f1 f2 f3 : Nat → Int32) (ix5 : iv x5 0 1) (ix14 : iv x14 0 1) : Met l yX2_pushWord (Cond.code yX2_pushWord cX2_pushWord 2 none :: lw_G) ({ frames := 4, cells := 0, slots := 0, locals := 89 }) (va_Pc [.ref h0, .int x0] (fun U => U.heap.size = sz ∧ va_P (dC, dI) vwCl [(h0, .inr (2, [.ref h1, .ref h2, .ref h3, .int x1, .int x2, .int x3, .int x4, .int x5])), (h1, .inl (y0, 16, .inl f0)), (h3, .inr (1, [.ref h4, .ref h5, .ref h6, .ref h7])), (h5, .inr (7, [.int x6, .int x7, .int x8, .int x9, .int x10])), (h7, .inr (9, [.ref h8, .ref h9, .int x11, .int x12, .int x13, .int x14])), (h9, .inl (y1, 3, .inl f1)), (h8, .inl (y2, 3, .inl f2)), (h6, .inr (5, [.int x15, .int x16, .int x17, .int x18, .int x19, .int x20])), (h4, .inl (y3, 32768, .inl f3))] U.heap ∧ va_K (dC, dI) vwCl [(y0, .int), (y1, .int), (y2, .int), (y3, .int)] U ∧ va_D (fun _ => True) [(h0, .inr (2, [.ref h1, .ref h2, .ref h3, .int x1, .int x2, .int x3, .int x4, .int x5])), (h1, .inl (y0, 16, .inl f0)), (h3, .inr (1, [.ref h4, .ref h5, .ref h6, .ref h7])), (h5, .inr (7, [.int x6, .int x7, .int x8, .int x9, .int x10])), (h7, .inr (9, [.ref h8, .ref h9, .int x11, .int x12, .int x13, .int x14])), (h9, .inl (y1, 3, .inl f1)), (h8, .inl (y2, 3, .inl f2)), (h6, .inr (5, [.int x15, .int x16, .int x17, .int x18, .int x19, .int x20])), (h4, .inl (y3, 32768, .inl f3))])) (va_Qv (fun (u : (Nat → Int32) × Int32 × Int32 × Int32 × Int32 × Int32 × Int32 × Int32 × Int32 × (Nat → Int32) × (Nat → Int32) × Int32 × Int32 × Int32 × Int32 × Int32 × Int32 × (Nat → Int32)) => iv u.2.2.2.2.2.2.2.2.1 0 1 ∧ True) (fun (u : (Nat → Int32) × Int32 × Int32 × Int32 × Int32 × Int32 × Int32 × Int32 × Int32 × (Nat → Int32) × (Nat → Int32) × Int32 × Int32 × Int32 × Int32 × Int32 × Int32 × (Nat → Int32)) (t : State) => va_P (dC, dI) vwCl [(h0, .inr (2, [.ref h1, .ref h2, .ref h3, .int x1, .int x2, .int x3, .int x4, .int x5])), (h1, .inl (y0, 16, .inl u.1)), (h3, .inr (1, [.ref h4, .ref h5, .ref h6, .ref h7])), (h5, .inr (7, [.int x6, .int u.2.1, .int u.2.2.1, .int u.2.2.2.1, .int u.2.2.2.2.1])), (h7, .inr (9, [.ref h8, .ref h9, .int u.2.2.2.2.2.1, .int u.2.2.2.2.2.2.1, .int u.2.2.2.2.2.2.2.1, .int u.2.2.2.2.2.2.2.2.1])), (h9, .inl (y1, 3, .inl u.2.2.2.2.2.2.2.2.2.1)), (h8, .inl (y2, 3, .inl u.2.2.2.2.2.2.2.2.2.2.1)), (h6, .inr (5, [.int u.2.2.2.2.2.2.2.2.2.2.2.1, .int u.2.2.2.2.2.2.2.2.2.2.2.2.1, .int u.2.2.2.2.2.2.2.2.2.2.2.2.2.1, .int u.2.2.2.2.2.2.2.2.2.2.2.2.2.2.1, .int u.2.2.2.2.2.2.2.2.2.2.2.2.2.2.2.1, .int u.2.2.2.2.2.2.2.2.2.2.2.2.2.2.2.2.1])), (h4, .inl (y3, 32768, .inl u.2.2.2.2.2.2.2.2.2.2.2.2.2.2.2.2.2))] t.heap ∧ va_K (dC, dI) vwCl [(y0, .int), (y1, .int), (y2, .int), (y3, .int)] t ∧ va_D (va_A [(h0, .inr (2, [.ref h1, .ref h2, .ref h3, .int x1, .int x2, .int x3, .int x4, .int x5])), (h1, .inl (y0, 16, .inl f0)), (h3, .inr (1, [.ref h4, .ref h5, .ref h6, .ref h7])), (h5, .inr (7, [.int x6, .int x7, .int x8, .int x9, .int x10])), (h7, .inr (9, [.ref h8, .ref h9, .int x11, .int x12, .int x13, .int x14])), (h9, .inl (y1, 3, .inl f1)), (h8, .inl (y2, 3, .inl f2)), (h6, .inr (5, [.int x15, .int x16, .int x17, .int x18, .int x19, .int x20])), (h4, .inl (y3, 32768, .inl f3))] sz) [(h0, .inr (2, [.ref h1, .ref h2, .ref h3, .int x1, .int x2, .int x3, .int x4, .int x5])), (h1, .inl (y0, 16, .inl u.1)), (h3, .inr (1, [.ref h4, .ref h5, .ref h6, .ref h7])), (h5, .inr (7, [.int x6, .int u.2.1, .int u.2.2.1, .int u.2.2.2.1, .int u.2.2.2.2.1])), (h7, .inr (9, [.ref h8, .ref h9, .int u.2.2.2.2.2.1, .int u.2.2.2.2.2.2.1, .int u.2.2.2.2.2.2.2.1, .int u.2.2.2.2.2.2.2.2.1])), (h9, .inl (y1, 3, .inl u.2.2.2.2.2.2.2.2.2.1)), (h8, .inl (y2, 3, .inl u.2.2.2.2.2.2.2.2.2.2.1)), (h6, .inr (5, [.int u.2.2.2.2.2.2.2.2.2.2.2.1, .int u.2.2.2.2.2.2.2.2.2.2.2.2.1, .int u.2.2.2.2.2.2.2.2.2.2.2.2.2.1, .int u.2.2.2.2.2.2.2.2.2.2.2.2.2.2.1, .int u.2.2.2.2.2.2.2.2.2.2.2.2.2.2.2.1, .int u.2.2.2.2.2.2.2.2.2.2.2.2.2.2.2.2.1])), (h4, .inl (y3, 32768, .inl u.2.2.2.2.2.2.2.2.2.2.2.2.2.2.2.2.2))]) (va_A [(h0, .inr (2, [.ref h1, .ref h2, .ref h3, .int x1, .int x2, .int x3, .int x4, .int x5])), (h1, .inl (y0, 16, .inl f0)), (h3, .inr (1, [.ref h4, .ref h5, .ref h6, .ref h7])), (h5, .inr (7, [.int x6, .int x7, .int x8, .int x9, .int x10])), (h7, .inr (9, [.ref h8, .ref h9, .int x11, .int x12, .int x13, .int x14])), (h9, .inl (y1, 3, .inl f1)), (h8, .inl (y2, 3, .inl f2)), (h6, .inr (5, [.int x15, .int x16, .int x17, .int x18, .int x19, .int x20])), (h4, .inl (y3, 32768, .inl f3))] sz)) 0 0 (va_A [(h0, .inr (2, [.ref h1, .ref h2, .ref h3, .int x1, .int x2, .int x3, .int x4, .int x5])), (h1, .inl (y0, 16, .inl f0)), (h3, .inr (1, [.ref h4, .ref h5, .ref h6, .ref h7])), (h5, .inr (7, [.int x6, .int x7, .int x8, .int x9, .int x10])), (h7, .inr (9, [.ref h8, .ref h9, .int x11, .int x12, .int x13, .int x14])), (h9, .inl (y1, 3, .inl f1)), (h8, .inl (y2, 3, .inl f2)), (h6, .inr (5, [.int x15, .int x16, .int x17, .int x18, .int x19, .int x20])), (h4, .inl (y3, 32768, .inl f3))] sz) := by
  refine Met.ofW (cc := cX2_pushWord) (maxL := 2) (ret := none) (by decide) rfl ?_
  intro p e s m args below meth c s₁ B hml hv
  obtain ⟨rfl, hsz, hP, hK, hD0⟩ := hv
  have hx := B.exec
  have hb := B.bytes
  have hr := B.returns
  have hts0 := atoms_spec (ws := Cond.code yX2_pushWord cX2_pushWord 2 none :: lw_G) B.pre
  have hG : ∀ w ∈ lw_G, w.before _ s = true := fun w h => hts0 w (List.mem_cons_of_mem _ h)
  have hown : s.vm.findClass RX2 = some m.cls := findClass_of_methodNamed B.named
  have hlocks := B.notSynchronized
  subst hsz
  have hD := hD0.self (sz := s.heap.size)
  generalize hAe : va_A [(h0, .inr (2, [.ref h1, .ref h2, .ref h3, .int x1, .int x2, .int x3, .int x4, .int x5])), (h1, .inl (y0, 16, .inl f0)), (h3, .inr (1, [.ref h4, .ref h5, .ref h6, .ref h7])), (h5, .inr (7, [.int x6, .int x7, .int x8, .int x9, .int x10])), (h7, .inr (9, [.ref h8, .ref h9, .int x11, .int x12, .int x13, .int x14])), (h9, .inl (y1, 3, .inl f1)), (h8, .inl (y2, 3, .inl f2)), (h6, .inr (5, [.int x15, .int x16, .int x17, .int x18, .int x19, .int x20])), (h4, .inl (y3, 32768, .inl f3))] s.heap.size = A at hD ⊢
  have hA : ∀ q : Nat, s.heap.size ≤ q → A q := fun q h => by rw [← hAe]; exact Or.inr h
  have hS : va_S A s.heap s.heap [] := va_S.rf
  have hP : va_P (dC, dI) vwCl [(h0, .inr (2, [.ref h1, .ref h2, .ref h3, .int x1, .int x2, .int x3, .int x4, .int x5])), (h1, .inl (y0, 16, .inl f0)), (h3, .inr (1, [.ref h4, .ref h5, .ref h6, .ref h7])), (h5, .inr (7, [.int x6, .int x7, .int x8, .int x9, .int x10])), (h7, .inr (9, [.ref h8, .ref h9, .int x11, .int x12, .int x13, .int x14])), (h9, .inl (y1, 3, .inl f1)), (h8, .inl (y2, 3, .inl f2)), (h6, .inr (5, [.int x15, .int x16, .int x17, .int x18, .int x19, .int x20])), (h4, .inl (y3, 32768, .inl f3))] s.heap := hP
  have hl := lv_entry ([.ref h0, .int x0]) (n := 2) (Nat.le_of_ble_eq_true rfl)
  rw [lg_entry_eq]
  generalize (lg_sl ([.ref h0, .int x0]) ++ List.replicate (2 - (lg_sl ([.ref h0, .int x0])).length) Slot.unset).toArray = ls at hl ⊢
  have hl : lv_has ls 2 [(0, .ref h0), (1, .int x0)] := hl
  generalize ([.ref h0, .int x0] : List Value).toArray = ar at hG ⊢
  refine wq (fun Q hQ => ?_)
  refine lv_aload_n hx hb dX2_pushWord_0 rfl (lv_at hl 0 rfl) ?_
  refine lv_iconst (v := 1) hx hb dX2_pushWord_1 (by decide) ?_
  refine lv_aload_n hx hb dX2_pushWord_2 rfl (lv_at hl 0 rfl) ?_
  refine va_get (D := (dC, dI)) (ci := 2) (v := .ref h1) (C := RX2) (T := TX2) (N := 8) hx hb hG inGX2 hown hK hP 0 rfl rfl 0 (by decide) (hG _ wd_149) (fun _ h9 => h9) rfl dX2_pushWord_3 ?_
  refine lv_iconst (v := 1) hx hb dX2_pushWord_6 (by decide) ?_
  refine va_iald hx hb hK hP 1 0 rfl rfl (iv_in (by decide : iv 1 1 1) (by decide) (by decide) : vp_in 1 16) dX2_pushWord_7 ?_
  refine lv_topi (fun v1 ev1 => ?_)
  refine lv_iconst (v := 2) hx hb dX2_pushWord_8 (by decide) ?_
  refine lv_isub hx hb dX2_pushWord_9 ?_
  refine lv_topi (fun v2 ev2 => ?_)
  obtain ⟨hPc, hDc, hFc⟩ := nv_sub3 (wc := [(h0, .inr (2, [.ref h1, .ref h2, .ref h3, .int x1, .int x2, .int x3, .int x4, .int x5])), (h1, .inl (y0, 16, .inl f0))]) hP hD hS hA [0, 1] (by decide) rfl
  have hKc := hK.sub (tys' := [(y0, .int)]) [0] rfl
  refine va_callv (va_runV (As := [.int 1, .int v2]) (rest := []) ⟨hx, hb, hml, hown, hG⟩ (cX2_writeRegister_1 l dC dI h0 h1 h2 h3 y0 s.heap.size 1 v2 x1 x2 x3 x4 x5 f0 ix5) (cwV 2 hG (gV wd_825 wd_826 wd_827 wd_6 wd_828) rfl rfl rfl (by decide +kernel) ⟨Nat.le_of_ble_eq_true rfl, Nat.le_of_ble_eq_true rfl⟩) ⟨fun a U g mk q => by obtain ⟨q0, q1, qP, qK, qD⟩ := q; exact ⟨q0, q1, qP, va_K.moved (u := U) (U := U.calling g mk a) (Vm.Alike.refl U.vm) qK, qD⟩, va_recv hKc hPc (ci := 2) (q0 := 0) rfl rfl, fun U hU hW => ⟨rfl, by rw [hU], by rw [hU]; exact hPc, va_K.moved hW.alike hKc, hDc.weaken (fun _ _ _ _ => trivial)⟩⟩ rfl rfl hl.1 rfl (lv_room (Nat.le_of_ble_eq_true rfl)) dX2_pushWord_10 ⟨by decide, by decide⟩) hS (fun q _ h => hFc q h) hFc (fun u4 t H1 locs ht hvm hw hB hz1 hk1 hS => ?_)
  obtain ⟨u4_0, rfl⟩ : ∃ z, z = u4 := ⟨_, rfl⟩
  obtain ⟨hP1, hK1, hD1⟩ := hB
  rw [ht] at hP1
  have hK1 := va_K.moved hvm.symm hK1
  obtain ⟨hP, hD⟩ := nv_join (wf := [(h3, .inr (1, [.ref h4, .ref h5, .ref h6, .ref h7])), (h5, .inr (7, [.int x6, .int x7, .int x8, .int x9, .int x10])), (h7, .inr (9, [.ref h8, .ref h9, .int x11, .int x12, .int x13, .int x14])), (h9, .inl (y1, 3, .inl f1)), (h8, .inl (y2, 3, .inl f2)), (h6, .inr (5, [.int x15, .int x16, .int x17, .int x18, .int x19, .int x20])), (h4, .inl (y3, 32768, .inl f3)), (h0, .inr (2, [.ref h1, .ref h2, .ref h3, .int x1, .int x2, .int x3, .int x4, .int x5])), (h1, .inl (y0, 16, .inl u4_0))]) hP hD [0, 1] [2, 3, 4, 5, 6, 7, 8] rfl rfl (by decide) (by decide) hk1 hFc hP1 hD1 rfl
  have hK := (hK.sub (tys' := [(y1, .int), (y2, .int), (y3, .int)]) [1, 2, 3] rfl).app hK1
  generalize H1 = H at hP hS ⊢
  have hK : va_K (dC, dI) vwCl [(y1, .int), (y2, .int), (y3, .int), (y0, .int)] s := hK
  refine lv_aload_n hx hb dX2_pushWord_13 rfl (lv_at hl 0 rfl) ?_
  refine va_get (D := (dC, dI)) (ci := 2) (v := .ref h3) (C := RX2) (T := TX2) (N := 8) hx hb hG inGX2 hown hK hP 7 rfl rfl 2 (by decide) (hG _ wd_151) (fun _ h9 => h9) rfl dX2_pushWord_14 ?_
  refine lv_aload_n hx hb dX2_pushWord_17 rfl (lv_at hl 0 rfl) ?_
  refine va_get (D := (dC, dI)) (ci := 2) (v := .ref h1) (C := RX2) (T := TX2) (N := 8) hx hb hG inGX2 hown hK hP 7 rfl rfl 0 (by decide) (hG _ wd_149) (fun _ h9 => h9) rfl dX2_pushWord_18 ?_
  refine lv_iconst (v := 1) hx hb dX2_pushWord_21 (by decide) ?_
  refine va_iald hx hb hK hP 8 3 rfl rfl (iv_in (by decide : iv 1 1 1) (by decide) (by decide) : vp_in 1 16) dX2_pushWord_22 ?_
  refine lv_topi (fun v5 ev5 => ?_)
  refine lv_iload_n hx hb dX2_pushWord_23 rfl (lv_at hl 1 rfl) ?_
  obtain ⟨hPc, hDc, hFc⟩ := nv_sub3 (wc := [(h3, .inr (1, [.ref h4, .ref h5, .ref h6, .ref h7])), (h5, .inr (7, [.int x6, .int x7, .int x8, .int x9, .int x10])), (h7, .inr (9, [.ref h8, .ref h9, .int x11, .int x12, .int x13, .int x14])), (h9, .inl (y1, 3, .inl f1)), (h8, .inl (y2, 3, .inl f2)), (h6, .inr (5, [.int x15, .int x16, .int x17, .int x18, .int x19, .int x20])), (h4, .inl (y3, 32768, .inl f3))]) hP hD hS hA [0, 1, 2, 3, 4, 5, 6] (by decide) rfl
  have hKc := hK.sub (tys' := [(y1, .int), (y2, .int), (y3, .int)]) [0, 1, 2] rfl
  refine va_callv (va_runV (As := [.int v5, .int x0]) (rest := []) ⟨hx, hb, hml, hown, hG⟩ (cX1_writeWord_1 l dC dI h3 h4 h5 h6 h7 h8 h9 y1 y2 y3 H.size v5 x0 x6 x7 x8 x9 x10 x11 x12 x13 x14 x15 x16 x17 x18 x19 x20 f1 f2 f3 ix14) (cwV 2 hG (gV wd_1001 wd_1002 wd_1003 wd_2 wd_1004) rfl rfl rfl (by decide +kernel) ⟨Nat.le_of_ble_eq_true rfl, Nat.le_of_ble_eq_true rfl⟩) ⟨fun a U g mk q => by obtain ⟨q0, q1, qP, qK, qD⟩ := q; exact ⟨q0, q1, qP, va_K.moved (u := U) (U := U.calling g mk a) (Vm.Alike.refl U.vm) qK, qD⟩, va_recv hKc hPc (ci := 1) (q0 := 0) rfl rfl, fun U hU hW => ⟨rfl, by rw [hU], by rw [hU]; exact hPc, va_K.moved hW.alike hKc, hDc.weaken (fun _ _ _ _ => trivial)⟩⟩ rfl rfl hl.1 rfl (lv_room (Nat.le_of_ble_eq_true rfl)) dX2_pushWord_24 ⟨by decide, by decide⟩) hS (fun q _ h => hFc q h) hFc (fun u7 t H1 locs ht hvm hw hB hz1 hk1 hS => ?_)
  obtain ⟨u7_0, u7_1, u7_2, u7_3, u7_4, u7_5, u7_6, u7_7, u7_8, u7_9, u7_10, u7_11, u7_12, u7_13, u7_14, u7_15, u7_16⟩ := u7
  have hw : iv u7_7 0 1 ∧ True := hw
  obtain ⟨iu7_7, -⟩ := hw
  obtain ⟨hP1, hK1, hD1⟩ := hB
  rw [ht] at hP1
  have hK1 := va_K.moved hvm.symm hK1
  obtain ⟨hP, hD⟩ := nv_join (wf := [(h0, .inr (2, [.ref h1, .ref h2, .ref h3, .int x1, .int x2, .int x3, .int x4, .int x5])), (h1, .inl (y0, 16, .inl u4_0)), (h3, .inr (1, [.ref h4, .ref h5, .ref h6, .ref h7])), (h5, .inr (7, [.int x6, .int u7_0, .int u7_1, .int u7_2, .int u7_3])), (h7, .inr (9, [.ref h8, .ref h9, .int u7_4, .int u7_5, .int u7_6, .int u7_7])), (h9, .inl (y1, 3, .inl u7_8)), (h8, .inl (y2, 3, .inl u7_9)), (h6, .inr (5, [.int u7_10, .int u7_11, .int u7_12, .int u7_13, .int u7_14, .int u7_15])), (h4, .inl (y3, 32768, .inl u7_16))]) hP hD [0, 1, 2, 3, 4, 5, 6] [7, 8] rfl rfl (by decide) (by decide) hk1 hFc hP1 hD1 rfl
  have hK := (hK.sub (tys' := [(y0, .int)]) [3] rfl).app hK1
  generalize H1 = H at hP hS ⊢
  have hK : va_K (dC, dI) vwCl [(y0, .int), (y1, .int), (y2, .int), (y3, .int)] s := hK
  rw [hQ]
  obtain ⟨hP9, hD9⟩ := nv_sub2 (wc := [(h0, .inr (2, [.ref h1, .ref h2, .ref h3, .int x1, .int x2, .int x3, .int x4, .int x5])), (h1, .inl (y0, 16, .inl u4_0)), (h3, .inr (1, [.ref h4, .ref h5, .ref h6, .ref h7])), (h5, .inr (7, [.int x6, .int u7_0, .int u7_1, .int u7_2, .int u7_3])), (h7, .inr (9, [.ref h8, .ref h9, .int u7_4, .int u7_5, .int u7_6, .int u7_7])), (h9, .inl (y1, 3, .inl u7_8)), (h8, .inl (y2, 3, .inl u7_9)), (h6, .inr (5, [.int u7_10, .int u7_11, .int u7_12, .int u7_13, .int u7_14, .int u7_15])), (h4, .inl (y3, 32768, .inl u7_16))]) hP hD [0, 1, 2, 3, 4, 5, 6, 7, 8] (by decide) rfl
  have hK9 := hK.sub (tys' := [(y0, .int), (y1, .int), (y2, .int), (y3, .int)]) [0, 1, 2, 3] rfl
  exact W.vret hx hb hr (fun t ht hW => ⟨⟨(u4_0, u7_0, u7_1, u7_2, u7_3, u7_4, u7_5, u7_6, u7_7, u7_8, u7_9, u7_10, u7_11, u7_12, u7_13, u7_14, u7_15, u7_16), rfl, ⟨iv_w iu7_7 (by decide) (by decide), trivial⟩, by rw [ht]; exact hP9, va_K.moved hW.alike hK9, hD9⟩, hS.F ht⟩) hS.2.2 dX2_pushWord_27
set_option maxHeartbeats 100000000 in
set_option maxRecDepth 100000 in
theorem cX2_popWord_1 (l : Launch) (dC : Nat → ClassId) (dI : Nat → Nat → Nat) (h0 h1 h2 h3 h4 h5 h6 h7 h8 h9 : Nat) (y0 y1 y2 y3 : ClassId) (sz : Nat) (x0 x1 x2 x3 x4 x5 x6 x7 x8 x9 x10 x11 x12 x13 x14 x15 x16 x17 x18 x19 : Int32) (f0 f1 f2 f3 : Nat → Int32) (ix4 : iv x4 0 1) (ix8 : iv x8 0 1) : Met l yX2_popWord (Cond.code yX2_popWord cX2_popWord 2 (some .int) :: lw_G) ({ frames := 3, cells := 0, slots := 0, locals := 64 }) (va_Pc [.ref h0] (fun U => U.heap.size = sz ∧ va_P (dC, dI) vwCl [(h0, .inr (2, [.ref h1, .ref h2, .ref h3, .int x0, .int x1, .int x2, .int x3, .int x4])), (h1, .inl (y0, 16, .inl f0)), (h3, .inr (1, [.ref h4, .ref h5, .ref h6, .ref h7])), (h4, .inl (y1, 32768, .inl f1)), (h7, .inr (9, [.ref h8, .ref h9, .int x5, .int x6, .int x7, .int x8])), (h9, .inl (y2, 3, .inl f2)), (h8, .inl (y3, 3, .inl f3)), (h6, .inr (5, [.int x9, .int x10, .int x11, .int x12, .int x13, .int x14])), (h5, .inr (7, [.int x15, .int x16, .int x17, .int x18, .int x19]))] U.heap ∧ va_K (dC, dI) vwCl [(y0, .int), (y1, .int), (y2, .int), (y3, .int)] U ∧ va_D (fun _ => True) [(h0, .inr (2, [.ref h1, .ref h2, .ref h3, .int x0, .int x1, .int x2, .int x3, .int x4])), (h1, .inl (y0, 16, .inl f0)), (h3, .inr (1, [.ref h4, .ref h5, .ref h6, .ref h7])), (h4, .inl (y1, 32768, .inl f1)), (h7, .inr (9, [.ref h8, .ref h9, .int x5, .int x6, .int x7, .int x8])), (h9, .inl (y2, 3, .inl f2)), (h8, .inl (y3, 3, .inl f3)), (h6, .inr (5, [.int x9, .int x10, .int x11, .int x12, .int x13, .int x14])), (h5, .inr (7, [.int x15, .int x16, .int x17, .int x18, .int x19]))])) (va_Qi (fun (r : Int32) (u : (Nat → Int32) × Int32 × (Nat → Int32)) => True) (fun (u : (Nat → Int32) × Int32 × (Nat → Int32)) (t : State) => va_P (dC, dI) vwCl [(h0, .inr (2, [.ref h1, .ref h2, .ref h3, .int x0, .int x1, .int x2, .int x3, .int x4])), (h1, .inl (y0, 16, .inl u.1)), (h3, .inr (1, [.ref h4, .ref h5, .ref h6, .ref h7])), (h4, .inl (y1, 32768, .inl f1)), (h7, .inr (9, [.ref h8, .ref h9, .int u.2.1, .int x6, .int x7, .int x8])), (h9, .inl (y2, 3, .inl f2)), (h8, .inl (y3, 3, .inl u.2.2)), (h6, .inr (5, [.int x9, .int x10, .int x11, .int x12, .int x13, .int x14])), (h5, .inr (7, [.int x15, .int x16, .int x17, .int x18, .int x19]))] t.heap ∧ va_K (dC, dI) vwCl [(y0, .int), (y1, .int), (y2, .int), (y3, .int)] t ∧ va_D (va_A [(h0, .inr (2, [.ref h1, .ref h2, .ref h3, .int x0, .int x1, .int x2, .int x3, .int x4])), (h1, .inl (y0, 16, .inl f0)), (h3, .inr (1, [.ref h4, .ref h5, .ref h6, .ref h7])), (h4, .inl (y1, 32768, .inl f1)), (h7, .inr (9, [.ref h8, .ref h9, .int x5, .int x6, .int x7, .int x8])), (h9, .inl (y2, 3, .inl f2)), (h8, .inl (y3, 3, .inl f3)), (h6, .inr (5, [.int x9, .int x10, .int x11, .int x12, .int x13, .int x14])), (h5, .inr (7, [.int x15, .int x16, .int x17, .int x18, .int x19]))] sz) [(h0, .inr (2, [.ref h1, .ref h2, .ref h3, .int x0, .int x1, .int x2, .int x3, .int x4])), (h1, .inl (y0, 16, .inl u.1)), (h3, .inr (1, [.ref h4, .ref h5, .ref h6, .ref h7])), (h4, .inl (y1, 32768, .inl f1)), (h7, .inr (9, [.ref h8, .ref h9, .int u.2.1, .int x6, .int x7, .int x8])), (h9, .inl (y2, 3, .inl f2)), (h8, .inl (y3, 3, .inl u.2.2)), (h6, .inr (5, [.int x9, .int x10, .int x11, .int x12, .int x13, .int x14])), (h5, .inr (7, [.int x15, .int x16, .int x17, .int x18, .int x19]))]) (va_A [(h0, .inr (2, [.ref h1, .ref h2, .ref h3, .int x0, .int x1, .int x2, .int x3, .int x4])), (h1, .inl (y0, 16, .inl f0)), (h3, .inr (1, [.ref h4, .ref h5, .ref h6, .ref h7])), (h4, .inl (y1, 32768, .inl f1)), (h7, .inr (9, [.ref h8, .ref h9, .int x5, .int x6, .int x7, .int x8])), (h9, .inl (y2, 3, .inl f2)), (h8, .inl (y3, 3, .inl f3)), (h6, .inr (5, [.int x9, .int x10, .int x11, .int x12, .int x13, .int x14])), (h5, .inr (7, [.int x15, .int x16, .int x17, .int x18, .int x19]))] sz)) 0 0 (va_A [(h0, .inr (2, [.ref h1, .ref h2, .ref h3, .int x0, .int x1, .int x2, .int x3, .int x4])), (h1, .inl (y0, 16, .inl f0)), (h3, .inr (1, [.ref h4, .ref h5, .ref h6, .ref h7])), (h4, .inl (y1, 32768, .inl f1)), (h7, .inr (9, [.ref h8, .ref h9, .int x5, .int x6, .int x7, .int x8])), (h9, .inl (y2, 3, .inl f2)), (h8, .inl (y3, 3, .inl f3)), (h6, .inr (5, [.int x9, .int x10, .int x11, .int x12, .int x13, .int x14])), (h5, .inr (7, [.int x15, .int x16, .int x17, .int x18, .int x19]))] sz) := by
  refine Met.ofW (cc := cX2_popWord) (maxL := 2) (ret := (some .int)) (by decide) rfl ?_
  intro p e s m args below meth c s₁ B hml hv
  obtain ⟨rfl, hsz, hP, hK, hD0⟩ := hv
  have hx := B.exec
  have hb := B.bytes
  have hr := B.returns
  have hts0 := atoms_spec (ws := Cond.code yX2_popWord cX2_popWord 2 (some .int) :: lw_G) B.pre
  have hG : ∀ w ∈ lw_G, w.before _ s = true := fun w h => hts0 w (List.mem_cons_of_mem _ h)
  have hown : s.vm.findClass RX2 = some m.cls := findClass_of_methodNamed B.named
  have hlocks := B.notSynchronized
  subst hsz
  have hD := hD0.self (sz := s.heap.size)
  generalize hAe : va_A [(h0, .inr (2, [.ref h1, .ref h2, .ref h3, .int x0, .int x1, .int x2, .int x3, .int x4])), (h1, .inl (y0, 16, .inl f0)), (h3, .inr (1, [.ref h4, .ref h5, .ref h6, .ref h7])), (h4, .inl (y1, 32768, .inl f1)), (h7, .inr (9, [.ref h8, .ref h9, .int x5, .int x6, .int x7, .int x8])), (h9, .inl (y2, 3, .inl f2)), (h8, .inl (y3, 3, .inl f3)), (h6, .inr (5, [.int x9, .int x10, .int x11, .int x12, .int x13, .int x14])), (h5, .inr (7, [.int x15, .int x16, .int x17, .int x18, .int x19]))] s.heap.size = A at hD ⊢
  have hA : ∀ q : Nat, s.heap.size ≤ q → A q := fun q h => by rw [← hAe]; exact Or.inr h
  have hS : va_S A s.heap s.heap [] := va_S.rf
  have hP : va_P (dC, dI) vwCl [(h0, .inr (2, [.ref h1, .ref h2, .ref h3, .int x0, .int x1, .int x2, .int x3, .int x4])), (h1, .inl (y0, 16, .inl f0)), (h3, .inr (1, [.ref h4, .ref h5, .ref h6, .ref h7])), (h4, .inl (y1, 32768, .inl f1)), (h7, .inr (9, [.ref h8, .ref h9, .int x5, .int x6, .int x7, .int x8])), (h9, .inl (y2, 3, .inl f2)), (h8, .inl (y3, 3, .inl f3)), (h6, .inr (5, [.int x9, .int x10, .int x11, .int x12, .int x13, .int x14])), (h5, .inr (7, [.int x15, .int x16, .int x17, .int x18, .int x19]))] s.heap := hP
  have hl := lv_entry ([.ref h0]) (n := 2) (Nat.le_of_ble_eq_true rfl)
  rw [lg_entry_eq]
  generalize (lg_sl ([.ref h0]) ++ List.replicate (2 - (lg_sl ([.ref h0])).length) Slot.unset).toArray = ls at hl ⊢
  have hl : lv_has ls 2 [(0, .ref h0)] := hl
  generalize ([.ref h0] : List Value).toArray = ar at hG ⊢
  refine wq (fun Q hQ => ?_)
  refine lv_aload_n hx hb dX2_popWord_0 rfl (lv_at hl 0 rfl) ?_
  refine va_get (D := (dC, dI)) (ci := 2) (v := .ref h3) (C := RX2) (T := TX2) (N := 8) hx hb hG inGX2 hown hK hP 0 rfl rfl 2 (by decide) (hG _ wd_151) (fun _ h9 => h9) rfl dX2_popWord_1 ?_
  refine lv_aload_n hx hb dX2_popWord_4 rfl (lv_at hl 0 rfl) ?_
  refine va_get (D := (dC, dI)) (ci := 2) (v := .ref h1) (C := RX2) (T := TX2) (N := 8) hx hb hG inGX2 hown hK hP 0 rfl rfl 0 (by decide) (hG _ wd_149) (fun _ h9 => h9) rfl dX2_popWord_5 ?_
  refine lv_iconst (v := 1) hx hb dX2_popWord_8 (by decide) ?_
  refine va_iald hx hb hK hP 1 0 rfl rfl (iv_in (by decide : iv 1 1 1) (by decide) (by decide) : vp_in 1 16) dX2_popWord_9 ?_
  refine lv_topi (fun v1 ev1 => ?_)
  obtain ⟨hPc, hDc, hFc⟩ := nv_sub3 (wc := [(h3, .inr (1, [.ref h4, .ref h5, .ref h6, .ref h7])), (h4, .inl (y1, 32768, .inl f1)), (h7, .inr (9, [.ref h8, .ref h9, .int x5, .int x6, .int x7, .int x8])), (h9, .inl (y2, 3, .inl f2)), (h8, .inl (y3, 3, .inl f3)), (h6, .inr (5, [.int x9, .int x10, .int x11, .int x12, .int x13, .int x14])), (h5, .inr (7, [.int x15, .int x16, .int x17, .int x18, .int x19]))]) hP hD hS hA [2, 3, 4, 5, 6, 7, 8] (by decide) rfl
  have hKc := hK.sub (tys' := [(y1, .int), (y2, .int), (y3, .int)]) [1, 2, 3] rfl
  refine va_calli (va_runV (As := [.int v1]) (rest := []) ⟨hx, hb, hml, hown, hG⟩ (cX1_readWord_1 l dC dI h3 h4 h5 h6 h7 h8 h9 y1 y2 y3 s.heap.size v1 x5 x6 x7 x8 x9 x10 x11 x12 x13 x14 x15 x16 x17 x18 x19 f1 f2 f3 ix8) (cwV 1 hG (gV wd_1005 wd_1006 wd_1007 wd_2 wd_1008) rfl rfl rfl (by decide +kernel) ⟨Nat.le_of_ble_eq_true rfl, Nat.le_of_ble_eq_true rfl⟩) ⟨fun a U g mk q => by obtain ⟨q0, q1, qP, qK, qD⟩ := q; exact ⟨q0, q1, qP, va_K.moved (u := U) (U := U.calling g mk a) (Vm.Alike.refl U.vm) qK, qD⟩, va_recv hKc hPc (ci := 1) (q0 := 0) rfl rfl, fun U hU hW => ⟨rfl, by rw [hU], by rw [hU]; exact hPc, va_K.moved hW.alike hKc, hDc.weaken (fun _ _ _ _ => trivial)⟩⟩ rfl rfl hl.1 rfl (lv_room (Nat.le_of_ble_eq_true rfl)) dX2_popWord_10 ⟨by decide, by decide⟩) hS (fun q _ h => hFc q h) hFc (fun r2 u3 t H1 locs ht hvm hw hB hz1 hk1 hS => ?_)
  obtain ⟨u3_0, u3_1⟩ := u3
  obtain ⟨hP1, hK1, hD1⟩ := hB
  rw [ht] at hP1
  have hK1 := va_K.moved hvm.symm hK1
  obtain ⟨hP, hD⟩ := nv_join (wf := [(h0, .inr (2, [.ref h1, .ref h2, .ref h3, .int x0, .int x1, .int x2, .int x3, .int x4])), (h1, .inl (y0, 16, .inl f0)), (h3, .inr (1, [.ref h4, .ref h5, .ref h6, .ref h7])), (h4, .inl (y1, 32768, .inl f1)), (h7, .inr (9, [.ref h8, .ref h9, .int u3_0, .int x6, .int x7, .int x8])), (h9, .inl (y2, 3, .inl f2)), (h8, .inl (y3, 3, .inl u3_1)), (h6, .inr (5, [.int x9, .int x10, .int x11, .int x12, .int x13, .int x14])), (h5, .inr (7, [.int x15, .int x16, .int x17, .int x18, .int x19]))]) hP hD [2, 3, 4, 5, 6, 7, 8] [0, 1] rfl rfl (by decide) (by decide) hk1 hFc hP1 hD1 rfl
  have hK := (hK.sub (tys' := [(y0, .int)]) [0] rfl).app hK1
  generalize H1 = H at hP hS ⊢
  have hK : va_K (dC, dI) vwCl [(y0, .int), (y1, .int), (y2, .int), (y3, .int)] s := hK
  refine lv_istore_n (lv' := [(1, .int r2), (0, .ref h0)]) hx hb dX2_popWord_13 rfl hl (by decide) rfl (fun ls hl => ?_)
  refine lv_aload_n hx hb dX2_popWord_14 rfl (lv_at hl 1 rfl) ?_
  refine lv_iconst (v := 1) hx hb dX2_popWord_15 (by decide) ?_
  refine lv_aload_n hx hb dX2_popWord_16 rfl (lv_at hl 1 rfl) ?_
  refine va_get (D := (dC, dI)) (ci := 2) (v := .ref h1) (C := RX2) (T := TX2) (N := 8) hx hb hG inGX2 hown hK hP 0 rfl rfl 0 (by decide) (hG _ wd_149) (fun _ h9 => h9) rfl dX2_popWord_17 ?_
  refine lv_iconst (v := 1) hx hb dX2_popWord_20 (by decide) ?_
  refine va_iald hx hb hK hP 1 0 rfl rfl (iv_in (by decide : iv 1 1 1) (by decide) (by decide) : vp_in 1 16) dX2_popWord_21 ?_
  refine lv_topi (fun v4 ev4 => ?_)
  refine lv_iconst (v := 2) hx hb dX2_popWord_22 (by decide) ?_
  refine lv_iadd hx hb dX2_popWord_23 ?_
  refine lv_topi (fun v5 ev5 => ?_)
  obtain ⟨hPc, hDc, hFc⟩ := nv_sub3 (wc := [(h0, .inr (2, [.ref h1, .ref h2, .ref h3, .int x0, .int x1, .int x2, .int x3, .int x4])), (h1, .inl (y0, 16, .inl f0))]) hP hD hS hA [0, 1] (by decide) rfl
  have hKc := hK.sub (tys' := [(y0, .int)]) [0] rfl
  refine va_callv (va_runV (As := [.int 1, .int v5]) (rest := []) ⟨hx, hb, hml, hown, hG⟩ (cX2_writeRegister_1 l dC dI h0 h1 h2 h3 y0 H.size 1 v5 x0 x1 x2 x3 x4 f0 ix4) (cwV 2 hG (gV wd_825 wd_826 wd_827 wd_6 wd_828) rfl rfl rfl (by decide +kernel) ⟨Nat.le_of_ble_eq_true rfl, Nat.le_of_ble_eq_true rfl⟩) ⟨fun a U g mk q => by obtain ⟨q0, q1, qP, qK, qD⟩ := q; exact ⟨q0, q1, qP, va_K.moved (u := U) (U := U.calling g mk a) (Vm.Alike.refl U.vm) qK, qD⟩, va_recv hKc hPc (ci := 2) (q0 := 0) rfl rfl, fun U hU hW => ⟨rfl, by rw [hU], by rw [hU]; exact hPc, va_K.moved hW.alike hKc, hDc.weaken (fun _ _ _ _ => trivial)⟩⟩ rfl rfl hl.1 rfl (lv_room (Nat.le_of_ble_eq_true rfl)) dX2_popWord_24 ⟨by decide, by decide⟩) hS (fun q _ h => hFc q h) hFc (fun u7 t H1 locs ht hvm hw hB hz1 hk1 hS => ?_)
  obtain ⟨u7_0, rfl⟩ : ∃ z, z = u7 := ⟨_, rfl⟩
  obtain ⟨hP1, hK1, hD1⟩ := hB
  rw [ht] at hP1
  have hK1 := va_K.moved hvm.symm hK1
  obtain ⟨hP, hD⟩ := nv_join (wf := [(h3, .inr (1, [.ref h4, .ref h5, .ref h6, .ref h7])), (h4, .inl (y1, 32768, .inl f1)), (h7, .inr (9, [.ref h8, .ref h9, .int u3_0, .int x6, .int x7, .int x8])), (h9, .inl (y2, 3, .inl f2)), (h8, .inl (y3, 3, .inl u3_1)), (h6, .inr (5, [.int x9, .int x10, .int x11, .int x12, .int x13, .int x14])), (h5, .inr (7, [.int x15, .int x16, .int x17, .int x18, .int x19])), (h0, .inr (2, [.ref h1, .ref h2, .ref h3, .int x0, .int x1, .int x2, .int x3, .int x4])), (h1, .inl (y0, 16, .inl u7_0))]) hP hD [0, 1] [2, 3, 4, 5, 6, 7, 8] rfl rfl (by decide) (by decide) hk1 hFc hP1 hD1 rfl
  have hK := (hK.sub (tys' := [(y1, .int), (y2, .int), (y3, .int)]) [1, 2, 3] rfl).app hK1
  generalize H1 = H at hP hS ⊢
  have hK : va_K (dC, dI) vwCl [(y1, .int), (y2, .int), (y3, .int), (y0, .int)] s := hK
  refine lv_iload_n hx hb dX2_popWord_27 rfl (lv_at hl 0 rfl) ?_
  rw [hQ]
  obtain ⟨hP9, hD9⟩ := nv_sub2 (wc := [(h0, .inr (2, [.ref h1, .ref h2, .ref h3, .int x0, .int x1, .int x2, .int x3, .int x4])), (h1, .inl (y0, 16, .inl u7_0)), (h3, .inr (1, [.ref h4, .ref h5, .ref h6, .ref h7])), (h4, .inl (y1, 32768, .inl f1)), (h7, .inr (9, [.ref h8, .ref h9, .int u3_0, .int x6, .int x7, .int x8])), (h9, .inl (y2, 3, .inl f2)), (h8, .inl (y3, 3, .inl u3_1)), (h6, .inr (5, [.int x9, .int x10, .int x11, .int x12, .int x13, .int x14])), (h5, .inr (7, [.int x15, .int x16, .int x17, .int x18, .int x19]))]) hP hD [7, 8, 0, 1, 2, 3, 4, 5, 6] (by decide) rfl
  have hK9 := hK.sub (tys' := [(y0, .int), (y1, .int), (y2, .int), (y3, .int)]) [3, 0, 1, 2] rfl
  exact W.iret (v := r2) hx hb hr (fun t ht hW => ⟨⟨r2, (u7_0, u3_0, u3_1), rfl, trivial, by rw [ht]; exact hP9, va_K.moved hW.alike hK9, hD9⟩, hS.F ht⟩) hS.2.2 dX2_popWord_28
set_option maxHeartbeats 100000000 in
set_option maxRecDepth 100000 in
theorem cX2_one_1 (l : Launch) (dC : Nat → ClassId) (dI : Nat → Nat → Nat) (h0 h1 h2 h3 h4 h5 h6 h7 h8 h9 : Nat) (y0 y1 y2 y3 : ClassId) (sz : Nat) (x0 x1 x2 x3 x4 x5 x6 x7 x8 x9 x10 x11 x12 x13 x14 x15 x16 x17 x18 x19 x20 : Int32) (f0 f1 f2 f3 : Nat → Int32) (ix5 : iv x5 0 1) (ix9 : iv x9 0 1) : Met l yX2_one (Cond.code yX2_one cX2_one 7 (some .int) :: lw_G) ({ frames := 5, cells := 0, slots := 0, locals := 113 }) (va_Pc [.ref h0, .int x0] (fun U => U.heap.size = sz ∧ va_P (dC, dI) vwCl [(h0, .inr (2, [.ref h1, .ref h2, .ref h3, .int x1, .int x2, .int x3, .int x4, .int x5])), (h1, .inl (y0, 16, .inl f0)), (h3, .inr (1, [.ref h4, .ref h5, .ref h6, .ref h7])), (h4, .inl (y1, 32768, .inl f1)), (h7, .inr (9, [.ref h8, .ref h9, .int x6, .int x7, .int x8, .int x9])), (h9, .inl (y2, 3, .inl f2)), (h8, .inl (y3, 3, .inl f3)), (h6, .inr (5, [.int x10, .int x11, .int x12, .int x13, .int x14, .int x15])), (h5, .inr (7, [.int x16, .int x17, .int x18, .int x19, .int x20]))] U.heap ∧ va_K (dC, dI) vwCl [(y0, .int), (y1, .int), (y2, .int), (y3, .int)] U ∧ va_D (fun _ => True) [(h0, .inr (2, [.ref h1, .ref h2, .ref h3, .int x1, .int x2, .int x3, .int x4, .int x5])), (h1, .inl (y0, 16, .inl f0)), (h3, .inr (1, [.ref h4, .ref h5, .ref h6, .ref h7])), (h4, .inl (y1, 32768, .inl f1)), (h7, .inr (9, [.ref h8, .ref h9, .int x6, .int x7, .int x8, .int x9])), (h9, .inl (y2, 3, .inl f2)), (h8, .inl (y3, 3, .inl f3)), (h6, .inr (5, [.int x10, .int x11, .int x12, .int x13, .int x14, .int x15])), (h5, .inr (7, [.int x16, .int x17, .int x18, .int x19, .int x20]))])) (va_Qi (fun (r : Int32) (u : Int32 × Int32 × (Nat → Int32) × (Nat → Int32) × Int32 × Int32 × Int32 × Int32 × (Nat → Int32) × (Nat → Int32) × Int32 × Int32 × Int32 × Int32 × Int32 × Int32 × Int32 × Int32 × Int32 × Int32) => iv r 1 5 ∧ iv u.2.1 0 1 ∧ iv u.2.2.2.2.2.2.2.1 0 1 ∧ True) (fun (u : Int32 × Int32 × (Nat → Int32) × (Nat → Int32) × Int32 × Int32 × Int32 × Int32 × (Nat → Int32) × (Nat → Int32) × Int32 × Int32 × Int32 × Int32 × Int32 × Int32 × Int32 × Int32 × Int32 × Int32) (t : State) => va_P (dC, dI) vwCl [(h0, .inr (2, [.ref h1, .ref h2, .ref h3, .int x1, .int x2, .int x3, .int u.1, .int u.2.1])), (h1, .inl (y0, 16, .inl u.2.2.1)), (h3, .inr (1, [.ref h4, .ref h5, .ref h6, .ref h7])), (h4, .inl (y1, 32768, .inl u.2.2.2.1)), (h7, .inr (9, [.ref h8, .ref h9, .int u.2.2.2.2.1, .int u.2.2.2.2.2.1, .int u.2.2.2.2.2.2.1, .int u.2.2.2.2.2.2.2.1])), (h9, .inl (y2, 3, .inl u.2.2.2.2.2.2.2.2.1)), (h8, .inl (y3, 3, .inl u.2.2.2.2.2.2.2.2.2.1)), (h6, .inr (5, [.int u.2.2.2.2.2.2.2.2.2.2.1, .int u.2.2.2.2.2.2.2.2.2.2.2.1, .int u.2.2.2.2.2.2.2.2.2.2.2.2.1, .int u.2.2.2.2.2.2.2.2.2.2.2.2.2.1, .int u.2.2.2.2.2.2.2.2.2.2.2.2.2.2.1, .int u.2.2.2.2.2.2.2.2.2.2.2.2.2.2.2.1])), (h5, .inr (7, [.int x16, .int u.2.2.2.2.2.2.2.2.2.2.2.2.2.2.2.2.1, .int u.2.2.2.2.2.2.2.2.2.2.2.2.2.2.2.2.2.1, .int u.2.2.2.2.2.2.2.2.2.2.2.2.2.2.2.2.2.2.1, .int u.2.2.2.2.2.2.2.2.2.2.2.2.2.2.2.2.2.2.2]))] t.heap ∧ va_K (dC, dI) vwCl [(y0, .int), (y1, .int), (y2, .int), (y3, .int)] t ∧ va_D (va_A [(h0, .inr (2, [.ref h1, .ref h2, .ref h3, .int x1, .int x2, .int x3, .int x4, .int x5])), (h1, .inl (y0, 16, .inl f0)), (h3, .inr (1, [.ref h4, .ref h5, .ref h6, .ref h7])), (h4, .inl (y1, 32768, .inl f1)), (h7, .inr (9, [.ref h8, .ref h9, .int x6, .int x7, .int x8, .int x9])), (h9, .inl (y2, 3, .inl f2)), (h8, .inl (y3, 3, .inl f3)), (h6, .inr (5, [.int x10, .int x11, .int x12, .int x13, .int x14, .int x15])), (h5, .inr (7, [.int x16, .int x17, .int x18, .int x19, .int x20]))] sz) [(h0, .inr (2, [.ref h1, .ref h2, .ref h3, .int x1, .int x2, .int x3, .int u.1, .int u.2.1])), (h1, .inl (y0, 16, .inl u.2.2.1)), (h3, .inr (1, [.ref h4, .ref h5, .ref h6, .ref h7])), (h4, .inl (y1, 32768, .inl u.2.2.2.1)), (h7, .inr (9, [.ref h8, .ref h9, .int u.2.2.2.2.1, .int u.2.2.2.2.2.1, .int u.2.2.2.2.2.2.1, .int u.2.2.2.2.2.2.2.1])), (h9, .inl (y2, 3, .inl u.2.2.2.2.2.2.2.2.1)), (h8, .inl (y3, 3, .inl u.2.2.2.2.2.2.2.2.2.1)), (h6, .inr (5, [.int u.2.2.2.2.2.2.2.2.2.2.1, .int u.2.2.2.2.2.2.2.2.2.2.2.1, .int u.2.2.2.2.2.2.2.2.2.2.2.2.1, .int u.2.2.2.2.2.2.2.2.2.2.2.2.2.1, .int u.2.2.2.2.2.2.2.2.2.2.2.2.2.2.1, .int u.2.2.2.2.2.2.2.2.2.2.2.2.2.2.2.1])), (h5, .inr (7, [.int x16, .int u.2.2.2.2.2.2.2.2.2.2.2.2.2.2.2.2.1, .int u.2.2.2.2.2.2.2.2.2.2.2.2.2.2.2.2.2.1, .int u.2.2.2.2.2.2.2.2.2.2.2.2.2.2.2.2.2.2.1, .int u.2.2.2.2.2.2.2.2.2.2.2.2.2.2.2.2.2.2.2]))]) (va_A [(h0, .inr (2, [.ref h1, .ref h2, .ref h3, .int x1, .int x2, .int x3, .int x4, .int x5])), (h1, .inl (y0, 16, .inl f0)), (h3, .inr (1, [.ref h4, .ref h5, .ref h6, .ref h7])), (h4, .inl (y1, 32768, .inl f1)), (h7, .inr (9, [.ref h8, .ref h9, .int x6, .int x7, .int x8, .int x9])), (h9, .inl (y2, 3, .inl f2)), (h8, .inl (y3, 3, .inl f3)), (h6, .inr (5, [.int x10, .int x11, .int x12, .int x13, .int x14, .int x15])), (h5, .inr (7, [.int x16, .int x17, .int x18, .int x19, .int x20]))] sz)) 0 0 (va_A [(h0, .inr (2, [.ref h1, .ref h2, .ref h3, .int x1, .int x2, .int x3, .int x4, .int x5])), (h1, .inl (y0, 16, .inl f0)), (h3, .inr (1, [.ref h4, .ref h5, .ref h6, .ref h7])), (h4, .inl (y1, 32768, .inl f1)), (h7, .inr (9, [.ref h8, .ref h9, .int x6, .int x7, .int x8, .int x9])), (h9, .inl (y2, 3, .inl f2)), (h8, .inl (y3, 3, .inl f3)), (h6, .inr (5, [.int x10, .int x11, .int x12, .int x13, .int x14, .int x15])), (h5, .inr (7, [.int x16, .int x17, .int x18, .int x19, .int x20]))] sz) := by
  refine Met.ofW (cc := cX2_one) (maxL := 7) (ret := (some .int)) (by decide) rfl ?_
  intro p e s m args below meth c s₁ B hml hv
  obtain ⟨rfl, hsz, hP, hK, hD0⟩ := hv
  have hx := B.exec
  have hb := B.bytes
  have hr := B.returns
  have hts0 := atoms_spec (ws := Cond.code yX2_one cX2_one 7 (some .int) :: lw_G) B.pre
  have hG : ∀ w ∈ lw_G, w.before _ s = true := fun w h => hts0 w (List.mem_cons_of_mem _ h)
  have hown : s.vm.findClass RX2 = some m.cls := findClass_of_methodNamed B.named
  have hlocks := B.notSynchronized
  subst hsz
  have hD := hD0.self (sz := s.heap.size)
  generalize hAe : va_A [(h0, .inr (2, [.ref h1, .ref h2, .ref h3, .int x1, .int x2, .int x3, .int x4, .int x5])), (h1, .inl (y0, 16, .inl f0)), (h3, .inr (1, [.ref h4, .ref h5, .ref h6, .ref h7])), (h4, .inl (y1, 32768, .inl f1)), (h7, .inr (9, [.ref h8, .ref h9, .int x6, .int x7, .int x8, .int x9])), (h9, .inl (y2, 3, .inl f2)), (h8, .inl (y3, 3, .inl f3)), (h6, .inr (5, [.int x10, .int x11, .int x12, .int x13, .int x14, .int x15])), (h5, .inr (7, [.int x16, .int x17, .int x18, .int x19, .int x20]))] s.heap.size = A at hD ⊢
  have hA : ∀ q : Nat, s.heap.size ≤ q → A q := fun q h => by rw [← hAe]; exact Or.inr h
  have hS : va_S A s.heap s.heap [] := va_S.rf
  have hP : va_P (dC, dI) vwCl [(h0, .inr (2, [.ref h1, .ref h2, .ref h3, .int x1, .int x2, .int x3, .int x4, .int x5])), (h1, .inl (y0, 16, .inl f0)), (h3, .inr (1, [.ref h4, .ref h5, .ref h6, .ref h7])), (h4, .inl (y1, 32768, .inl f1)), (h7, .inr (9, [.ref h8, .ref h9, .int x6, .int x7, .int x8, .int x9])), (h9, .inl (y2, 3, .inl f2)), (h8, .inl (y3, 3, .inl f3)), (h6, .inr (5, [.int x10, .int x11, .int x12, .int x13, .int x14, .int x15])), (h5, .inr (7, [.int x16, .int x17, .int x18, .int x19, .int x20]))] s.heap := hP
  have hl := lv_entry ([.ref h0, .int x0]) (n := 7) (Nat.le_of_ble_eq_true rfl)
  rw [lg_entry_eq]
  generalize (lg_sl ([.ref h0, .int x0]) ++ List.replicate (7 - (lg_sl ([.ref h0, .int x0])).length) Slot.unset).toArray = ls at hl ⊢
  have hl : lv_has ls 7 [(0, .ref h0), (1, .int x0)] := hl
  generalize ([.ref h0, .int x0] : List Value).toArray = ar at hG ⊢
  refine wq (fun Q hQ => ?_)
  refine lv_iload_n hx hb dX2_one_0 rfl (lv_at hl 1 rfl) ?_
  refine lv_bipush (v := 7) hx hb dX2_one_1 (by decide) ?_
  refine lv_ishr hx hb dX2_one_3 ?_
  refine lv_topi (fun v1 ev1 => ?_)
  have iv1 : iv v1 (-16777216) 16777215 := iv_eq ev1 (iv_shr 7 (by decide) (iv_any x0) (by decide) (by decide))
  refine lv_bipush (v := 7) hx hb dX2_one_4 (by decide) ?_
  refine lv_iand hx hb dX2_one_6 ?_
  refine lv_topi (fun v2 ev2 => ?_)
  have iv2 : iv v2 0 7 := iv_eq ev2 (iv_and (x := v1) (iv_w (by decide : iv 7 7 7) (by decide) (by decide) : iv 7 0 7))
  refine lv_istore_n (lv' := [(2, .int v2), (0, .ref h0), (1, .int x0)]) hx hb dX2_one_7 rfl hl (by decide) rfl (fun ls hl => ?_)
  refine lv_iload_n hx hb dX2_one_8 rfl (lv_at hl 2 rfl) ?_
  refine lv_bipush (v := 15) hx hb dX2_one_9 (by decide) ?_
  refine lv_iand hx hb dX2_one_11 ?_
  refine lv_topi (fun v3 ev3 => ?_)
  have iv3 : iv v3 0 15 := iv_eq ev3 (iv_and (x := x0) (iv_w (by decide : iv 15 15 15) (by decide) (by decide) : iv 15 0 15))
  refine lv_istore_n (lv' := [(3, .int v3), (2, .int v2), (0, .ref h0), (1, .int x0)]) hx hb dX2_one_12 rfl hl (by decide) rfl (fun ls hl => ?_)
  refine lv_iload_n hx hb dX2_one_13 rfl (lv_at hl 3 rfl) ?_
  refine lv_iconst (v := 4) hx hb dX2_one_14 (by decide) ?_
  refine lv_ishr hx hb dX2_one_15 ?_
  refine lv_topi (fun v4 ev4 => ?_)
  have iv4 : iv v4 (-134217728) 134217727 := iv_eq ev4 (iv_shr 4 (by decide) (iv_any x0) (by decide) (by decide))
  refine lv_iconst (v := 3) hx hb dX2_one_16 (by decide) ?_
  refine lv_iand hx hb dX2_one_17 ?_
  refine lv_topi (fun v5 ev5 => ?_)
  have iv5 : iv v5 0 3 := iv_eq ev5 (iv_and (x := v4) (iv_w (by decide : iv 3 3 3) (by decide) (by decide) : iv 3 0 3))
  refine lv_istore (lv' := [(4, .int v5), (3, .int v3), (2, .int v2), (0, .ref h0), (1, .int x0)]) hx hb dX2_one_18 hl (by decide) rfl (fun ls hl => ?_)
  refine lv_iload_n hx hb dX2_one_20 rfl (lv_at hl 2 rfl) ?_
  refine lv_bipush (v := 6) hx hb dX2_one_21 (by decide) ?_
  refine lv_icmp_ne (tgt := 46) hx hb dX2_one_23 (by decide) (fun c6 => ?_) (fun c6 => ?_)
  · skip
    refine lv_aload_n hx hb dX2_one_46 rfl (lv_at hl 3 rfl) ?_
    refine lv_iload_n hx hb dX2_one_47 rfl (lv_at hl 4 rfl) ?_
    refine lv_bipush (v := 64) hx hb dX2_one_48 (by decide) ?_
    refine lv_iand hx hb dX2_one_50 ?_
    refine lv_topi (fun v7 ev7 => ?_)
    have iv7 : iv v7 0 64 := iv_eq ev7 (iv_and (x := x0) (iv_w (by decide : iv 64 64 64) (by decide) (by decide) : iv 64 0 64))
    refine jcut (a := ∀ (b10 : Int32) (ib10 : iv b10 0 1) (H : Heap) (locs : List Loc) (hK : va_K (dC, dI) vwCl [(y0, .int), (y1, .int), (y2, .int), (y3, .int)] s) (hP : va_P (dC, dI) vwCl [(h0, .inr (2, [.ref h1, .ref h2, .ref h3, .int x1, .int x2, .int x3, .int x4, .int x5])), (h1, .inl (y0, 16, .inl f0)), (h3, .inr (1, [.ref h4, .ref h5, .ref h6, .ref h7])), (h4, .inl (y1, 32768, .inl f1)), (h7, .inr (9, [.ref h8, .ref h9, .int x6, .int x7, .int x8, .int x9])), (h9, .inl (y2, 3, .inl f2)), (h8, .inl (y3, 3, .inl f3)), (h6, .inr (5, [.int x10, .int x11, .int x12, .int x13, .int x14, .int x15])), (h5, .inr (7, [.int x16, .int x17, .int x18, .int x19, .int x20]))] H) (hD : va_D A [(h0, .inr (2, [.ref h1, .ref h2, .ref h3, .int x1, .int x2, .int x3, .int x4, .int x5])), (h1, .inl (y0, 16, .inl f0)), (h3, .inr (1, [.ref h4, .ref h5, .ref h6, .ref h7])), (h4, .inl (y1, 32768, .inl f1)), (h7, .inr (9, [.ref h8, .ref h9, .int x6, .int x7, .int x8, .int x9])), (h9, .inl (y2, 3, .inl f2)), (h8, .inl (y3, 3, .inl f3)), (h6, .inr (5, [.int x10, .int x11, .int x12, .int x13, .int x14, .int x15])), (h5, .inr (7, [.int x16, .int x17, .int x18, .int x19, .int x20]))]) (hS : va_S A s.heap H locs) (ls : Array Slot) (hl : lv_has ls 7 [(4, .int v5), (3, .int v3), (2, .int v2), (0, .ref h0)]), W p l e (headSpec (Cond.code yX2_one cX2_one 7 (some .int) :: lw_G) ({ frames := 5, cells := 0, slots := 0, locals := 113 })).room s m ar below meth c H locs 0 0 Q (F0 m 59 ls [.int b10, .ref h0])) ?_ (fun j11 => ?_)
    · skip
      intro b10 ib10 H locs hK hP hD hS ls hl
      refine va_put (D := (dC, dI)) (ci := 2) (v := .int b10) (ty := .boolean) (C := RX2) (T := TX2) (N := 8) hx hb hG inGX2 tyX2 tyX2_ok nmX2 hown hK hP hD hS 0 rfl rfl 7 (by decide) (hG _ wd_156) (fun _ h9 => h9) rfl (by decide +kernel) (iv_z (iv_w ib10 (by decide) (by decide))).1 (iv_z (iv_w ib10 (by decide) (by decide))).2 (Nat.le_of_ble_eq_true rfl) dX2_one_59 (fun H locs hP hD hS => ?_)
      obtain ⟨hP, hD⟩ := nv_eq (ws' := [(h0, .inr (2, [.ref h1, .ref h2, .ref h3, .int x1, .int x2, .int x3, .int x4, .int b10])), (h1, .inl (y0, 16, .inl f0)), (h3, .inr (1, [.ref h4, .ref h5, .ref h6, .ref h7])), (h4, .inl (y1, 32768, .inl f1)), (h7, .inr (9, [.ref h8, .ref h9, .int x6, .int x7, .int x8, .int x9])), (h9, .inl (y2, 3, .inl f2)), (h8, .inl (y3, 3, .inl f3)), (h6, .inr (5, [.int x10, .int x11, .int x12, .int x13, .int x14, .int x15])), (h5, .inr (7, [.int x16, .int x17, .int x18, .int x19, .int x20]))]) hP hD rfl
      refine lv_aload_n hx hb dX2_one_62 rfl (lv_at hl 3 rfl) ?_
      refine lv_iload hx hb dX2_one_63 (lv_at hl 0 rfl) ?_
      refine lv_iload_n hx hb dX2_one_65 rfl (lv_at hl 1 rfl) ?_
      obtain ⟨hPc, hDc, hFc⟩ := nv_sub3 (wc := [(h0, .inr (2, [.ref h1, .ref h2, .ref h3, .int x1, .int x2, .int x3, .int x4, .int b10])), (h1, .inl (y0, 16, .inl f0)), (h3, .inr (1, [.ref h4, .ref h5, .ref h6, .ref h7])), (h4, .inl (y1, 32768, .inl f1)), (h7, .inr (9, [.ref h8, .ref h9, .int x6, .int x7, .int x8, .int x9])), (h9, .inl (y2, 3, .inl f2)), (h8, .inl (y3, 3, .inl f3)), (h6, .inr (5, [.int x10, .int x11, .int x12, .int x13, .int x14, .int x15])), (h5, .inr (7, [.int x16, .int x17, .int x18, .int x19, .int x20]))]) hP hD hS hA [0, 1, 2, 3, 4, 5, 6, 7, 8] (by decide) rfl
      have hKc := hK.sub (tys' := [(y0, .int), (y1, .int), (y2, .int), (y3, .int)]) [0, 1, 2, 3] rfl
      refine va_calli (va_runV (As := [.int v5, .int v3]) (rest := []) ⟨hx, hb, hml, hown, hG⟩ (cX2_operand_1 l dC dI h0 h1 h2 h3 h4 h5 h6 h7 h8 h9 y0 y1 y2 y3 H.size v5 v3 x1 x2 x3 x4 b10 x6 x7 x8 x9 x10 x11 x12 x13 x14 x15 x16 x17 x18 x19 x20 f0 f1 f2 f3 iv5 iv3 ib10 ix9) (cwV 2 hG (gV wd_1016 wd_1018 wp_36 wd_6 wd_1019) rfl rfl rfl (by decide +kernel) ⟨Nat.le_of_ble_eq_true rfl, Nat.le_of_ble_eq_true rfl⟩) ⟨fun a U g mk q => by obtain ⟨q0, q1, qP, qK, qD⟩ := q; exact ⟨q0, q1, qP, va_K.moved (u := U) (U := U.calling g mk a) (Vm.Alike.refl U.vm) qK, qD⟩, va_recv hKc hPc (ci := 2) (q0 := 0) rfl rfl, fun U hU hW => ⟨rfl, by rw [hU], by rw [hU]; exact hPc, va_K.moved hW.alike hKc, hDc.weaken (fun _ _ _ _ => trivial)⟩⟩ rfl rfl hl.1 rfl (lv_room (Nat.le_of_ble_eq_true rfl)) dX2_one_66 ⟨by decide, by decide⟩) hS (fun q _ h => hFc q h) hFc (fun r12 u13 t H1 locs ht hvm hw hB hz1 hk1 hS => ?_)
      obtain ⟨u13_0, u13_1, u13_2, u13_3, u13_4⟩ := u13
      have hw : iv u13_1 0 1 ∧ True := hw
      obtain ⟨iu13_1, -⟩ := hw
      obtain ⟨hP1, hK1, hD1⟩ := hB
      rw [ht] at hP1
      have hK1 := va_K.moved hvm.symm hK1
      obtain ⟨hP, hD⟩ := nv_join (wf := [(h0, .inr (2, [.ref h1, .ref h2, .ref h3, .int x1, .int x2, .int x3, .int u13_0, .int u13_1])), (h1, .inl (y0, 16, .inl u13_2)), (h3, .inr (1, [.ref h4, .ref h5, .ref h6, .ref h7])), (h4, .inl (y1, 32768, .inl f1)), (h7, .inr (9, [.ref h8, .ref h9, .int u13_3, .int x7, .int x8, .int x9])), (h9, .inl (y2, 3, .inl f2)), (h8, .inl (y3, 3, .inl u13_4)), (h6, .inr (5, [.int x10, .int x11, .int x12, .int x13, .int x14, .int x15])), (h5, .inr (7, [.int x16, .int x17, .int x18, .int x19, .int x20]))]) hP hD [0, 1, 2, 3, 4, 5, 6, 7, 8] [] rfl rfl (by decide) (by decide) hk1 hFc hP1 hD1 rfl
      have hK := (hK.sub (tys' := []) [] rfl).app hK1
      generalize H1 = H at hP hS ⊢
      have hK : va_K (dC, dI) vwCl [(y0, .int), (y1, .int), (y2, .int), (y3, .int)] s := hK
      refine lv_istore (lv' := [(5, .int r12), (4, .int v5), (3, .int v3), (2, .int v2), (0, .ref h0)]) hx hb dX2_one_69 hl (by decide) rfl (fun ls hl => ?_)
      refine lv_iload hx hb dX2_one_71 (lv_at hl 1 rfl) ?_
      refine jcut (a := ∀ (b22 : Int32) (b23 : Int32) (ib22 : iv b22 0 2) (ib23 : iv b23 0 3) (H : Heap) (locs : List Loc) (hK : va_K (dC, dI) vwCl [(y0, .int), (y1, .int), (y2, .int), (y3, .int)] s) (hP : va_P (dC, dI) vwCl [(h0, .inr (2, [.ref h1, .ref h2, .ref h3, .int x1, .int x2, .int x3, .int u13_0, .int u13_1])), (h1, .inl (y0, 16, .inl u13_2)), (h3, .inr (1, [.ref h4, .ref h5, .ref h6, .ref h7])), (h4, .inl (y1, 32768, .inl f1)), (h7, .inr (9, [.ref h8, .ref h9, .int u13_3, .int x7, .int x8, .int x9])), (h9, .inl (y2, 3, .inl f2)), (h8, .inl (y3, 3, .inl u13_4)), (h6, .inr (5, [.int x10, .int x11, .int x12, .int x13, .int x14, .int x15])), (h5, .inr (7, [.int x16, .int x17, .int x18, .int x19, .int x20]))] H) (hD : va_D A [(h0, .inr (2, [.ref h1, .ref h2, .ref h3, .int x1, .int x2, .int x3, .int u13_0, .int u13_1])), (h1, .inl (y0, 16, .inl u13_2)), (h3, .inr (1, [.ref h4, .ref h5, .ref h6, .ref h7])), (h4, .inl (y1, 32768, .inl f1)), (h7, .inr (9, [.ref h8, .ref h9, .int u13_3, .int x7, .int x8, .int x9])), (h9, .inl (y2, 3, .inl f2)), (h8, .inl (y3, 3, .inl u13_4)), (h6, .inr (5, [.int x10, .int x11, .int x12, .int x13, .int x14, .int x15])), (h5, .inr (7, [.int x16, .int x17, .int x18, .int x19, .int x20]))]) (hS : va_S A s.heap H locs) (ls : Array Slot) (hl : lv_has ls 7 [(5, .int r12), (4, .int b23), (2, .int v2), (0, .ref h0)]), W p l e (headSpec (Cond.code yX2_one cX2_one 7 (some .int) :: lw_G) ({ frames := 5, cells := 0, slots := 0, locals := 113 })).room s m ar below meth c H locs 0 0 Q (F0 m 100 ls [.int b22])) ?_ (fun j24 => ?_)
      · skip
        intro b22 b23 ib22 ib23 H locs hK hP hD hS ls hl
        refine lv_istore (lv' := [(6, .int b22), (5, .int r12), (4, .int b23), (2, .int v2), (0, .ref h0)]) hx hb dX2_one_100 hl (by decide) rfl (fun ls hl => ?_)
        refine lv_iload_n hx hb dX2_one_102 rfl (lv_at hl 3 rfl) ?_
        refine lv_iconst (v := 4) hx hb dX2_one_103 (by decide) ?_
        refine lv_icmp_ne (tgt := 141) hx hb dX2_one_104 (by decide) (fun c25 => ?_) (fun c25 => ?_)
        · skip
          refine lv_iload_n hx hb dX2_one_141 rfl (lv_at hl 3 rfl) ?_
          refine lv_iconst (v := 5) hx hb dX2_one_142 (by decide) ?_
          refine lv_icmp_ne (tgt := 187) hx hb dX2_one_143 (by decide) (fun c26 => ?_) (fun c26 => ?_)
          · skip
            refine lv_aload_n hx hb dX2_one_187 rfl (lv_at hl 4 rfl) ?_
            refine lv_aload_n hx hb dX2_one_188 rfl (lv_at hl 4 rfl) ?_
            refine lv_iload_n hx hb dX2_one_189 rfl (lv_at hl 3 rfl) ?_
            refine lv_iload hx hb dX2_one_190 (lv_at hl 1 rfl) ?_
            obtain ⟨hPc, hDc, hFc⟩ := nv_sub3 (wc := [(h0, .inr (2, [.ref h1, .ref h2, .ref h3, .int x1, .int x2, .int x3, .int u13_0, .int u13_1])), (h1, .inl (y0, 16, .inl u13_2))]) hP hD hS hA [0, 1] (by decide) rfl
            have hKc := hK.sub (tys' := [(y0, .int)]) [0] rfl
            refine va_calli (va_runV (As := [.int v2, .int r12]) (rest := [.ref h0]) ⟨hx, hb, hml, hown, hG⟩ (cX2_turn_1 l dC dI h0 h1 h2 h3 y0 H.size v2 r12 x1 x2 x3 u13_0 u13_1 u13_2 iu13_1) (cwV 2 hG (gV wd_1081 wd_1083 wp_49 wd_6 wd_1084) rfl rfl rfl (by decide +kernel) ⟨Nat.le_of_ble_eq_true rfl, Nat.le_of_ble_eq_true rfl⟩) ⟨fun a U g mk q => by obtain ⟨q0, q1, qP, qK, qD⟩ := q; exact ⟨q0, q1, qP, va_K.moved (u := U) (U := U.calling g mk a) (Vm.Alike.refl U.vm) qK, qD⟩, va_recv hKc hPc (ci := 2) (q0 := 0) rfl rfl, fun U hU hW => ⟨rfl, by rw [hU], by rw [hU]; exact hPc, va_K.moved hW.alike hKc, hDc.weaken (fun _ _ _ _ => trivial)⟩⟩ rfl rfl hl.1 rfl (lv_room (Nat.le_of_ble_eq_true rfl)) dX2_one_192 ⟨by decide, by decide⟩) hS (fun q _ h => hFc q h) hFc (fun r27 u28 t H1 locs ht hvm hw hB hz1 hk1 hS => ?_)
            obtain ⟨u28_0, u28_1⟩ := u28
            have hw : iv u28_0 0 1 ∧ True := hw
            obtain ⟨iu28_0, -⟩ := hw
            obtain ⟨hP1, hK1, hD1⟩ := hB
            rw [ht] at hP1
            have hK1 := va_K.moved hvm.symm hK1
            obtain ⟨hP, hD⟩ := nv_join (wf := [(h3, .inr (1, [.ref h4, .ref h5, .ref h6, .ref h7])), (h4, .inl (y1, 32768, .inl f1)), (h7, .inr (9, [.ref h8, .ref h9, .int u13_3, .int x7, .int x8, .int x9])), (h9, .inl (y2, 3, .inl f2)), (h8, .inl (y3, 3, .inl u13_4)), (h6, .inr (5, [.int x10, .int x11, .int x12, .int x13, .int x14, .int x15])), (h5, .inr (7, [.int x16, .int x17, .int x18, .int x19, .int x20])), (h0, .inr (2, [.ref h1, .ref h2, .ref h3, .int x1, .int x2, .int x3, .int u13_0, .int u28_0])), (h1, .inl (y0, 16, .inl u28_1))]) hP hD [0, 1] [2, 3, 4, 5, 6, 7, 8] rfl rfl (by decide) (by decide) hk1 hFc hP1 hD1 rfl
            have hK := (hK.sub (tys' := [(y1, .int), (y2, .int), (y3, .int)]) [1, 2, 3] rfl).app hK1
            generalize H1 = H at hP hS ⊢
            have hK : va_K (dC, dI) vwCl [(y1, .int), (y2, .int), (y3, .int), (y0, .int)] s := hK
            obtain ⟨hPc, hDc, hFc⟩ := nv_sub3 (wc := [(h0, .inr (2, [.ref h1, .ref h2, .ref h3, .int x1, .int x2, .int x3, .int u13_0, .int u28_0])), (h3, .inr (1, [.ref h4, .ref h5, .ref h6, .ref h7])), (h5, .inr (7, [.int x16, .int x17, .int x18, .int x19, .int x20])), (h7, .inr (9, [.ref h8, .ref h9, .int u13_3, .int x7, .int x8, .int x9])), (h9, .inl (y2, 3, .inl f2)), (h8, .inl (y3, 3, .inl u13_4)), (h6, .inr (5, [.int x10, .int x11, .int x12, .int x13, .int x14, .int x15])), (h4, .inl (y1, 32768, .inl f1)), (h1, .inl (y0, 16, .inl u28_1))]) hP hD hS hA [7, 0, 6, 2, 3, 4, 5, 1, 8] (by decide) rfl
            have hKc := hK.sub (tys' := [(y2, .int), (y3, .int), (y1, .int), (y0, .int)]) [1, 2, 0, 3] rfl
            refine va_callv (va_runV (As := [.int r27]) (rest := []) ⟨hx, hb, hml, hown, hG⟩ (cX2_store_1 l dC dI h0 h1 h2 h3 h4 h5 h6 h7 h8 h9 y2 y3 y1 y0 H.size r27 x1 x2 x3 u13_0 u28_0 x16 x17 x18 x19 x20 u13_3 x7 x8 x9 x10 x11 x12 x13 x14 x15 f2 u13_4 f1 u28_1 iu28_0 ix9) (cwV 1 hG (gV wd_1064 wd_1066 wp_45 wd_6 wd_1067) rfl rfl rfl (by decide +kernel) ⟨Nat.le_of_ble_eq_true rfl, Nat.le_of_ble_eq_true rfl⟩) ⟨fun a U g mk q => by obtain ⟨q0, q1, qP, qK, qD⟩ := q; exact ⟨q0, q1, qP, va_K.moved (u := U) (U := U.calling g mk a) (Vm.Alike.refl U.vm) qK, qD⟩, va_recv hKc hPc (ci := 2) (q0 := 0) rfl rfl, fun U hU hW => ⟨rfl, by rw [hU], by rw [hU]; exact hPc, va_K.moved hW.alike hKc, hDc.weaken (fun _ _ _ _ => trivial)⟩⟩ rfl rfl hl.1 rfl (lv_room (Nat.le_of_ble_eq_true rfl)) dX2_one_195 ⟨by decide, by decide⟩) hS (fun q _ h => hFc q h) hFc (fun u30 t H1 locs ht hvm hw hB hz1 hk1 hS => ?_)
            obtain ⟨u30_0, u30_1, u30_2, u30_3, u30_4, u30_5, u30_6, u30_7, u30_8, u30_9, u30_10, u30_11, u30_12, u30_13, u30_14, u30_15, u30_16, u30_17, u30_18, u30_19⟩ := u30
            have hw : iv u30_1 0 1 ∧ iv u30_9 0 1 ∧ True := hw
            obtain ⟨iu30_1, iu30_9, -⟩ := hw
            obtain ⟨hP1, hK1, hD1⟩ := hB
            rw [ht] at hP1
            have hK1 := va_K.moved hvm.symm hK1
            obtain ⟨hP, hD⟩ := nv_join (wf := [(h0, .inr (2, [.ref h1, .ref h2, .ref h3, .int x1, .int x2, .int x3, .int u30_0, .int u30_1])), (h3, .inr (1, [.ref h4, .ref h5, .ref h6, .ref h7])), (h5, .inr (7, [.int x16, .int u30_2, .int u30_3, .int u30_4, .int u30_5])), (h7, .inr (9, [.ref h8, .ref h9, .int u30_6, .int u30_7, .int u30_8, .int u30_9])), (h9, .inl (y2, 3, .inl u30_10)), (h8, .inl (y3, 3, .inl u30_11)), (h6, .inr (5, [.int u30_12, .int u30_13, .int u30_14, .int u30_15, .int u30_16, .int u30_17])), (h4, .inl (y1, 32768, .inl u30_18)), (h1, .inl (y0, 16, .inl u30_19))]) hP hD [7, 0, 6, 2, 3, 4, 5, 1, 8] [] rfl rfl (by decide) (by decide) hk1 hFc hP1 hD1 rfl
            have hK := (hK.sub (tys' := []) [] rfl).app hK1
            generalize H1 = H at hP hS ⊢
            have hK : va_K (dC, dI) vwCl [(y2, .int), (y3, .int), (y1, .int), (y0, .int)] s := hK
            refine lv_iload hx hb dX2_one_198 (lv_at hl 0 rfl) ?_
            refine jcut (a := ∀ (b34 : Int32) (ib34 : iv b34 1 4) (H : Heap) (locs : List Loc) (hK : va_K (dC, dI) vwCl [(y2, .int), (y3, .int), (y1, .int), (y0, .int)] s) (hP : va_P (dC, dI) vwCl [(h0, .inr (2, [.ref h1, .ref h2, .ref h3, .int x1, .int x2, .int x3, .int u30_0, .int u30_1])), (h3, .inr (1, [.ref h4, .ref h5, .ref h6, .ref h7])), (h5, .inr (7, [.int x16, .int u30_2, .int u30_3, .int u30_4, .int u30_5])), (h7, .inr (9, [.ref h8, .ref h9, .int u30_6, .int u30_7, .int u30_8, .int u30_9])), (h9, .inl (y2, 3, .inl u30_10)), (h8, .inl (y3, 3, .inl u30_11)), (h6, .inr (5, [.int u30_12, .int u30_13, .int u30_14, .int u30_15, .int u30_16, .int u30_17])), (h4, .inl (y1, 32768, .inl u30_18)), (h1, .inl (y0, 16, .inl u30_19))] H) (hD : va_D A [(h0, .inr (2, [.ref h1, .ref h2, .ref h3, .int x1, .int x2, .int x3, .int u30_0, .int u30_1])), (h3, .inr (1, [.ref h4, .ref h5, .ref h6, .ref h7])), (h5, .inr (7, [.int x16, .int u30_2, .int u30_3, .int u30_4, .int u30_5])), (h7, .inr (9, [.ref h8, .ref h9, .int u30_6, .int u30_7, .int u30_8, .int u30_9])), (h9, .inl (y2, 3, .inl u30_10)), (h8, .inl (y3, 3, .inl u30_11)), (h6, .inr (5, [.int u30_12, .int u30_13, .int u30_14, .int u30_15, .int u30_16, .int u30_17])), (h4, .inl (y1, 32768, .inl u30_18)), (h1, .inl (y0, 16, .inl u30_19))]) (hS : va_S A s.heap H locs) (ls : Array Slot) (hl : lv_has ls 7 []), W p l e (headSpec (Cond.code yX2_one cX2_one 7 (some .int) :: lw_G) ({ frames := 5, cells := 0, slots := 0, locals := 113 })).room s m ar below meth c H locs 0 0 Q (F0 m 211 ls [.int b34])) ?_ (fun j35 => ?_)
            · skip
              intro b34 ib34 H locs hK hP hD hS ls hl
              rw [hQ]
              obtain ⟨hP9, hD9⟩ := nv_sub2 (wc := [(h0, .inr (2, [.ref h1, .ref h2, .ref h3, .int x1, .int x2, .int x3, .int u30_0, .int u30_1])), (h1, .inl (y0, 16, .inl u30_19)), (h3, .inr (1, [.ref h4, .ref h5, .ref h6, .ref h7])), (h4, .inl (y1, 32768, .inl u30_18)), (h7, .inr (9, [.ref h8, .ref h9, .int u30_6, .int u30_7, .int u30_8, .int u30_9])), (h9, .inl (y2, 3, .inl u30_10)), (h8, .inl (y3, 3, .inl u30_11)), (h6, .inr (5, [.int u30_12, .int u30_13, .int u30_14, .int u30_15, .int u30_16, .int u30_17])), (h5, .inr (7, [.int x16, .int u30_2, .int u30_3, .int u30_4, .int u30_5]))]) hP hD [0, 8, 1, 7, 3, 4, 5, 6, 2] (by decide) rfl
              have hK9 := hK.sub (tys' := [(y0, .int), (y1, .int), (y2, .int), (y3, .int)]) [3, 2, 0, 1] rfl
              exact W.iret (v := b34) hx hb hr (fun t ht hW => ⟨⟨b34, (u30_0, u30_1, u30_19, u30_18, u30_6, u30_7, u30_8, u30_9, u30_10, u30_11, u30_12, u30_13, u30_14, u30_15, u30_16, u30_17, u30_2, u30_3, u30_4, u30_5), rfl, ⟨iv_w ib34 (by decide) (by decide), iv_w iu30_1 (by decide) (by decide), iv_w iu30_9 (by decide) (by decide), trivial⟩, by rw [ht]; exact hP9, va_K.moved hW.alike hK9, hD9⟩, hS.F ht⟩) hS.2.2 dX2_one_211
            refine lv_if_ne (tgt := 207) hx hb dX2_one_200 (by decide) (fun c31 => ?_) (fun c31 => ?_)
            · skip
              have j36 : iv b22 1 2 := iv_neLo ib22 (by decide : iv 0 0 0) c31 (by decide)
              refine lv_iconst (v := 2) hx hb dX2_one_207 (by decide) ?_
              refine lv_iload hx hb dX2_one_208 (lv_at hl 0 rfl) ?_
              refine lv_iadd hx hb dX2_one_210 ?_
              refine lv_topi (fun v37 ev37 => ?_)
              have iv37 : iv v37 3 4 := iv_eq ev37 (iv_add (by decide : iv 2 2 2) j36 (by decide) (by decide))
              exact j35 v37 (iv_w iv37 (by decide) (by decide)) _ _ hK hP hD hS ls (lv_sub hl [] rfl)
            · skip
              subst c31
              refine lv_iconst (v := 1) hx hb dX2_one_203 (by decide) ?_
              refine lv_goto (tgt := 211) hx hb dX2_one_204 (by decide) ?_
              exact j35 1 (iv_w (by decide : iv 1 1 1) (by decide) (by decide)) _ _ hK hP hD hS ls (lv_sub hl [] rfl)
          · skip
            subst c26
            refine lv_aload_n hx hb dX2_one_146 rfl (lv_at hl 4 rfl) ?_
            refine lv_aload_n hx hb dX2_one_147 rfl (lv_at hl 4 rfl) ?_
            refine va_get (D := (dC, dI)) (ci := 2) (v := .ref h1) (C := RX2) (T := TX2) (N := 8) hx hb hG inGX2 hown hK hP 0 rfl rfl 0 (by decide) (hG _ wd_149) (fun _ h9 => h9) rfl dX2_one_148 ?_
            refine lv_iconst (v := 0) hx hb dX2_one_151 (by decide) ?_
            refine va_iald hx hb hK hP 1 0 rfl rfl (iv_in (by decide : iv 0 0 0) (by decide) (by decide) : vp_in 0 16) dX2_one_152 ?_
            refine lv_topi (fun v38 ev38 => ?_)
            obtain ⟨hPc, hDc, hFc⟩ := nv_sub3 (wc := [(h0, .inr (2, [.ref h1, .ref h2, .ref h3, .int x1, .int x2, .int x3, .int u13_0, .int u13_1])), (h1, .inl (y0, 16, .inl u13_2)), (h3, .inr (1, [.ref h4, .ref h5, .ref h6, .ref h7])), (h5, .inr (7, [.int x16, .int x17, .int x18, .int x19, .int x20])), (h7, .inr (9, [.ref h8, .ref h9, .int u13_3, .int x7, .int x8, .int x9])), (h9, .inl (y2, 3, .inl f2)), (h8, .inl (y3, 3, .inl u13_4)), (h6, .inr (5, [.int x10, .int x11, .int x12, .int x13, .int x14, .int x15])), (h4, .inl (y1, 32768, .inl f1))]) hP hD hS hA [0, 1, 2, 8, 4, 5, 6, 7, 3] (by decide) rfl
            have hKc := hK.sub (tys' := [(y0, .int), (y2, .int), (y3, .int), (y1, .int)]) [0, 2, 3, 1] rfl
            refine va_callv (va_runV (As := [.int v38]) (rest := []) ⟨hx, hb, hml, hown, hG⟩ (cX2_pushWord_1 l dC dI h0 h1 h2 h3 h4 h5 h6 h7 h8 h9 y0 y2 y3 y1 H.size v38 x1 x2 x3 u13_0 u13_1 x16 x17 x18 x19 x20 u13_3 x7 x8 x9 x10 x11 x12 x13 x14 x15 u13_2 f2 u13_4 f1 iu13_1 ix9) (cwV 1 hG (gV wd_997 wd_999 wp_34 wd_6 wd_1000) rfl rfl rfl (by decide +kernel) ⟨Nat.le_of_ble_eq_true rfl, Nat.le_of_ble_eq_true rfl⟩) ⟨fun a U g mk q => by obtain ⟨q0, q1, qP, qK, qD⟩ := q; exact ⟨q0, q1, qP, va_K.moved (u := U) (U := U.calling g mk a) (Vm.Alike.refl U.vm) qK, qD⟩, va_recv hKc hPc (ci := 2) (q0 := 0) rfl rfl, fun U hU hW => ⟨rfl, by rw [hU], by rw [hU]; exact hPc, va_K.moved hW.alike hKc, hDc.weaken (fun _ _ _ _ => trivial)⟩⟩ rfl rfl hl.1 rfl (lv_room (Nat.le_of_ble_eq_true rfl)) dX2_one_153 ⟨by decide, by decide⟩) hS (fun q _ h => hFc q h) hFc (fun u40 t H1 locs ht hvm hw hB hz1 hk1 hS => ?_)
            obtain ⟨u40_0, u40_1, u40_2, u40_3, u40_4, u40_5, u40_6, u40_7, u40_8, u40_9, u40_10, u40_11, u40_12, u40_13, u40_14, u40_15, u40_16, u40_17⟩ := u40
            have hw : iv u40_8 0 1 ∧ True := hw
            obtain ⟨iu40_8, -⟩ := hw
            obtain ⟨hP1, hK1, hD1⟩ := hB
            rw [ht] at hP1
            have hK1 := va_K.moved hvm.symm hK1
            obtain ⟨hP, hD⟩ := nv_join (wf := [(h0, .inr (2, [.ref h1, .ref h2, .ref h3, .int x1, .int x2, .int x3, .int u13_0, .int u13_1])), (h1, .inl (y0, 16, .inl u40_0)), (h3, .inr (1, [.ref h4, .ref h5, .ref h6, .ref h7])), (h5, .inr (7, [.int x16, .int u40_1, .int u40_2, .int u40_3, .int u40_4])), (h7, .inr (9, [.ref h8, .ref h9, .int u40_5, .int u40_6, .int u40_7, .int u40_8])), (h9, .inl (y2, 3, .inl u40_9)), (h8, .inl (y3, 3, .inl u40_10)), (h6, .inr (5, [.int u40_11, .int u40_12, .int u40_13, .int u40_14, .int u40_15, .int u40_16])), (h4, .inl (y1, 32768, .inl u40_17))]) hP hD [0, 1, 2, 8, 4, 5, 6, 7, 3] [] rfl rfl (by decide) (by decide) hk1 hFc hP1 hD1 rfl
            have hK := (hK.sub (tys' := []) [] rfl).app hK1
            generalize H1 = H at hP hS ⊢
            have hK : va_K (dC, dI) vwCl [(y0, .int), (y2, .int), (y3, .int), (y1, .int)] s := hK
            refine lv_aload_n hx hb dX2_one_156 rfl (lv_at hl 4 rfl) ?_
            refine lv_iconst (v := 0) hx hb dX2_one_157 (by decide) ?_
            refine lv_iload hx hb dX2_one_158 (lv_at hl 1 rfl) ?_
            obtain ⟨hPc, hDc, hFc⟩ := nv_sub3 (wc := [(h0, .inr (2, [.ref h1, .ref h2, .ref h3, .int x1, .int x2, .int x3, .int u13_0, .int u13_1])), (h1, .inl (y0, 16, .inl u40_0))]) hP hD hS hA [0, 1] (by decide) rfl
            have hKc := hK.sub (tys' := [(y0, .int)]) [0] rfl
            refine va_callv (va_runV (As := [.int 0, .int r12]) (rest := []) ⟨hx, hb, hml, hown, hG⟩ (cX2_writeRegister_1 l dC dI h0 h1 h2 h3 y0 H.size 0 r12 x1 x2 x3 u13_0 u13_1 u40_0 iu13_1) (cwV 2 hG (gV wd_825 wd_826 wd_827 wd_6 wd_828) rfl rfl rfl (by decide +kernel) ⟨Nat.le_of_ble_eq_true rfl, Nat.le_of_ble_eq_true rfl⟩) ⟨fun a U g mk q => by obtain ⟨q0, q1, qP, qK, qD⟩ := q; exact ⟨q0, q1, qP, va_K.moved (u := U) (U := U.calling g mk a) (Vm.Alike.refl U.vm) qK, qD⟩, va_recv hKc hPc (ci := 2) (q0 := 0) rfl rfl, fun U hU hW => ⟨rfl, by rw [hU], by rw [hU]; exact hPc, va_K.moved hW.alike hKc, hDc.weaken (fun _ _ _ _ => trivial)⟩⟩ rfl rfl hl.1 rfl (lv_room (Nat.le_of_ble_eq_true rfl)) dX2_one_160 ⟨by decide, by decide⟩) hS (fun q _ h => hFc q h) hFc (fun u42 t H1 locs ht hvm hw hB hz1 hk1 hS => ?_)
            obtain ⟨u42_0, rfl⟩ : ∃ z, z = u42 := ⟨_, rfl⟩
            obtain ⟨hP1, hK1, hD1⟩ := hB
            rw [ht] at hP1
            have hK1 := va_K.moved hvm.symm hK1
            obtain ⟨hP, hD⟩ := nv_join (wf := [(h3, .inr (1, [.ref h4, .ref h5, .ref h6, .ref h7])), (h5, .inr (7, [.int x16, .int u40_1, .int u40_2, .int u40_3, .int u40_4])), (h7, .inr (9, [.ref h8, .ref h9, .int u40_5, .int u40_6, .int u40_7, .int u40_8])), (h9, .inl (y2, 3, .inl u40_9)), (h8, .inl (y3, 3, .inl u40_10)), (h6, .inr (5, [.int u40_11, .int u40_12, .int u40_13, .int u40_14, .int u40_15, .int u40_16])), (h4, .inl (y1, 32768, .inl u40_17)), (h0, .inr (2, [.ref h1, .ref h2, .ref h3, .int x1, .int x2, .int x3, .int u13_0, .int u13_1])), (h1, .inl (y0, 16, .inl u42_0))]) hP hD [0, 1] [2, 3, 4, 5, 6, 7, 8] rfl rfl (by decide) (by decide) hk1 hFc hP1 hD1 rfl
            have hK := (hK.sub (tys' := [(y2, .int), (y3, .int), (y1, .int)]) [1, 2, 3] rfl).app hK1
            generalize H1 = H at hP hS ⊢
            have hK : va_K (dC, dI) vwCl [(y2, .int), (y3, .int), (y1, .int), (y0, .int)] s := hK
            refine lv_iload hx hb dX2_one_163 (lv_at hl 0 rfl) ?_
            refine lv_iconst (v := 2) hx hb dX2_one_165 (by decide) ?_
            refine jcut (a := ∀ (b49 : Int32) (ib49 : iv b49 4 5) (H : Heap) (locs : List Loc) (hK : va_K (dC, dI) vwCl [(y2, .int), (y3, .int), (y1, .int), (y0, .int)] s) (hP : va_P (dC, dI) vwCl [(h3, .inr (1, [.ref h4, .ref h5, .ref h6, .ref h7])), (h5, .inr (7, [.int x16, .int u40_1, .int u40_2, .int u40_3, .int u40_4])), (h7, .inr (9, [.ref h8, .ref h9, .int u40_5, .int u40_6, .int u40_7, .int u40_8])), (h9, .inl (y2, 3, .inl u40_9)), (h8, .inl (y3, 3, .inl u40_10)), (h6, .inr (5, [.int u40_11, .int u40_12, .int u40_13, .int u40_14, .int u40_15, .int u40_16])), (h4, .inl (y1, 32768, .inl u40_17)), (h0, .inr (2, [.ref h1, .ref h2, .ref h3, .int x1, .int x2, .int x3, .int u13_0, .int u13_1])), (h1, .inl (y0, 16, .inl u42_0))] H) (hD : va_D A [(h3, .inr (1, [.ref h4, .ref h5, .ref h6, .ref h7])), (h5, .inr (7, [.int x16, .int u40_1, .int u40_2, .int u40_3, .int u40_4])), (h7, .inr (9, [.ref h8, .ref h9, .int u40_5, .int u40_6, .int u40_7, .int u40_8])), (h9, .inl (y2, 3, .inl u40_9)), (h8, .inl (y3, 3, .inl u40_10)), (h6, .inr (5, [.int u40_11, .int u40_12, .int u40_13, .int u40_14, .int u40_15, .int u40_16])), (h4, .inl (y1, 32768, .inl u40_17)), (h0, .inr (2, [.ref h1, .ref h2, .ref h3, .int x1, .int x2, .int x3, .int u13_0, .int u13_1])), (h1, .inl (y0, 16, .inl u42_0))]) (hS : va_S A s.heap H locs) (ls : Array Slot) (hl : lv_has ls 7 []), W p l e (headSpec (Cond.code yX2_one cX2_one 7 (some .int) :: lw_G) ({ frames := 5, cells := 0, slots := 0, locals := 113 })).room s m ar below meth c H locs 0 0 Q (F0 m 186 ls [.int b49])) ?_ (fun j50 => ?_)
            · skip
              intro b49 ib49 H locs hK hP hD hS ls hl
              rw [hQ]
              obtain ⟨hP9, hD9⟩ := nv_sub2 (wc := [(h0, .inr (2, [.ref h1, .ref h2, .ref h3, .int x1, .int x2, .int x3, .int u13_0, .int u13_1])), (h1, .inl (y0, 16, .inl u42_0)), (h3, .inr (1, [.ref h4, .ref h5, .ref h6, .ref h7])), (h4, .inl (y1, 32768, .inl u40_17)), (h7, .inr (9, [.ref h8, .ref h9, .int u40_5, .int u40_6, .int u40_7, .int u40_8])), (h9, .inl (y2, 3, .inl u40_9)), (h8, .inl (y3, 3, .inl u40_10)), (h6, .inr (5, [.int u40_11, .int u40_12, .int u40_13, .int u40_14, .int u40_15, .int u40_16])), (h5, .inr (7, [.int x16, .int u40_1, .int u40_2, .int u40_3, .int u40_4]))]) hP hD [7, 8, 0, 6, 2, 3, 4, 5, 1] (by decide) rfl
              have hK9 := hK.sub (tys' := [(y0, .int), (y1, .int), (y2, .int), (y3, .int)]) [3, 2, 0, 1] rfl
              exact W.iret (v := b49) hx hb hr (fun t ht hW => ⟨⟨b49, (u13_0, u13_1, u42_0, u40_17, u40_5, u40_6, u40_7, u40_8, u40_9, u40_10, u40_11, u40_12, u40_13, u40_14, u40_15, u40_16, u40_1, u40_2, u40_3, u40_4), rfl, ⟨iv_w ib49 (by decide) (by decide), iv_w iu13_1 (by decide) (by decide), iv_w iu40_8 (by decide) (by decide), trivial⟩, by rw [ht]; exact hP9, va_K.moved hW.alike hK9, hD9⟩, hS.F ht⟩) hS.2.2 dX2_one_186
            refine lv_icmp_eq (tgt := 181) hx hb dX2_one_166 (by decide) (fun c43 => ?_) (fun c43 => ?_)
            · skip
              subst c43
              refine lv_iconst (v := 5) hx hb dX2_one_181 (by decide) ?_
              refine lv_goto (tgt := 186) hx hb dX2_one_182 (by decide) ?_
              exact j50 5 (iv_w (by decide : iv 5 5 5) (by decide) (by decide)) _ _ hK hP hD hS ls (lv_sub hl [] rfl)
            · skip
              have j51 : iv b22 0 1 := iv_neHi ib22 (by decide : iv 2 2 2) c43 (by decide)
              refine lv_iload hx hb dX2_one_169 (lv_at hl 0 rfl) ?_
              refine lv_iconst (v := 1) hx hb dX2_one_171 (by decide) ?_
              refine lv_icmp_ne (tgt := 185) hx hb dX2_one_172 (by decide) (fun c52 => ?_) (fun c52 => ?_)
              · skip
                have j53 : iv b22 0 0 := iv_neHi j51 (by decide : iv 1 1 1) c52 (by decide)
                refine lv_iconst (v := 4) hx hb dX2_one_185 (by decide) ?_
                exact j50 4 (iv_w (by decide : iv 4 4 4) (by decide) (by decide)) _ _ hK hP hD hS ls (lv_sub hl [] rfl)
              · skip
                subst c52
                refine lv_iload hx hb dX2_one_175 (lv_at hl 2 rfl) ?_
                refine lv_iconst (v := 3) hx hb dX2_one_177 (by decide) ?_
                refine lv_icmp_ne (tgt := 185) hx hb dX2_one_178 (by decide) (fun c54 => ?_) (fun c54 => ?_)
                · skip
                  have j55 : iv b23 0 2 := iv_neHi ib23 (by decide : iv 3 3 3) c54 (by decide)
                  refine lv_iconst (v := 4) hx hb dX2_one_185 (by decide) ?_
                  exact j50 4 (iv_w (by decide : iv 4 4 4) (by decide) (by decide)) _ _ hK hP hD hS ls (lv_sub hl [] rfl)
                · skip
                  subst c54
                  refine lv_iconst (v := 5) hx hb dX2_one_181 (by decide) ?_
                  refine lv_goto (tgt := 186) hx hb dX2_one_182 (by decide) ?_
                  exact j50 5 (iv_w (by decide : iv 5 5 5) (by decide) (by decide)) _ _ hK hP hD hS ls (lv_sub hl [] rfl)
        · skip
          subst c25
          refine lv_aload_n hx hb dX2_one_107 rfl (lv_at hl 4 rfl) ?_
          refine lv_iconst (v := 1) hx hb dX2_one_108 (by decide) ?_
          refine lv_aload_n hx hb dX2_one_109 rfl (lv_at hl 4 rfl) ?_
          refine va_get (D := (dC, dI)) (ci := 2) (v := .ref h1) (C := RX2) (T := TX2) (N := 8) hx hb hG inGX2 hown hK hP 0 rfl rfl 0 (by decide) (hG _ wd_149) (fun _ h9 => h9) rfl dX2_one_110 ?_
          refine lv_iconst (v := 1) hx hb dX2_one_113 (by decide) ?_
          refine va_iald hx hb hK hP 1 0 rfl rfl (iv_in (by decide : iv 1 1 1) (by decide) (by decide) : vp_in 1 16) dX2_one_114 ?_
          refine lv_topi (fun v56 ev56 => ?_)
          refine lv_iconst (v := 2) hx hb dX2_one_115 (by decide) ?_
          refine lv_isub hx hb dX2_one_116 ?_
          refine lv_topi (fun v57 ev57 => ?_)
          obtain ⟨hPc, hDc, hFc⟩ := nv_sub3 (wc := [(h0, .inr (2, [.ref h1, .ref h2, .ref h3, .int x1, .int x2, .int x3, .int u13_0, .int u13_1])), (h1, .inl (y0, 16, .inl u13_2))]) hP hD hS hA [0, 1] (by decide) rfl
          have hKc := hK.sub (tys' := [(y0, .int)]) [0] rfl
          refine va_callv (va_runV (As := [.int 1, .int v57]) (rest := []) ⟨hx, hb, hml, hown, hG⟩ (cX2_writeRegister_1 l dC dI h0 h1 h2 h3 y0 H.size 1 v57 x1 x2 x3 u13_0 u13_1 u13_2 iu13_1) (cwV 2 hG (gV wd_825 wd_826 wd_827 wd_6 wd_828) rfl rfl rfl (by decide +kernel) ⟨Nat.le_of_ble_eq_true rfl, Nat.le_of_ble_eq_true rfl⟩) ⟨fun a U g mk q => by obtain ⟨q0, q1, qP, qK, qD⟩ := q; exact ⟨q0, q1, qP, va_K.moved (u := U) (U := U.calling g mk a) (Vm.Alike.refl U.vm) qK, qD⟩, va_recv hKc hPc (ci := 2) (q0 := 0) rfl rfl, fun U hU hW => ⟨rfl, by rw [hU], by rw [hU]; exact hPc, va_K.moved hW.alike hKc, hDc.weaken (fun _ _ _ _ => trivial)⟩⟩ rfl rfl hl.1 rfl (lv_room (Nat.le_of_ble_eq_true rfl)) dX2_one_117 ⟨by decide, by decide⟩) hS (fun q _ h => hFc q h) hFc (fun u59 t H1 locs ht hvm hw hB hz1 hk1 hS => ?_)
          obtain ⟨u59_0, rfl⟩ : ∃ z, z = u59 := ⟨_, rfl⟩
          obtain ⟨hP1, hK1, hD1⟩ := hB
          rw [ht] at hP1
          have hK1 := va_K.moved hvm.symm hK1
          obtain ⟨hP, hD⟩ := nv_join (wf := [(h3, .inr (1, [.ref h4, .ref h5, .ref h6, .ref h7])), (h4, .inl (y1, 32768, .inl f1)), (h7, .inr (9, [.ref h8, .ref h9, .int u13_3, .int x7, .int x8, .int x9])), (h9, .inl (y2, 3, .inl f2)), (h8, .inl (y3, 3, .inl u13_4)), (h6, .inr (5, [.int x10, .int x11, .int x12, .int x13, .int x14, .int x15])), (h5, .inr (7, [.int x16, .int x17, .int x18, .int x19, .int x20])), (h0, .inr (2, [.ref h1, .ref h2, .ref h3, .int x1, .int x2, .int x3, .int u13_0, .int u13_1])), (h1, .inl (y0, 16, .inl u59_0))]) hP hD [0, 1] [2, 3, 4, 5, 6, 7, 8] rfl rfl (by decide) (by decide) hk1 hFc hP1 hD1 rfl
          have hK := (hK.sub (tys' := [(y1, .int), (y2, .int), (y3, .int)]) [1, 2, 3] rfl).app hK1
          generalize H1 = H at hP hS ⊢
          have hK : va_K (dC, dI) vwCl [(y1, .int), (y2, .int), (y3, .int), (y0, .int)] s := hK
          refine lv_aload_n hx hb dX2_one_120 rfl (lv_at hl 4 rfl) ?_
          refine lv_aload_n hx hb dX2_one_121 rfl (lv_at hl 4 rfl) ?_
          refine va_get (D := (dC, dI)) (ci := 2) (v := .ref h1) (C := RX2) (T := TX2) (N := 8) hx hb hG inGX2 hown hK hP 7 rfl rfl 0 (by decide) (hG _ wd_149) (fun _ h9 => h9) rfl dX2_one_122 ?_
          refine lv_iconst (v := 1) hx hb dX2_one_125 (by decide) ?_
          refine va_iald hx hb hK hP 8 3 rfl rfl (iv_in (by decide : iv 1 1 1) (by decide) (by decide) : vp_in 1 16) dX2_one_126 ?_
          refine lv_topi (fun v60 ev60 => ?_)
          refine va_put (D := (dC, dI)) (ci := 2) (v := .int v60) (ty := .int) (C := RX2) (T := TX2) (N := 8) hx hb hG inGX2 tyX2 tyX2_ok nmX2 hown hK hP hD hS 7 rfl rfl 6 (by decide) (hG _ wd_155) (fun _ h9 => h9) rfl (by decide +kernel) rfl rfl (Nat.le_of_ble_eq_true rfl) dX2_one_127 (fun H locs hP hD hS => ?_)
          obtain ⟨hP, hD⟩ := nv_eq (ws' := [(h3, .inr (1, [.ref h4, .ref h5, .ref h6, .ref h7])), (h4, .inl (y1, 32768, .inl f1)), (h7, .inr (9, [.ref h8, .ref h9, .int u13_3, .int x7, .int x8, .int x9])), (h9, .inl (y2, 3, .inl f2)), (h8, .inl (y3, 3, .inl u13_4)), (h6, .inr (5, [.int x10, .int x11, .int x12, .int x13, .int x14, .int x15])), (h5, .inr (7, [.int x16, .int x17, .int x18, .int x19, .int x20])), (h0, .inr (2, [.ref h1, .ref h2, .ref h3, .int x1, .int x2, .int x3, .int v60, .int u13_1])), (h1, .inl (y0, 16, .inl u59_0))]) hP hD rfl
          refine lv_aload_n hx hb dX2_one_130 rfl (lv_at hl 4 rfl) ?_
          refine lv_iload hx hb dX2_one_131 (lv_at hl 1 rfl) ?_
          obtain ⟨hPc, hDc, hFc⟩ := nv_sub3 (wc := [(h0, .inr (2, [.ref h1, .ref h2, .ref h3, .int x1, .int x2, .int x3, .int v60, .int u13_1])), (h3, .inr (1, [.ref h4, .ref h5, .ref h6, .ref h7])), (h5, .inr (7, [.int x16, .int x17, .int x18, .int x19, .int x20])), (h7, .inr (9, [.ref h8, .ref h9, .int u13_3, .int x7, .int x8, .int x9])), (h9, .inl (y2, 3, .inl f2)), (h8, .inl (y3, 3, .inl u13_4)), (h6, .inr (5, [.int x10, .int x11, .int x12, .int x13, .int x14, .int x15])), (h4, .inl (y1, 32768, .inl f1)), (h1, .inl (y0, 16, .inl u59_0))]) hP hD hS hA [7, 0, 6, 2, 3, 4, 5, 1, 8] (by decide) rfl
          have hKc := hK.sub (tys' := [(y2, .int), (y3, .int), (y1, .int), (y0, .int)]) [1, 2, 0, 3] rfl
          refine va_callv (va_runV (As := [.int r12]) (rest := []) ⟨hx, hb, hml, hown, hG⟩ (cX2_store_1 l dC dI h0 h1 h2 h3 h4 h5 h6 h7 h8 h9 y2 y3 y1 y0 H.size r12 x1 x2 x3 v60 u13_1 x16 x17 x18 x19 x20 u13_3 x7 x8 x9 x10 x11 x12 x13 x14 x15 f2 u13_4 f1 u59_0 iu13_1 ix9) (cwV 1 hG (gV wd_1064 wd_1066 wp_45 wd_6 wd_1067) rfl rfl rfl (by decide +kernel) ⟨Nat.le_of_ble_eq_true rfl, Nat.le_of_ble_eq_true rfl⟩) ⟨fun a U g mk q => by obtain ⟨q0, q1, qP, qK, qD⟩ := q; exact ⟨q0, q1, qP, va_K.moved (u := U) (U := U.calling g mk a) (Vm.Alike.refl U.vm) qK, qD⟩, va_recv hKc hPc (ci := 2) (q0 := 0) rfl rfl, fun U hU hW => ⟨rfl, by rw [hU], by rw [hU]; exact hPc, va_K.moved hW.alike hKc, hDc.weaken (fun _ _ _ _ => trivial)⟩⟩ rfl rfl hl.1 rfl (lv_room (Nat.le_of_ble_eq_true rfl)) dX2_one_133 ⟨by decide, by decide⟩) hS (fun q _ h => hFc q h) hFc (fun u62 t H1 locs ht hvm hw hB hz1 hk1 hS => ?_)
          obtain ⟨u62_0, u62_1, u62_2, u62_3, u62_4, u62_5, u62_6, u62_7, u62_8, u62_9, u62_10, u62_11, u62_12, u62_13, u62_14, u62_15, u62_16, u62_17, u62_18, u62_19⟩ := u62
          have hw : iv u62_1 0 1 ∧ iv u62_9 0 1 ∧ True := hw
          obtain ⟨iu62_1, iu62_9, -⟩ := hw
          obtain ⟨hP1, hK1, hD1⟩ := hB
          rw [ht] at hP1
          have hK1 := va_K.moved hvm.symm hK1
          obtain ⟨hP, hD⟩ := nv_join (wf := [(h0, .inr (2, [.ref h1, .ref h2, .ref h3, .int x1, .int x2, .int x3, .int u62_0, .int u62_1])), (h3, .inr (1, [.ref h4, .ref h5, .ref h6, .ref h7])), (h5, .inr (7, [.int x16, .int u62_2, .int u62_3, .int u62_4, .int u62_5])), (h7, .inr (9, [.ref h8, .ref h9, .int u62_6, .int u62_7, .int u62_8, .int u62_9])), (h9, .inl (y2, 3, .inl u62_10)), (h8, .inl (y3, 3, .inl u62_11)), (h6, .inr (5, [.int u62_12, .int u62_13, .int u62_14, .int u62_15, .int u62_16, .int u62_17])), (h4, .inl (y1, 32768, .inl u62_18)), (h1, .inl (y0, 16, .inl u62_19))]) hP hD [7, 0, 6, 2, 3, 4, 5, 1, 8] [] rfl rfl (by decide) (by decide) hk1 hFc hP1 hD1 rfl
          have hK := (hK.sub (tys' := []) [] rfl).app hK1
          generalize H1 = H at hP hS ⊢
          have hK : va_K (dC, dI) vwCl [(y2, .int), (y3, .int), (y1, .int), (y0, .int)] s := hK
          refine lv_iconst (v := 3) hx hb dX2_one_136 (by decide) ?_
          refine lv_iload hx hb dX2_one_137 (lv_at hl 0 rfl) ?_
          refine lv_iadd hx hb dX2_one_139 ?_
          refine lv_topi (fun v63 ev63 => ?_)
          have iv63 : iv v63 3 5 := iv_eq ev63 (iv_add (by decide : iv 3 3 3) ib22 (by decide) (by decide))
          rw [hQ]
          obtain ⟨hP9, hD9⟩ := nv_sub2 (wc := [(h0, .inr (2, [.ref h1, .ref h2, .ref h3, .int x1, .int x2, .int x3, .int u62_0, .int u62_1])), (h1, .inl (y0, 16, .inl u62_19)), (h3, .inr (1, [.ref h4, .ref h5, .ref h6, .ref h7])), (h4, .inl (y1, 32768, .inl u62_18)), (h7, .inr (9, [.ref h8, .ref h9, .int u62_6, .int u62_7, .int u62_8, .int u62_9])), (h9, .inl (y2, 3, .inl u62_10)), (h8, .inl (y3, 3, .inl u62_11)), (h6, .inr (5, [.int u62_12, .int u62_13, .int u62_14, .int u62_15, .int u62_16, .int u62_17])), (h5, .inr (7, [.int x16, .int u62_2, .int u62_3, .int u62_4, .int u62_5]))]) hP hD [0, 8, 1, 7, 3, 4, 5, 6, 2] (by decide) rfl
          have hK9 := hK.sub (tys' := [(y0, .int), (y1, .int), (y2, .int), (y3, .int)]) [3, 2, 0, 1] rfl
          exact W.iret (v := v63) hx hb hr (fun t ht hW => ⟨⟨v63, (u62_0, u62_1, u62_19, u62_18, u62_6, u62_7, u62_8, u62_9, u62_10, u62_11, u62_12, u62_13, u62_14, u62_15, u62_16, u62_17, u62_2, u62_3, u62_4, u62_5), rfl, ⟨iv_w iv63 (by decide) (by decide), iv_w iu62_1 (by decide) (by decide), iv_w iu62_9 (by decide) (by decide), trivial⟩, by rw [ht]; exact hP9, va_K.moved hW.alike hK9, hD9⟩, hS.F ht⟩) hS.2.2 dX2_one_140
      refine lv_if_eq (tgt := 85) hx hb dX2_one_73 (by decide) (fun c14 => ?_) (fun c14 => ?_)
      · skip
        subst c14
        refine lv_iconst (v := 0) hx hb dX2_one_85 (by decide) ?_
        refine lv_goto (tgt := 100) hx hb dX2_one_86 (by decide) ?_
        exact j24 0 0 (iv_w (by decide : iv 0 0 0) (by decide) (by decide)) (iv_w (by decide : iv 0 0 0) (by decide) (by decide)) _ _ hK hP hD hS ls (lv_sub hl [0, 1, 3, 4] rfl)
      · skip
        have j64 : iv v5 1 3 := iv_neLo iv5 (by decide : iv 0 0 0) c14 (by decide)
        refine lv_iload hx hb dX2_one_76 (lv_at hl 1 rfl) ?_
        refine lv_iload_n hx hb dX2_one_78 rfl (lv_at hl 2 rfl) ?_
        obtain ⟨hPc, hDc, hFc⟩ := nv_sub3 (wc := []) hP hD hS hA [] (by decide) rfl
        have hKc := hK.sub (tys' := []) [] rfl
        refine va_calli (va_runS (As := [.int v5, .int v3]) (rest := []) ⟨hx, hb, hml, hown, hG⟩ (cX2_isConstant_1 l dC dI H.size v5 v3) (va_cwS 2 hG (gS wd_1020 wd_1021 wd_6 wd_1022) rfl rfl rfl (by decide +kernel) ⟨Nat.le_of_ble_eq_true rfl, Nat.le_of_ble_eq_true rfl⟩) ⟨fun a U g mk q => by obtain ⟨q0, q1, qP, qK, qD⟩ := q; exact ⟨q0, q1, qP, va_K.moved (u := U) (U := U.calling g mk a) (Vm.Alike.refl U.vm) qK, qD⟩, fun U hU hW => ⟨rfl, by rw [hU], by rw [hU]; exact hPc, va_K.moved hW.alike hKc, hDc.weaken (fun _ _ _ _ => trivial)⟩⟩ rfl rfl hl.1 rfl (lv_room (Nat.le_of_ble_eq_true rfl)) dX2_one_79 ⟨by decide, by decide⟩) hS (fun q _ h => hFc q h) hFc (fun r65 u66 t H1 locs ht hvm hw hB hz1 hk1 hS => ?_)
        have hw : iv r65 0 1 ∧ True := hw
        obtain ⟨ir65, -⟩ := hw
        obtain ⟨hP1, hK1, hD1⟩ := hB
        rw [ht] at hP1
        have hK1 := va_K.moved hvm.symm hK1
        obtain ⟨hP, hD⟩ := nv_join (wf := [(h0, .inr (2, [.ref h1, .ref h2, .ref h3, .int x1, .int x2, .int x3, .int u13_0, .int u13_1])), (h1, .inl (y0, 16, .inl u13_2)), (h3, .inr (1, [.ref h4, .ref h5, .ref h6, .ref h7])), (h4, .inl (y1, 32768, .inl f1)), (h7, .inr (9, [.ref h8, .ref h9, .int u13_3, .int x7, .int x8, .int x9])), (h9, .inl (y2, 3, .inl f2)), (h8, .inl (y3, 3, .inl u13_4)), (h6, .inr (5, [.int x10, .int x11, .int x12, .int x13, .int x14, .int x15])), (h5, .inr (7, [.int x16, .int x17, .int x18, .int x19, .int x20]))]) hP hD [] [0, 1, 2, 3, 4, 5, 6, 7, 8] rfl rfl (by decide) (by decide) hk1 hFc hP1 hD1 rfl
        have hK := (hK.sub (tys' := [(y0, .int), (y1, .int), (y2, .int), (y3, .int)]) [0, 1, 2, 3] rfl).app hK1
        generalize H1 = H at hP hS ⊢
        have hK : va_K (dC, dI) vwCl [(y0, .int), (y1, .int), (y2, .int), (y3, .int)] s := hK
        refine lv_if_eq (tgt := 89) hx hb dX2_one_82 (by decide) (fun c67 => ?_) (fun c67 => ?_)
        · skip
          subst c67
          refine lv_iload hx hb dX2_one_89 (lv_at hl 1 rfl) ?_
          refine lv_iconst (v := 1) hx hb dX2_one_91 (by decide) ?_
          refine lv_icmp_ne (tgt := 99) hx hb dX2_one_92 (by decide) (fun c68 => ?_) (fun c68 => ?_)
          · skip
            have j69 : iv v5 2 3 := iv_neLo j64 (by decide : iv 1 1 1) c68 (by decide)
            refine lv_iconst (v := 1) hx hb dX2_one_99 (by decide) ?_
            exact j24 1 v5 (iv_w (by decide : iv 1 1 1) (by decide) (by decide)) (iv_w j69 (by decide) (by decide)) _ _ hK hP hD hS ls (lv_sub hl [0, 1, 3, 4] rfl)
          · skip
            subst c68
            refine lv_iconst (v := 2) hx hb dX2_one_95 (by decide) ?_
            refine lv_goto (tgt := 100) hx hb dX2_one_96 (by decide) ?_
            exact j24 2 1 (iv_w (by decide : iv 2 2 2) (by decide) (by decide)) (iv_w (by decide : iv 1 1 1) (by decide) (by decide)) _ _ hK hP hD hS ls (lv_sub hl [0, 1, 3, 4] rfl)
        · skip
          have j70 : iv r65 1 1 := iv_neLo ir65 (by decide : iv 0 0 0) c67 (by decide)
          refine lv_iconst (v := 0) hx hb dX2_one_85 (by decide) ?_
          refine lv_goto (tgt := 100) hx hb dX2_one_86 (by decide) ?_
          exact j24 0 v5 (iv_w (by decide : iv 0 0 0) (by decide) (by decide)) (iv_w j64 (by decide) (by decide)) _ _ hK hP hD hS ls (lv_sub hl [0, 1, 3, 4] rfl)
    refine lv_if_eq (tgt := 58) hx hb dX2_one_51 (by decide) (fun c8 => ?_) (fun c8 => ?_)
    · skip
      subst c8
      refine lv_iconst (v := 0) hx hb dX2_one_58 (by decide) ?_
      exact j11 0 (iv_w (by decide : iv 0 0 0) (by decide) (by decide)) _ _ hK hP hD hS ls (lv_sub hl [0, 1, 2, 3] rfl)
    · skip
      have j71 : iv v7 1 64 := iv_neLo iv7 (by decide : iv 0 0 0) c8 (by decide)
      refine lv_iconst (v := 1) hx hb dX2_one_54 (by decide) ?_
      refine lv_goto (tgt := 59) hx hb dX2_one_55 (by decide) ?_
      exact j11 1 (iv_w (by decide : iv 1 1 1) (by decide) (by decide)) _ _ hK hP hD hS ls (lv_sub hl [0, 1, 2, 3] rfl)
  · skip
    subst c6
    refine lv_aload_n hx hb dX2_one_26 rfl (lv_at hl 3 rfl) ?_
    refine lv_iconst (v := 2) hx hb dX2_one_27 (by decide) ?_
    refine lv_aload_n hx hb dX2_one_28 rfl (lv_at hl 3 rfl) ?_
    obtain ⟨hPc, hDc, hFc⟩ := nv_sub3 (wc := [(h0, .inr (2, [.ref h1, .ref h2, .ref h3, .int x1, .int x2, .int x3, .int x4, .int x5])), (h1, .inl (y0, 16, .inl f0)), (h3, .inr (1, [.ref h4, .ref h5, .ref h6, .ref h7])), (h4, .inl (y1, 32768, .inl f1)), (h7, .inr (9, [.ref h8, .ref h9, .int x6, .int x7, .int x8, .int x9])), (h9, .inl (y2, 3, .inl f2)), (h8, .inl (y3, 3, .inl f3)), (h6, .inr (5, [.int x10, .int x11, .int x12, .int x13, .int x14, .int x15])), (h5, .inr (7, [.int x16, .int x17, .int x18, .int x19, .int x20]))]) hP hD hS hA [0, 1, 2, 3, 4, 5, 6, 7, 8] (by decide) rfl
    have hKc := hK.sub (tys' := [(y0, .int), (y1, .int), (y2, .int), (y3, .int)]) [0, 1, 2, 3] rfl
    refine va_calli (va_runV (As := []) (rest := [.int 2, .ref h0]) ⟨hx, hb, hml, hown, hG⟩ (cX2_popWord_1 l dC dI h0 h1 h2 h3 h4 h5 h6 h7 h8 h9 y0 y1 y2 y3 s.heap.size x1 x2 x3 x4 x5 x6 x7 x8 x9 x10 x11 x12 x13 x14 x15 x16 x17 x18 x19 x20 f0 f1 f2 f3 ix5 ix9) (cwV 0 hG (gV wd_1077 wd_1079 wp_48 wd_6 wd_1080) rfl rfl rfl (by decide +kernel) ⟨Nat.le_of_ble_eq_true rfl, Nat.le_of_ble_eq_true rfl⟩) ⟨fun a U g mk q => by obtain ⟨q0, q1, qP, qK, qD⟩ := q; exact ⟨q0, q1, qP, va_K.moved (u := U) (U := U.calling g mk a) (Vm.Alike.refl U.vm) qK, qD⟩, va_recv hKc hPc (ci := 2) (q0 := 0) rfl rfl, fun U hU hW => ⟨rfl, by rw [hU], by rw [hU]; exact hPc, va_K.moved hW.alike hKc, hDc.weaken (fun _ _ _ _ => trivial)⟩⟩ rfl rfl hl.1 rfl (lv_room (Nat.le_of_ble_eq_true rfl)) dX2_one_29 ⟨by decide, by decide⟩) hS (fun q _ h => hFc q h) hFc (fun r72 u73 t H1 locs ht hvm hw hB hz1 hk1 hS => ?_)
    obtain ⟨u73_0, u73_1, u73_2⟩ := u73
    obtain ⟨hP1, hK1, hD1⟩ := hB
    rw [ht] at hP1
    have hK1 := va_K.moved hvm.symm hK1
    obtain ⟨hP, hD⟩ := nv_join (wf := [(h0, .inr (2, [.ref h1, .ref h2, .ref h3, .int x1, .int x2, .int x3, .int x4, .int x5])), (h1, .inl (y0, 16, .inl u73_0)), (h3, .inr (1, [.ref h4, .ref h5, .ref h6, .ref h7])), (h4, .inl (y1, 32768, .inl f1)), (h7, .inr (9, [.ref h8, .ref h9, .int u73_1, .int x7, .int x8, .int x9])), (h9, .inl (y2, 3, .inl f2)), (h8, .inl (y3, 3, .inl u73_2)), (h6, .inr (5, [.int x10, .int x11, .int x12, .int x13, .int x14, .int x15])), (h5, .inr (7, [.int x16, .int x17, .int x18, .int x19, .int x20]))]) hP hD [0, 1, 2, 3, 4, 5, 6, 7, 8] [] rfl rfl (by decide) (by decide) hk1 hFc hP1 hD1 rfl
    have hK := (hK.sub (tys' := []) [] rfl).app hK1
    generalize H1 = H at hP hS ⊢
    have hK : va_K (dC, dI) vwCl [(y0, .int), (y1, .int), (y2, .int), (y3, .int)] s := hK
    obtain ⟨hPc, hDc, hFc⟩ := nv_sub3 (wc := [(h0, .inr (2, [.ref h1, .ref h2, .ref h3, .int x1, .int x2, .int x3, .int x4, .int x5])), (h1, .inl (y0, 16, .inl u73_0))]) hP hD hS hA [0, 1] (by decide) rfl
    have hKc := hK.sub (tys' := [(y0, .int)]) [0] rfl
    refine va_callv (va_runV (As := [.int 2, .int r72]) (rest := []) ⟨hx, hb, hml, hown, hG⟩ (cX2_writeRegister_1 l dC dI h0 h1 h2 h3 y0 H.size 2 r72 x1 x2 x3 x4 x5 u73_0 ix5) (cwV 2 hG (gV wd_825 wd_826 wd_827 wd_6 wd_828) rfl rfl rfl (by decide +kernel) ⟨Nat.le_of_ble_eq_true rfl, Nat.le_of_ble_eq_true rfl⟩) ⟨fun a U g mk q => by obtain ⟨q0, q1, qP, qK, qD⟩ := q; exact ⟨q0, q1, qP, va_K.moved (u := U) (U := U.calling g mk a) (Vm.Alike.refl U.vm) qK, qD⟩, va_recv hKc hPc (ci := 2) (q0 := 0) rfl rfl, fun U hU hW => ⟨rfl, by rw [hU], by rw [hU]; exact hPc, va_K.moved hW.alike hKc, hDc.weaken (fun _ _ _ _ => trivial)⟩⟩ rfl rfl hl.1 rfl (lv_room (Nat.le_of_ble_eq_true rfl)) dX2_one_32 ⟨by decide, by decide⟩) hS (fun q _ h => hFc q h) hFc (fun u75 t H1 locs ht hvm hw hB hz1 hk1 hS => ?_)
    obtain ⟨u75_0, rfl⟩ : ∃ z, z = u75 := ⟨_, rfl⟩
    obtain ⟨hP1, hK1, hD1⟩ := hB
    rw [ht] at hP1
    have hK1 := va_K.moved hvm.symm hK1
    obtain ⟨hP, hD⟩ := nv_join (wf := [(h3, .inr (1, [.ref h4, .ref h5, .ref h6, .ref h7])), (h4, .inl (y1, 32768, .inl f1)), (h7, .inr (9, [.ref h8, .ref h9, .int u73_1, .int x7, .int x8, .int x9])), (h9, .inl (y2, 3, .inl f2)), (h8, .inl (y3, 3, .inl u73_2)), (h6, .inr (5, [.int x10, .int x11, .int x12, .int x13, .int x14, .int x15])), (h5, .inr (7, [.int x16, .int x17, .int x18, .int x19, .int x20])), (h0, .inr (2, [.ref h1, .ref h2, .ref h3, .int x1, .int x2, .int x3, .int x4, .int x5])), (h1, .inl (y0, 16, .inl u75_0))]) hP hD [0, 1] [2, 3, 4, 5, 6, 7, 8] rfl rfl (by decide) (by decide) hk1 hFc hP1 hD1 rfl
    have hK := (hK.sub (tys' := [(y1, .int), (y2, .int), (y3, .int)]) [1, 2, 3] rfl).app hK1
    generalize H1 = H at hP hS ⊢
    have hK : va_K (dC, dI) vwCl [(y1, .int), (y2, .int), (y3, .int), (y0, .int)] s := hK
    refine lv_aload_n hx hb dX2_one_35 rfl (lv_at hl 3 rfl) ?_
    refine lv_iconst (v := 0) hx hb dX2_one_36 (by decide) ?_
    refine lv_aload_n hx hb dX2_one_37 rfl (lv_at hl 3 rfl) ?_
    obtain ⟨hPc, hDc, hFc⟩ := nv_sub3 (wc := [(h0, .inr (2, [.ref h1, .ref h2, .ref h3, .int x1, .int x2, .int x3, .int x4, .int x5])), (h1, .inl (y0, 16, .inl u75_0)), (h3, .inr (1, [.ref h4, .ref h5, .ref h6, .ref h7])), (h4, .inl (y1, 32768, .inl f1)), (h7, .inr (9, [.ref h8, .ref h9, .int u73_1, .int x7, .int x8, .int x9])), (h9, .inl (y2, 3, .inl f2)), (h8, .inl (y3, 3, .inl u73_2)), (h6, .inr (5, [.int x10, .int x11, .int x12, .int x13, .int x14, .int x15])), (h5, .inr (7, [.int x16, .int x17, .int x18, .int x19, .int x20]))]) hP hD hS hA [7, 8, 0, 1, 2, 3, 4, 5, 6] (by decide) rfl
    have hKc := hK.sub (tys' := [(y0, .int), (y1, .int), (y2, .int), (y3, .int)]) [3, 0, 1, 2] rfl
    refine va_calli (va_runV (As := []) (rest := [.int 0, .ref h0]) ⟨hx, hb, hml, hown, hG⟩ (cX2_popWord_1 l dC dI h0 h1 h2 h3 h4 h5 h6 h7 h8 h9 y0 y1 y2 y3 H.size x1 x2 x3 x4 x5 u73_1 x7 x8 x9 x10 x11 x12 x13 x14 x15 x16 x17 x18 x19 x20 u75_0 f1 f2 u73_2 ix5 ix9) (cwV 0 hG (gV wd_1077 wd_1079 wp_48 wd_6 wd_1080) rfl rfl rfl (by decide +kernel) ⟨Nat.le_of_ble_eq_true rfl, Nat.le_of_ble_eq_true rfl⟩) ⟨fun a U g mk q => by obtain ⟨q0, q1, qP, qK, qD⟩ := q; exact ⟨q0, q1, qP, va_K.moved (u := U) (U := U.calling g mk a) (Vm.Alike.refl U.vm) qK, qD⟩, va_recv hKc hPc (ci := 2) (q0 := 0) rfl rfl, fun U hU hW => ⟨rfl, by rw [hU], by rw [hU]; exact hPc, va_K.moved hW.alike hKc, hDc.weaken (fun _ _ _ _ => trivial)⟩⟩ rfl rfl hl.1 rfl (lv_room (Nat.le_of_ble_eq_true rfl)) dX2_one_38 ⟨by decide, by decide⟩) hS (fun q _ h => hFc q h) hFc (fun r76 u77 t H1 locs ht hvm hw hB hz1 hk1 hS => ?_)
    obtain ⟨u77_0, u77_1, u77_2⟩ := u77
    obtain ⟨hP1, hK1, hD1⟩ := hB
    rw [ht] at hP1
    have hK1 := va_K.moved hvm.symm hK1
    obtain ⟨hP, hD⟩ := nv_join (wf := [(h0, .inr (2, [.ref h1, .ref h2, .ref h3, .int x1, .int x2, .int x3, .int x4, .int x5])), (h1, .inl (y0, 16, .inl u77_0)), (h3, .inr (1, [.ref h4, .ref h5, .ref h6, .ref h7])), (h4, .inl (y1, 32768, .inl f1)), (h7, .inr (9, [.ref h8, .ref h9, .int u77_1, .int x7, .int x8, .int x9])), (h9, .inl (y2, 3, .inl f2)), (h8, .inl (y3, 3, .inl u77_2)), (h6, .inr (5, [.int x10, .int x11, .int x12, .int x13, .int x14, .int x15])), (h5, .inr (7, [.int x16, .int x17, .int x18, .int x19, .int x20]))]) hP hD [7, 8, 0, 1, 2, 3, 4, 5, 6] [] rfl rfl (by decide) (by decide) hk1 hFc hP1 hD1 rfl
    have hK := (hK.sub (tys' := []) [] rfl).app hK1
    generalize H1 = H at hP hS ⊢
    have hK : va_K (dC, dI) vwCl [(y0, .int), (y1, .int), (y2, .int), (y3, .int)] s := hK
    obtain ⟨hPc, hDc, hFc⟩ := nv_sub3 (wc := [(h0, .inr (2, [.ref h1, .ref h2, .ref h3, .int x1, .int x2, .int x3, .int x4, .int x5])), (h1, .inl (y0, 16, .inl u77_0))]) hP hD hS hA [0, 1] (by decide) rfl
    have hKc := hK.sub (tys' := [(y0, .int)]) [0] rfl
    refine va_callv (va_runV (As := [.int 0, .int r76]) (rest := []) ⟨hx, hb, hml, hown, hG⟩ (cX2_writeRegister_1 l dC dI h0 h1 h2 h3 y0 H.size 0 r76 x1 x2 x3 x4 x5 u77_0 ix5) (cwV 2 hG (gV wd_825 wd_826 wd_827 wd_6 wd_828) rfl rfl rfl (by decide +kernel) ⟨Nat.le_of_ble_eq_true rfl, Nat.le_of_ble_eq_true rfl⟩) ⟨fun a U g mk q => by obtain ⟨q0, q1, qP, qK, qD⟩ := q; exact ⟨q0, q1, qP, va_K.moved (u := U) (U := U.calling g mk a) (Vm.Alike.refl U.vm) qK, qD⟩, va_recv hKc hPc (ci := 2) (q0 := 0) rfl rfl, fun U hU hW => ⟨rfl, by rw [hU], by rw [hU]; exact hPc, va_K.moved hW.alike hKc, hDc.weaken (fun _ _ _ _ => trivial)⟩⟩ rfl rfl hl.1 rfl (lv_room (Nat.le_of_ble_eq_true rfl)) dX2_one_41 ⟨by decide, by decide⟩) hS (fun q _ h => hFc q h) hFc (fun u79 t H1 locs ht hvm hw hB hz1 hk1 hS => ?_)
    obtain ⟨u79_0, rfl⟩ : ∃ z, z = u79 := ⟨_, rfl⟩
    obtain ⟨hP1, hK1, hD1⟩ := hB
    rw [ht] at hP1
    have hK1 := va_K.moved hvm.symm hK1
    obtain ⟨hP, hD⟩ := nv_join (wf := [(h3, .inr (1, [.ref h4, .ref h5, .ref h6, .ref h7])), (h4, .inl (y1, 32768, .inl f1)), (h7, .inr (9, [.ref h8, .ref h9, .int u77_1, .int x7, .int x8, .int x9])), (h9, .inl (y2, 3, .inl f2)), (h8, .inl (y3, 3, .inl u77_2)), (h6, .inr (5, [.int x10, .int x11, .int x12, .int x13, .int x14, .int x15])), (h5, .inr (7, [.int x16, .int x17, .int x18, .int x19, .int x20])), (h0, .inr (2, [.ref h1, .ref h2, .ref h3, .int x1, .int x2, .int x3, .int x4, .int x5])), (h1, .inl (y0, 16, .inl u79_0))]) hP hD [0, 1] [2, 3, 4, 5, 6, 7, 8] rfl rfl (by decide) (by decide) hk1 hFc hP1 hD1 rfl
    have hK := (hK.sub (tys' := [(y1, .int), (y2, .int), (y3, .int)]) [1, 2, 3] rfl).app hK1
    generalize H1 = H at hP hS ⊢
    have hK : va_K (dC, dI) vwCl [(y1, .int), (y2, .int), (y3, .int), (y0, .int)] s := hK
    refine lv_iconst (v := 5) hx hb dX2_one_44 (by decide) ?_
    rw [hQ]
    obtain ⟨hP9, hD9⟩ := nv_sub2 (wc := [(h0, .inr (2, [.ref h1, .ref h2, .ref h3, .int x1, .int x2, .int x3, .int x4, .int x5])), (h1, .inl (y0, 16, .inl u79_0)), (h3, .inr (1, [.ref h4, .ref h5, .ref h6, .ref h7])), (h4, .inl (y1, 32768, .inl f1)), (h7, .inr (9, [.ref h8, .ref h9, .int u77_1, .int x7, .int x8, .int x9])), (h9, .inl (y2, 3, .inl f2)), (h8, .inl (y3, 3, .inl u77_2)), (h6, .inr (5, [.int x10, .int x11, .int x12, .int x13, .int x14, .int x15])), (h5, .inr (7, [.int x16, .int x17, .int x18, .int x19, .int x20]))]) hP hD [7, 8, 0, 1, 2, 3, 4, 5, 6] (by decide) rfl
    have hK9 := hK.sub (tys' := [(y0, .int), (y1, .int), (y2, .int), (y3, .int)]) [3, 0, 1, 2] rfl
    exact W.iret (v := 5) hx hb hr (fun t ht hW => ⟨⟨5, (x4, x5, u79_0, f1, u77_1, x7, x8, x9, f2, u77_2, x10, x11, x12, x13, x14, x15, x17, x18, x19, x20), rfl, ⟨iv_w (by decide : iv 5 5 5) (by decide) (by decide), iv_w ix5 (by decide) (by decide), iv_w ix9 (by decide) (by decide), trivial⟩, by rw [ht]; exact hP9, va_K.moved hW.alike hK9, hD9⟩, hS.F ht⟩) hS.2.2 dX2_one_45
set_option maxHeartbeats 100000000 in
set_option maxRecDepth 100000 in
theorem cX2_jump_1 (l : Launch) (dC : Nat → ClassId) (dI : Nat → Nat → Nat) (h0 h1 h2 h3 : Nat) (y0 : ClassId) (sz : Nat) (x0 x1 x2 x3 x4 x5 : Int32) (f0 : Nat → Int32) (ix5 : iv x5 0 1) : Met l yX2_jump (Cond.code yX2_jump cX2_jump 6 (some .int) :: lw_G) ({ frames := 1, cells := 0, slots := 0, locals := 22 }) (va_Pc [.ref h0, .int x0] (fun U => U.heap.size = sz ∧ va_P (dC, dI) vwCl [(h0, .inr (2, [.ref h1, .ref h2, .ref h3, .int x1, .int x2, .int x3, .int x4, .int x5])), (h1, .inl (y0, 16, .inl f0))] U.heap ∧ va_K (dC, dI) vwCl [(y0, .int)] U ∧ va_D (fun _ => True) [(h0, .inr (2, [.ref h1, .ref h2, .ref h3, .int x1, .int x2, .int x3, .int x4, .int x5])), (h1, .inl (y0, 16, .inl f0))])) (va_Qi (fun (r : Int32) (u : (Nat → Int32)) => r = 2 ∧ True) (fun (u : (Nat → Int32)) (t : State) => va_P (dC, dI) vwCl [(h0, .inr (2, [.ref h1, .ref h2, .ref h3, .int x1, .int x2, .int x3, .int x4, .int x5])), (h1, .inl (y0, 16, .inl u))] t.heap ∧ va_K (dC, dI) vwCl [(y0, .int)] t ∧ va_D (va_A [(h0, .inr (2, [.ref h1, .ref h2, .ref h3, .int x1, .int x2, .int x3, .int x4, .int x5])), (h1, .inl (y0, 16, .inl f0))] sz) [(h0, .inr (2, [.ref h1, .ref h2, .ref h3, .int x1, .int x2, .int x3, .int x4, .int x5])), (h1, .inl (y0, 16, .inl u))]) (va_A [(h0, .inr (2, [.ref h1, .ref h2, .ref h3, .int x1, .int x2, .int x3, .int x4, .int x5])), (h1, .inl (y0, 16, .inl f0))] sz)) 0 0 (va_A [(h0, .inr (2, [.ref h1, .ref h2, .ref h3, .int x1, .int x2, .int x3, .int x4, .int x5])), (h1, .inl (y0, 16, .inl f0))] sz) := by
  refine Met.ofW (cc := cX2_jump) (maxL := 6) (ret := (some .int)) (by decide) rfl ?_
  intro p e s m args below meth c s₁ B hml hv
  obtain ⟨rfl, hsz, hP, hK, hD0⟩ := hv
  have hx := B.exec
  have hb := B.bytes
  have hr := B.returns
  have hts0 := atoms_spec (ws := Cond.code yX2_jump cX2_jump 6 (some .int) :: lw_G) B.pre
  have hG : ∀ w ∈ lw_G, w.before _ s = true := fun w h => hts0 w (List.mem_cons_of_mem _ h)
  have hown : s.vm.findClass RX2 = some m.cls := findClass_of_methodNamed B.named
  have hlocks := B.notSynchronized
  subst hsz
  have hD := hD0.self (sz := s.heap.size)
  generalize hAe : va_A [(h0, .inr (2, [.ref h1, .ref h2, .ref h3, .int x1, .int x2, .int x3, .int x4, .int x5])), (h1, .inl (y0, 16, .inl f0))] s.heap.size = A at hD ⊢
  have hA : ∀ q : Nat, s.heap.size ≤ q → A q := fun q h => by rw [← hAe]; exact Or.inr h
  have hS : va_S A s.heap s.heap [] := va_S.rf
  have hP : va_P (dC, dI) vwCl [(h0, .inr (2, [.ref h1, .ref h2, .ref h3, .int x1, .int x2, .int x3, .int x4, .int x5])), (h1, .inl (y0, 16, .inl f0))] s.heap := hP
  have hl := lv_entry ([.ref h0, .int x0]) (n := 6) (Nat.le_of_ble_eq_true rfl)
  rw [lg_entry_eq]
  generalize (lg_sl ([.ref h0, .int x0]) ++ List.replicate (6 - (lg_sl ([.ref h0, .int x0])).length) Slot.unset).toArray = ls at hl ⊢
  have hl : lv_has ls 6 [(0, .ref h0), (1, .int x0)] := hl
  generalize ([.ref h0, .int x0] : List Value).toArray = ar at hG ⊢
  refine wq (fun Q hQ => ?_)
  refine lv_aload_n hx hb dX2_jump_0 rfl (lv_at hl 0 rfl) ?_
  refine va_get (D := (dC, dI)) (ci := 2) (v := .ref h1) (C := RX2) (T := TX2) (N := 8) hx hb hG inGX2 hown hK hP 0 rfl rfl 0 (by decide) (hG _ wd_149) (fun _ h9 => h9) rfl dX2_jump_1 ?_
  refine lv_iconst (v := 2) hx hb dX2_jump_4 (by decide) ?_
  refine va_iald hx hb hK hP 1 0 rfl rfl (iv_in (by decide : iv 2 2 2) (by decide) (by decide) : vp_in 2 16) dX2_jump_5 ?_
  refine lv_topi (fun v1 ev1 => ?_)
  refine lv_istore_n (lv' := [(2, .int v1), (0, .ref h0), (1, .int x0)]) hx hb dX2_jump_6 rfl hl (by decide) rfl (fun ls hl => ?_)
  refine lv_iload_n hx hb dX2_jump_7 rfl (lv_at hl 0 rfl) ?_
  refine lv_iconst (v := 4) hx hb dX2_jump_8 (by decide) ?_
  refine lv_iand hx hb dX2_jump_9 ?_
  refine lv_topi (fun v2 ev2 => ?_)
  have iv2 : iv v2 0 4 := iv_eq ev2 (iv_and (x := v1) (iv_w (by decide : iv 4 4 4) (by decide) (by decide) : iv 4 0 4))
  refine jcut (a := ∀ (b5 : Int32) (ib5 : iv b5 0 1) (H : Heap) (locs : List Loc) (hK : va_K (dC, dI) vwCl [(y0, .int)] s) (hP : va_P (dC, dI) vwCl [(h0, .inr (2, [.ref h1, .ref h2, .ref h3, .int x1, .int x2, .int x3, .int x4, .int x5])), (h1, .inl (y0, 16, .inl f0))] H) (hD : va_D A [(h0, .inr (2, [.ref h1, .ref h2, .ref h3, .int x1, .int x2, .int x3, .int x4, .int x5])), (h1, .inl (y0, 16, .inl f0))]) (hS : va_S A s.heap H locs) (ls : Array Slot) (hl : lv_has ls 6 [(2, .int v1), (0, .ref h0), (1, .int x0)]), W p l e (headSpec (Cond.code yX2_jump cX2_jump 6 (some .int) :: lw_G) ({ frames := 1, cells := 0, slots := 0, locals := 22 })).room s m ar below meth c H locs 0 0 Q (F0 m 18 ls [.int b5])) ?_ (fun j6 => ?_)
  · skip
    intro b5 ib5 H locs hK hP hD hS ls hl
    refine lv_iload_n hx hb dX2_jump_18 rfl (lv_at hl 0 rfl) ?_
    refine lv_sipush (v := 256) hx hb dX2_jump_19 (by decide) ?_
    refine lv_iand hx hb dX2_jump_22 ?_
    refine lv_topi (fun v7 ev7 => ?_)
    have iv7 : iv v7 0 256 := iv_eq ev7 (iv_and (x := v1) (iv_w (by decide : iv 256 256 256) (by decide) (by decide) : iv 256 0 256))
    refine jcut (a := ∀ (b10 : Int32) (ib10 : iv b10 0 1) (H : Heap) (locs : List Loc) (hK : va_K (dC, dI) vwCl [(y0, .int)] s) (hP : va_P (dC, dI) vwCl [(h0, .inr (2, [.ref h1, .ref h2, .ref h3, .int x1, .int x2, .int x3, .int x4, .int x5])), (h1, .inl (y0, 16, .inl f0))] H) (hD : va_D A [(h0, .inr (2, [.ref h1, .ref h2, .ref h3, .int x1, .int x2, .int x3, .int x4, .int x5])), (h1, .inl (y0, 16, .inl f0))]) (hS : va_S A s.heap H locs) (ls : Array Slot) (hl : lv_has ls 6 [(2, .int v1), (0, .ref h0), (1, .int x0)]), W p l e (headSpec (Cond.code yX2_jump cX2_jump 6 (some .int) :: lw_G) ({ frames := 1, cells := 0, slots := 0, locals := 22 })).room s m ar below meth c H locs 0 0 Q (F0 m 31 ls [.int b10, .int b5])) ?_ (fun j11 => ?_)
    · skip
      intro b10 ib10 H locs hK hP hD hS ls hl
      refine jcut (a := ∀ (b13 : Int32) (ib13 : iv b13 0 1) (H : Heap) (locs : List Loc) (hK : va_K (dC, dI) vwCl [(y0, .int)] s) (hP : va_P (dC, dI) vwCl [(h0, .inr (2, [.ref h1, .ref h2, .ref h3, .int x1, .int x2, .int x3, .int x4, .int x5])), (h1, .inl (y0, 16, .inl f0))] H) (hD : va_D A [(h0, .inr (2, [.ref h1, .ref h2, .ref h3, .int x1, .int x2, .int x3, .int x4, .int x5])), (h1, .inl (y0, 16, .inl f0))]) (hS : va_S A s.heap H locs) (ls : Array Slot) (hl : lv_has ls 6 [(2, .int v1), (0, .ref h0), (1, .int x0)]), W p l e (headSpec (Cond.code yX2_jump cX2_jump 6 (some .int) :: lw_G) ({ frames := 1, cells := 0, slots := 0, locals := 22 })).room s m ar below meth c H locs 0 0 Q (F0 m 39 ls [.int b13])) ?_ (fun j14 => ?_)
      · skip
        intro b13 ib13 H locs hK hP hD hS ls hl
        refine lv_istore_n (lv' := [(3, .int b13), (2, .int v1), (0, .ref h0), (1, .int x0)]) hx hb dX2_jump_39 rfl hl (by decide) rfl (fun ls hl => ?_)
        refine lv_iload_n hx hb dX2_jump_40 rfl (lv_at hl 3 rfl) ?_
        refine lv_bipush (v := 10) hx hb dX2_jump_41 (by decide) ?_
        refine lv_ishr hx hb dX2_jump_43 ?_
        refine lv_topi (fun v15 ev15 => ?_)
        have iv15 : iv v15 (-2097152) 2097151 := iv_eq ev15 (iv_shr 10 (by decide) (iv_any x0) (by decide) (by decide))
        refine lv_bipush (v := 7) hx hb dX2_jump_44 (by decide) ?_
        refine lv_iand hx hb dX2_jump_46 ?_
        refine lv_topi (fun v16 ev16 => ?_)
        have iv16 : iv v16 0 7 := iv_eq ev16 (iv_and (x := v15) (iv_w (by decide : iv 7 7 7) (by decide) (by decide) : iv 7 0 7))
        refine jcut (a := ∀ (b41 : Int32) (ib41 : iv b41 0 1) (H : Heap) (locs : List Loc) (hK : va_K (dC, dI) vwCl [(y0, .int)] s) (hP : va_P (dC, dI) vwCl [(h0, .inr (2, [.ref h1, .ref h2, .ref h3, .int x1, .int x2, .int x3, .int x4, .int x5])), (h1, .inl (y0, 16, .inl f0))] H) (hD : va_D A [(h0, .inr (2, [.ref h1, .ref h2, .ref h3, .int x1, .int x2, .int x3, .int x4, .int x5])), (h1, .inl (y0, 16, .inl f0))]) (hS : va_S A s.heap H locs) (ls : Array Slot) (hl : lv_has ls 6 [(4, .int b41), (0, .ref h0), (1, .int x0)]), W p l e (headSpec (Cond.code yX2_jump cX2_jump 6 (some .int) :: lw_G) ({ frames := 1, cells := 0, slots := 0, locals := 22 })).room s m ar below meth c H locs 0 0 Q (F0 m 191 ls [])) ?_ (fun j42 => ?_)
        · skip
          intro b41 ib41 H locs hK hP hD hS ls hl
          refine lv_iload hx hb dX2_jump_191 (lv_at hl 0 rfl) ?_
          refine jcut (a := ∀ (b57 : Nat → Int32) (H : Heap) (locs : List Loc) (hK : va_K (dC, dI) vwCl [(y0, .int)] s) (hP : va_P (dC, dI) vwCl [(h0, .inr (2, [.ref h1, .ref h2, .ref h3, .int x1, .int x2, .int x3, .int x4, .int x5])), (h1, .inl (y0, 16, .inl b57))] H) (hD : va_D A [(h0, .inr (2, [.ref h1, .ref h2, .ref h3, .int x1, .int x2, .int x3, .int x4, .int x5])), (h1, .inl (y0, 16, .inl b57))]) (hS : va_S A s.heap H locs) (ls : Array Slot) (hl : lv_has ls 6 []), W p l e (headSpec (Cond.code yX2_jump cX2_jump 6 (some .int) :: lw_G) ({ frames := 1, cells := 0, slots := 0, locals := 22 })).room s m ar below meth c H locs 0 0 Q (F0 m 239 ls [])) ?_ (fun j58 => ?_)
          · skip
            intro b57 H locs hK hP hD hS ls hl
            refine lv_iconst (v := 2) hx hb dX2_jump_239 (by decide) ?_
            rw [hQ]
            obtain ⟨hP9, hD9⟩ := nv_sub2 (wc := [(h0, .inr (2, [.ref h1, .ref h2, .ref h3, .int x1, .int x2, .int x3, .int x4, .int x5])), (h1, .inl (y0, 16, .inl b57))]) hP hD [0, 1] (by decide) rfl
            have hK9 := hK.sub (tys' := [(y0, .int)]) [0] rfl
            exact W.iret (v := 2) hx hb hr (fun t ht hW => ⟨⟨2, b57, rfl, ⟨rfl, trivial⟩, by rw [ht]; exact hP9, va_K.moved hW.alike hK9, hD9⟩, hS.F ht⟩) hS.2.2 dX2_jump_240
          refine lv_if_eq (tgt := 239) hx hb dX2_jump_193 (by decide) (fun c43 => ?_) (fun c43 => ?_)
          · skip
            subst c43
            exact j58 f0 _ _ hK hP hD hS ls (lv_sub hl [] rfl)
          · skip
            have j59 : iv b41 1 1 := iv_neLo ib41 (by decide : iv 0 0 0) c43 (by decide)
            refine lv_iload_n hx hb dX2_jump_196 rfl (lv_at hl 2 rfl) ?_
            refine lv_sipush (v := 512) hx hb dX2_jump_197 (by decide) ?_
            refine lv_iand hx hb dX2_jump_200 ?_
            refine lv_topi (fun v60 ev60 => ?_)
            have iv60 : iv v60 0 512 := iv_eq ev60 (iv_and (x := x0) (iv_w (by decide : iv 512 512 512) (by decide) (by decide) : iv 512 0 512))
            refine jcut (a := ∀ (b66 : Int32) (ib66 : iv b66 (-1024) 1023) (H : Heap) (locs : List Loc) (hK : va_K (dC, dI) vwCl [(y0, .int)] s) (hP : va_P (dC, dI) vwCl [(h0, .inr (2, [.ref h1, .ref h2, .ref h3, .int x1, .int x2, .int x3, .int x4, .int x5])), (h1, .inl (y0, 16, .inl f0))] H) (hD : va_D A [(h0, .inr (2, [.ref h1, .ref h2, .ref h3, .int x1, .int x2, .int x3, .int x4, .int x5])), (h1, .inl (y0, 16, .inl f0))]) (hS : va_S A s.heap H locs) (ls : Array Slot) (hl : lv_has ls 6 [(0, .ref h0)]), W p l e (headSpec (Cond.code yX2_jump cX2_jump 6 (some .int) :: lw_G) ({ frames := 1, cells := 0, slots := 0, locals := 22 })).room s m ar below meth c H locs 0 0 Q (F0 m 221 ls [.int b66])) ?_ (fun j67 => ?_)
            · skip
              intro b66 ib66 H locs hK hP hD hS ls hl
              refine lv_istore (lv' := [(5, .int b66), (0, .ref h0)]) hx hb dX2_jump_221 hl (by decide) rfl (fun ls hl => ?_)
              refine lv_aload_n hx hb dX2_jump_223 rfl (lv_at hl 1 rfl) ?_
              refine lv_iconst (v := 0) hx hb dX2_jump_224 (by decide) ?_
              refine lv_aload_n hx hb dX2_jump_225 rfl (lv_at hl 1 rfl) ?_
              refine va_get (D := (dC, dI)) (ci := 2) (v := .ref h1) (C := RX2) (T := TX2) (N := 8) hx hb hG inGX2 hown hK hP 0 rfl rfl 0 (by decide) (hG _ wd_149) (fun _ h9 => h9) rfl dX2_jump_226 ?_
              refine lv_iconst (v := 0) hx hb dX2_jump_229 (by decide) ?_
              refine va_iald hx hb hK hP 1 0 rfl rfl (iv_in (by decide : iv 0 0 0) (by decide) (by decide) : vp_in 0 16) dX2_jump_230 ?_
              refine lv_topi (fun v68 ev68 => ?_)
              refine lv_iconst (v := 2) hx hb dX2_jump_231 (by decide) ?_
              refine lv_iload hx hb dX2_jump_232 (lv_at hl 0 rfl) ?_
              refine lv_imul hx hb dX2_jump_234 ?_
              refine lv_topi (fun v69 ev69 => ?_)
              refine lv_iadd hx hb dX2_jump_235 ?_
              refine lv_topi (fun v70 ev70 => ?_)
              obtain ⟨hPc, hDc, hFc⟩ := nv_sub3 (wc := [(h0, .inr (2, [.ref h1, .ref h2, .ref h3, .int x1, .int x2, .int x3, .int x4, .int x5])), (h1, .inl (y0, 16, .inl f0))]) hP hD hS hA [0, 1] (by decide) rfl
              have hKc := hK.sub (tys' := [(y0, .int)]) [0] rfl
              refine va_callv (va_runV (As := [.int 0, .int v70]) (rest := []) ⟨hx, hb, hml, hown, hG⟩ (cX2_writeRegister_1 l dC dI h0 h1 h2 h3 y0 H.size 0 v70 x1 x2 x3 x4 x5 f0 ix5) (cwV 2 hG (gV wd_825 wd_826 wd_827 wd_6 wd_828) rfl rfl rfl (by decide +kernel) ⟨Nat.le_of_ble_eq_true rfl, Nat.le_of_ble_eq_true rfl⟩) ⟨fun a U g mk q => by obtain ⟨q0, q1, qP, qK, qD⟩ := q; exact ⟨q0, q1, qP, va_K.moved (u := U) (U := U.calling g mk a) (Vm.Alike.refl U.vm) qK, qD⟩, va_recv hKc hPc (ci := 2) (q0 := 0) rfl rfl, fun U hU hW => ⟨rfl, by rw [hU], by rw [hU]; exact hPc, va_K.moved hW.alike hKc, hDc.weaken (fun _ _ _ _ => trivial)⟩⟩ rfl rfl hl.1 rfl (lv_room (Nat.le_of_ble_eq_true rfl)) dX2_jump_236 ⟨by decide, by decide⟩) hS (fun q _ h => hFc q h) hFc (fun u72 t H1 locs ht hvm hw hB hz1 hk1 hS => ?_)
              obtain ⟨u72_0, rfl⟩ : ∃ z, z = u72 := ⟨_, rfl⟩
              obtain ⟨hP1, hK1, hD1⟩ := hB
              rw [ht] at hP1
              have hK1 := va_K.moved hvm.symm hK1
              obtain ⟨hP, hD⟩ := nv_join (wf := [(h0, .inr (2, [.ref h1, .ref h2, .ref h3, .int x1, .int x2, .int x3, .int x4, .int x5])), (h1, .inl (y0, 16, .inl u72_0))]) hP hD [0, 1] [] rfl rfl (by decide) (by decide) hk1 hFc hP1 hD1 rfl
              have hK := (hK.sub (tys' := []) [] rfl).app hK1
              generalize H1 = H at hP hS ⊢
              have hK : va_K (dC, dI) vwCl [(y0, .int)] s := hK
              exact j58 u72_0 _ _ hK hP hD hS ls (lv_sub hl [] rfl)
            refine lv_if_eq (tgt := 216) hx hb dX2_jump_201 (by decide) (fun c61 => ?_) (fun c61 => ?_)
            · skip
              subst c61
              refine lv_iload_n hx hb dX2_jump_216 rfl (lv_at hl 2 rfl) ?_
              refine lv_sipush (v := 1023) hx hb dX2_jump_217 (by decide) ?_
              refine lv_iand hx hb dX2_jump_220 ?_
              refine lv_topi (fun v73 ev73 => ?_)
              have iv73 : iv v73 0 1023 := iv_eq ev73 (iv_and (x := x0) (iv_w (by decide : iv 1023 1023 1023) (by decide) (by decide) : iv 1023 0 1023))
              exact j67 v73 (iv_w iv73 (by decide) (by decide)) _ _ hK hP hD hS ls (lv_sub hl [1] rfl)
            · skip
              have j74 : iv v60 1 512 := iv_neLo iv60 (by decide : iv 0 0 0) c61 (by decide)
              refine lv_iload_n hx hb dX2_jump_204 rfl (lv_at hl 2 rfl) ?_
              refine lv_sipush (v := 1023) hx hb dX2_jump_205 (by decide) ?_
              refine lv_iand hx hb dX2_jump_208 ?_
              refine lv_topi (fun v75 ev75 => ?_)
              have iv75 : iv v75 0 1023 := iv_eq ev75 (iv_and (x := x0) (iv_w (by decide : iv 1023 1023 1023) (by decide) (by decide) : iv 1023 0 1023))
              refine lv_sipush (v := 1024) hx hb dX2_jump_209 (by decide) ?_
              refine lv_isub hx hb dX2_jump_212 ?_
              refine lv_topi (fun v76 ev76 => ?_)
              have iv76 : iv v76 (-1024) (-1) := iv_eq ev76 (iv_sub iv75 (by decide : iv 1024 1024 1024) (by decide) (by decide))
              have tv76 : v76.toInt = v75.toInt + (-1024) := iv_subT ev76 iv75 (by decide) (by decide) (by decide)
              refine lv_goto (tgt := 221) hx hb dX2_jump_213 (by decide) ?_
              exact j67 v76 (iv_w iv76 (by decide) (by decide)) _ _ hK hP hD hS ls (lv_sub hl [1] rfl)
        have s17x : (v16.toInt < 0 ∨ 6 < v16.toInt) ∨ v16 = 0 ∨ v16 = 1 ∨ v16 = 2 ∨ v16 = 3 ∨ v16 = 4 ∨ v16 = 5 ∨ v16 = 6 := by
          have h1 := iv16
          have : (v16.toInt < 0 ∨ 6 < v16.toInt) ∨ v16.toInt = 0 ∨ v16.toInt = 1 ∨ v16.toInt = 2 ∨ v16.toInt = 3 ∨ v16.toInt = 4 ∨ v16.toInt = 5 ∨ v16.toInt = 6 := by omega
          rcases this with q | q | q | q | q | q | q | q
          · exact Or.inl q
          · exact Or.inr (Or.inl (Int32.toInt_inj.mp q))
          · exact Or.inr (Or.inr (Or.inl (Int32.toInt_inj.mp q)))
          · exact Or.inr (Or.inr (Or.inr (Or.inl (Int32.toInt_inj.mp q))))
          · exact Or.inr (Or.inr (Or.inr (Or.inr (Or.inl (Int32.toInt_inj.mp q)))))
          · exact Or.inr (Or.inr (Or.inr (Or.inr (Or.inr (Or.inl (Int32.toInt_inj.mp q))))))
          · exact Or.inr (Or.inr (Or.inr (Or.inr (Or.inr (Or.inr (Or.inl (Int32.toInt_inj.mp q)))))))
          · exact Or.inr (Or.inr (Or.inr (Or.inr (Or.inr (Or.inr (Or.inr ((Int32.toInt_inj.mp q))))))))
        rcases s17x with s17 | rfl | rfl | rfl | rfl | rfl | rfl | rfl
        · skip
          refine lv_tableOut (tgt := 188) hx hb dX2_jump_47 s17 (by decide) ?_
          refine lv_iconst (v := 1) hx hb dX2_jump_188 (by decide) ?_
          refine lv_istore (lv' := [(4, .int 1), (3, .int b13), (2, .int v1), (0, .ref h0), (1, .int x0)]) hx hb dX2_jump_189 hl (by decide) rfl (fun ls hl => ?_)
          exact j42 1 (iv_w (by decide : iv 1 1 1) (by decide) (by decide)) _ _ hK hP hD hS ls (lv_sub hl [0, 3, 4] rfl)
        · skip
          refine lv_tableIn (off := 41) (tgt := 88) hx hb dX2_jump_47 (by decide) (by decide) (by decide) (by decide) ?_
          refine lv_iload_n hx hb dX2_jump_88 rfl (lv_at hl 1 rfl) ?_
          refine lv_iconst (v := 2) hx hb dX2_jump_89 (by decide) ?_
          refine lv_iand hx hb dX2_jump_90 ?_
          refine lv_topi (fun v77 ev77 => ?_)
          have iv77 : iv v77 0 2 := iv_eq ev77 (iv_and (x := v1) (iv_w (by decide : iv 2 2 2) (by decide) (by decide) : iv 2 0 2))
          refine jcut (a := ∀ (b80 : Int32) (ib80 : iv b80 0 1) (H : Heap) (locs : List Loc) (hK : va_K (dC, dI) vwCl [(y0, .int)] s) (hP : va_P (dC, dI) vwCl [(h0, .inr (2, [.ref h1, .ref h2, .ref h3, .int x1, .int x2, .int x3, .int x4, .int x5])), (h1, .inl (y0, 16, .inl f0))] H) (hD : va_D A [(h0, .inr (2, [.ref h1, .ref h2, .ref h3, .int x1, .int x2, .int x3, .int x4, .int x5])), (h1, .inl (y0, 16, .inl f0))]) (hS : va_S A s.heap H locs) (ls : Array Slot) (hl : lv_has ls 6 [(0, .ref h0), (1, .int x0)]), W p l e (headSpec (Cond.code yX2_jump cX2_jump 6 (some .int) :: lw_G) ({ frames := 1, cells := 0, slots := 0, locals := 22 })).room s m ar below meth c H locs 0 0 Q (F0 m 99 ls [.int b80])) ?_ (fun j81 => ?_)
          · skip
            intro b80 ib80 H locs hK hP hD hS ls hl
            refine lv_istore (lv' := [(4, .int b80), (0, .ref h0), (1, .int x0)]) hx hb dX2_jump_99 hl (by decide) rfl (fun ls hl => ?_)
            refine lv_goto (tgt := 191) hx hb dX2_jump_101 (by decide) ?_
            exact j42 b80 ib80 _ _ hK hP hD hS ls hl
          refine lv_if_ne (tgt := 98) hx hb dX2_jump_91 (by decide) (fun c78 => ?_) (fun c78 => ?_)
          · skip
            have j82 : iv v77 1 2 := iv_neLo iv77 (by decide : iv 0 0 0) c78 (by decide)
            refine lv_iconst (v := 0) hx hb dX2_jump_98 (by decide) ?_
            exact j81 0 (iv_w (by decide : iv 0 0 0) (by decide) (by decide)) _ _ hK hP hD hS ls (lv_sub hl [2, 3] rfl)
          · skip
            subst c78
            refine lv_iconst (v := 1) hx hb dX2_jump_94 (by decide) ?_
            refine lv_goto (tgt := 99) hx hb dX2_jump_95 (by decide) ?_
            exact j81 1 (iv_w (by decide : iv 1 1 1) (by decide) (by decide)) _ _ hK hP hD hS ls (lv_sub hl [2, 3] rfl)
        · skip
          refine lv_tableIn (off := 57) (tgt := 104) hx hb dX2_jump_47 (by decide) (by decide) (by decide) (by decide) ?_
          refine lv_iload_n hx hb dX2_jump_104 rfl (lv_at hl 1 rfl) ?_
          refine lv_iconst (v := 2) hx hb dX2_jump_105 (by decide) ?_
          refine lv_iand hx hb dX2_jump_106 ?_
          refine lv_topi (fun v83 ev83 => ?_)
          have iv83 : iv v83 0 2 := iv_eq ev83 (iv_and (x := v1) (iv_w (by decide : iv 2 2 2) (by decide) (by decide) : iv 2 0 2))
          refine jcut (a := ∀ (b86 : Int32) (ib86 : iv b86 0 1) (H : Heap) (locs : List Loc) (hK : va_K (dC, dI) vwCl [(y0, .int)] s) (hP : va_P (dC, dI) vwCl [(h0, .inr (2, [.ref h1, .ref h2, .ref h3, .int x1, .int x2, .int x3, .int x4, .int x5])), (h1, .inl (y0, 16, .inl f0))] H) (hD : va_D A [(h0, .inr (2, [.ref h1, .ref h2, .ref h3, .int x1, .int x2, .int x3, .int x4, .int x5])), (h1, .inl (y0, 16, .inl f0))]) (hS : va_S A s.heap H locs) (ls : Array Slot) (hl : lv_has ls 6 [(0, .ref h0), (1, .int x0)]), W p l e (headSpec (Cond.code yX2_jump cX2_jump 6 (some .int) :: lw_G) ({ frames := 1, cells := 0, slots := 0, locals := 22 })).room s m ar below meth c H locs 0 0 Q (F0 m 115 ls [.int b86])) ?_ (fun j87 => ?_)
          · skip
            intro b86 ib86 H locs hK hP hD hS ls hl
            refine lv_istore (lv' := [(4, .int b86), (0, .ref h0), (1, .int x0)]) hx hb dX2_jump_115 hl (by decide) rfl (fun ls hl => ?_)
            refine lv_goto (tgt := 191) hx hb dX2_jump_117 (by decide) ?_
            exact j42 b86 ib86 _ _ hK hP hD hS ls hl
          refine lv_if_eq (tgt := 114) hx hb dX2_jump_107 (by decide) (fun c84 => ?_) (fun c84 => ?_)
          · skip
            subst c84
            refine lv_iconst (v := 0) hx hb dX2_jump_114 (by decide) ?_
            exact j87 0 (iv_w (by decide : iv 0 0 0) (by decide) (by decide)) _ _ hK hP hD hS ls (lv_sub hl [2, 3] rfl)
          · skip
            have j88 : iv v83 1 2 := iv_neLo iv83 (by decide : iv 0 0 0) c84 (by decide)
            refine lv_iconst (v := 1) hx hb dX2_jump_110 (by decide) ?_
            refine lv_goto (tgt := 115) hx hb dX2_jump_111 (by decide) ?_
            exact j87 1 (iv_w (by decide : iv 1 1 1) (by decide) (by decide)) _ _ hK hP hD hS ls (lv_sub hl [2, 3] rfl)
        · skip
          refine lv_tableIn (off := 73) (tgt := 120) hx hb dX2_jump_47 (by decide) (by decide) (by decide) (by decide) ?_
          refine lv_iload_n hx hb dX2_jump_120 rfl (lv_at hl 1 rfl) ?_
          refine lv_iconst (v := 1) hx hb dX2_jump_121 (by decide) ?_
          refine lv_iand hx hb dX2_jump_122 ?_
          refine lv_topi (fun v89 ev89 => ?_)
          have iv89 : iv v89 0 1 := iv_eq ev89 (iv_and (x := v1) (iv_w (by decide : iv 1 1 1) (by decide) (by decide) : iv 1 0 1))
          refine jcut (a := ∀ (b92 : Int32) (ib92 : iv b92 0 1) (H : Heap) (locs : List Loc) (hK : va_K (dC, dI) vwCl [(y0, .int)] s) (hP : va_P (dC, dI) vwCl [(h0, .inr (2, [.ref h1, .ref h2, .ref h3, .int x1, .int x2, .int x3, .int x4, .int x5])), (h1, .inl (y0, 16, .inl f0))] H) (hD : va_D A [(h0, .inr (2, [.ref h1, .ref h2, .ref h3, .int x1, .int x2, .int x3, .int x4, .int x5])), (h1, .inl (y0, 16, .inl f0))]) (hS : va_S A s.heap H locs) (ls : Array Slot) (hl : lv_has ls 6 [(0, .ref h0), (1, .int x0)]), W p l e (headSpec (Cond.code yX2_jump cX2_jump 6 (some .int) :: lw_G) ({ frames := 1, cells := 0, slots := 0, locals := 22 })).room s m ar below meth c H locs 0 0 Q (F0 m 131 ls [.int b92])) ?_ (fun j93 => ?_)
          · skip
            intro b92 ib92 H locs hK hP hD hS ls hl
            refine lv_istore (lv' := [(4, .int b92), (0, .ref h0), (1, .int x0)]) hx hb dX2_jump_131 hl (by decide) rfl (fun ls hl => ?_)
            refine lv_goto (tgt := 191) hx hb dX2_jump_133 (by decide) ?_
            exact j42 b92 ib92 _ _ hK hP hD hS ls hl
          refine lv_if_ne (tgt := 130) hx hb dX2_jump_123 (by decide) (fun c90 => ?_) (fun c90 => ?_)
          · skip
            have j94 : iv v89 1 1 := iv_neLo iv89 (by decide : iv 0 0 0) c90 (by decide)
            refine lv_iconst (v := 0) hx hb dX2_jump_130 (by decide) ?_
            exact j93 0 (iv_w (by decide : iv 0 0 0) (by decide) (by decide)) _ _ hK hP hD hS ls (lv_sub hl [2, 3] rfl)
          · skip
            subst c90
            refine lv_iconst (v := 1) hx hb dX2_jump_126 (by decide) ?_
            refine lv_goto (tgt := 131) hx hb dX2_jump_127 (by decide) ?_
            exact j93 1 (iv_w (by decide : iv 1 1 1) (by decide) (by decide)) _ _ hK hP hD hS ls (lv_sub hl [2, 3] rfl)
        · skip
          refine lv_tableIn (off := 89) (tgt := 136) hx hb dX2_jump_47 (by decide) (by decide) (by decide) (by decide) ?_
          refine lv_iload_n hx hb dX2_jump_136 rfl (lv_at hl 1 rfl) ?_
          refine lv_iconst (v := 1) hx hb dX2_jump_137 (by decide) ?_
          refine lv_iand hx hb dX2_jump_138 ?_
          refine lv_topi (fun v95 ev95 => ?_)
          have iv95 : iv v95 0 1 := iv_eq ev95 (iv_and (x := v1) (iv_w (by decide : iv 1 1 1) (by decide) (by decide) : iv 1 0 1))
          refine jcut (a := ∀ (b98 : Int32) (ib98 : iv b98 0 1) (H : Heap) (locs : List Loc) (hK : va_K (dC, dI) vwCl [(y0, .int)] s) (hP : va_P (dC, dI) vwCl [(h0, .inr (2, [.ref h1, .ref h2, .ref h3, .int x1, .int x2, .int x3, .int x4, .int x5])), (h1, .inl (y0, 16, .inl f0))] H) (hD : va_D A [(h0, .inr (2, [.ref h1, .ref h2, .ref h3, .int x1, .int x2, .int x3, .int x4, .int x5])), (h1, .inl (y0, 16, .inl f0))]) (hS : va_S A s.heap H locs) (ls : Array Slot) (hl : lv_has ls 6 [(0, .ref h0), (1, .int x0)]), W p l e (headSpec (Cond.code yX2_jump cX2_jump 6 (some .int) :: lw_G) ({ frames := 1, cells := 0, slots := 0, locals := 22 })).room s m ar below meth c H locs 0 0 Q (F0 m 147 ls [.int b98])) ?_ (fun j99 => ?_)
          · skip
            intro b98 ib98 H locs hK hP hD hS ls hl
            refine lv_istore (lv' := [(4, .int b98), (0, .ref h0), (1, .int x0)]) hx hb dX2_jump_147 hl (by decide) rfl (fun ls hl => ?_)
            refine lv_goto (tgt := 191) hx hb dX2_jump_149 (by decide) ?_
            exact j42 b98 ib98 _ _ hK hP hD hS ls hl
          refine lv_if_eq (tgt := 146) hx hb dX2_jump_139 (by decide) (fun c96 => ?_) (fun c96 => ?_)
          · skip
            subst c96
            refine lv_iconst (v := 0) hx hb dX2_jump_146 (by decide) ?_
            exact j99 0 (iv_w (by decide : iv 0 0 0) (by decide) (by decide)) _ _ hK hP hD hS ls (lv_sub hl [2, 3] rfl)
          · skip
            have j100 : iv v95 1 1 := iv_neLo iv95 (by decide : iv 0 0 0) c96 (by decide)
            refine lv_iconst (v := 1) hx hb dX2_jump_142 (by decide) ?_
            refine lv_goto (tgt := 147) hx hb dX2_jump_143 (by decide) ?_
            exact j99 1 (iv_w (by decide : iv 1 1 1) (by decide) (by decide)) _ _ hK hP hD hS ls (lv_sub hl [2, 3] rfl)
        · skip
          refine lv_tableIn (off := 105) (tgt := 152) hx hb dX2_jump_47 (by decide) (by decide) (by decide) (by decide) ?_
          refine lv_iload_n hx hb dX2_jump_152 rfl (lv_at hl 1 rfl) ?_
          refine lv_iconst (v := 4) hx hb dX2_jump_153 (by decide) ?_
          refine lv_iand hx hb dX2_jump_154 ?_
          refine lv_topi (fun v101 ev101 => ?_)
          have iv101 : iv v101 0 4 := iv_eq ev101 (iv_and (x := v1) (iv_w (by decide : iv 4 4 4) (by decide) (by decide) : iv 4 0 4))
          refine jcut (a := ∀ (b104 : Int32) (ib104 : iv b104 0 1) (H : Heap) (locs : List Loc) (hK : va_K (dC, dI) vwCl [(y0, .int)] s) (hP : va_P (dC, dI) vwCl [(h0, .inr (2, [.ref h1, .ref h2, .ref h3, .int x1, .int x2, .int x3, .int x4, .int x5])), (h1, .inl (y0, 16, .inl f0))] H) (hD : va_D A [(h0, .inr (2, [.ref h1, .ref h2, .ref h3, .int x1, .int x2, .int x3, .int x4, .int x5])), (h1, .inl (y0, 16, .inl f0))]) (hS : va_S A s.heap H locs) (ls : Array Slot) (hl : lv_has ls 6 [(0, .ref h0), (1, .int x0)]), W p l e (headSpec (Cond.code yX2_jump cX2_jump 6 (some .int) :: lw_G) ({ frames := 1, cells := 0, slots := 0, locals := 22 })).room s m ar below meth c H locs 0 0 Q (F0 m 163 ls [.int b104])) ?_ (fun j105 => ?_)
          · skip
            intro b104 ib104 H locs hK hP hD hS ls hl
            refine lv_istore (lv' := [(4, .int b104), (0, .ref h0), (1, .int x0)]) hx hb dX2_jump_163 hl (by decide) rfl (fun ls hl => ?_)
            refine lv_goto (tgt := 191) hx hb dX2_jump_165 (by decide) ?_
            exact j42 b104 ib104 _ _ hK hP hD hS ls hl
          refine lv_if_eq (tgt := 162) hx hb dX2_jump_155 (by decide) (fun c102 => ?_) (fun c102 => ?_)
          · skip
            subst c102
            refine lv_iconst (v := 0) hx hb dX2_jump_162 (by decide) ?_
            exact j105 0 (iv_w (by decide : iv 0 0 0) (by decide) (by decide)) _ _ hK hP hD hS ls (lv_sub hl [2, 3] rfl)
          · skip
            have j106 : iv v101 1 4 := iv_neLo iv101 (by decide : iv 0 0 0) c102 (by decide)
            refine lv_iconst (v := 1) hx hb dX2_jump_158 (by decide) ?_
            refine lv_goto (tgt := 163) hx hb dX2_jump_159 (by decide) ?_
            exact j105 1 (iv_w (by decide : iv 1 1 1) (by decide) (by decide)) _ _ hK hP hD hS ls (lv_sub hl [2, 3] rfl)
        · skip
          refine lv_tableIn (off := 121) (tgt := 168) hx hb dX2_jump_47 (by decide) (by decide) (by decide) (by decide) ?_
          refine lv_iload_n hx hb dX2_jump_168 rfl (lv_at hl 0 rfl) ?_
          refine jcut (a := ∀ (b109 : Int32) (ib109 : iv b109 0 1) (H : Heap) (locs : List Loc) (hK : va_K (dC, dI) vwCl [(y0, .int)] s) (hP : va_P (dC, dI) vwCl [(h0, .inr (2, [.ref h1, .ref h2, .ref h3, .int x1, .int x2, .int x3, .int x4, .int x5])), (h1, .inl (y0, 16, .inl f0))] H) (hD : va_D A [(h0, .inr (2, [.ref h1, .ref h2, .ref h3, .int x1, .int x2, .int x3, .int x4, .int x5])), (h1, .inl (y0, 16, .inl f0))]) (hS : va_S A s.heap H locs) (ls : Array Slot) (hl : lv_has ls 6 [(0, .ref h0), (1, .int x0)]), W p l e (headSpec (Cond.code yX2_jump cX2_jump 6 (some .int) :: lw_G) ({ frames := 1, cells := 0, slots := 0, locals := 22 })).room s m ar below meth c H locs 0 0 Q (F0 m 177 ls [.int b109])) ?_ (fun j110 => ?_)
          · skip
            intro b109 ib109 H locs hK hP hD hS ls hl
            refine lv_istore (lv' := [(4, .int b109), (0, .ref h0), (1, .int x0)]) hx hb dX2_jump_177 hl (by decide) rfl (fun ls hl => ?_)
            refine lv_goto (tgt := 191) hx hb dX2_jump_179 (by decide) ?_
            exact j42 b109 ib109 _ _ hK hP hD hS ls hl
          refine lv_if_ne (tgt := 176) hx hb dX2_jump_169 (by decide) (fun c107 => ?_) (fun c107 => ?_)
          · skip
            have j111 : iv b13 1 1 := iv_neLo ib13 (by decide : iv 0 0 0) c107 (by decide)
            refine lv_iconst (v := 0) hx hb dX2_jump_176 (by decide) ?_
            exact j110 0 (iv_w (by decide : iv 0 0 0) (by decide) (by decide)) _ _ hK hP hD hS ls (lv_sub hl [2, 3] rfl)
          · skip
            subst c107
            refine lv_iconst (v := 1) hx hb dX2_jump_172 (by decide) ?_
            refine lv_goto (tgt := 177) hx hb dX2_jump_173 (by decide) ?_
            exact j110 1 (iv_w (by decide : iv 1 1 1) (by decide) (by decide)) _ _ hK hP hD hS ls (lv_sub hl [2, 3] rfl)
        · skip
          refine lv_tableIn (off := 135) (tgt := 182) hx hb dX2_jump_47 (by decide) (by decide) (by decide) (by decide) ?_
          refine lv_iload_n hx hb dX2_jump_182 rfl (lv_at hl 0 rfl) ?_
          refine lv_istore (lv' := [(4, .int b13), (3, .int b13), (2, .int v1), (0, .ref h0), (1, .int x0)]) hx hb dX2_jump_183 hl (by decide) rfl (fun ls hl => ?_)
          refine lv_goto (tgt := 191) hx hb dX2_jump_185 (by decide) ?_
          exact j42 b13 ib13 _ _ hK hP hD hS ls (lv_sub hl [0, 3, 4] rfl)
      refine lv_icmp_eq (tgt := 38) hx hb dX2_jump_31 (by decide) (fun c12 => ?_) (fun c12 => ?_)
      · skip
        refine lv_iconst (v := 0) hx hb dX2_jump_38 (by decide) ?_
        exact j14 0 (iv_w (by decide : iv 0 0 0) (by decide) (by decide)) _ _ hK hP hD hS ls hl
      · skip
        refine lv_iconst (v := 1) hx hb dX2_jump_34 (by decide) ?_
        refine lv_goto (tgt := 39) hx hb dX2_jump_35 (by decide) ?_
        exact j14 1 (iv_w (by decide : iv 1 1 1) (by decide) (by decide)) _ _ hK hP hD hS ls hl
    refine lv_if_eq (tgt := 30) hx hb dX2_jump_23 (by decide) (fun c8 => ?_) (fun c8 => ?_)
    · skip
      subst c8
      refine lv_iconst (v := 0) hx hb dX2_jump_30 (by decide) ?_
      exact j11 0 (iv_w (by decide : iv 0 0 0) (by decide) (by decide)) _ _ hK hP hD hS ls hl
    · skip
      have j112 : iv v7 1 256 := iv_neLo iv7 (by decide : iv 0 0 0) c8 (by decide)
      refine lv_iconst (v := 1) hx hb dX2_jump_26 (by decide) ?_
      refine lv_goto (tgt := 31) hx hb dX2_jump_27 (by decide) ?_
      exact j11 1 (iv_w (by decide : iv 1 1 1) (by decide) (by decide)) _ _ hK hP hD hS ls hl
  refine lv_if_eq (tgt := 17) hx hb dX2_jump_10 (by decide) (fun c3 => ?_) (fun c3 => ?_)
  · skip
    subst c3
    refine lv_iconst (v := 0) hx hb dX2_jump_17 (by decide) ?_
    exact j6 0 (iv_w (by decide : iv 0 0 0) (by decide) (by decide)) _ _ hK hP hD hS ls hl
  · skip
    have j113 : iv v2 1 4 := iv_neLo iv2 (by decide : iv 0 0 0) c3 (by decide)
    refine lv_iconst (v := 1) hx hb dX2_jump_13 (by decide) ?_
    refine lv_goto (tgt := 18) hx hb dX2_jump_14 (by decide) ?_
    exact j6 1 (iv_w (by decide : iv 1 1 1) (by decide) (by decide)) _ _ hK hP hD hS ls hl
set_option maxHeartbeats 100000000 in
set_option maxRecDepth 100000 in
theorem cX2_common_1 (l : Launch) (dC : Nat → ClassId) (dI : Nat → Nat → Nat) (h0 h1 h2 h3 : Nat) (y0 : ClassId) (sz : Nat) (x0 x1 x2 x3 x4 x5 x6 : Int32) (f0 : Nat → Int32) (ix6 : iv x6 0 1) : Met l yX2_common (Cond.code yX2_common cX2_common 4 (some .int) :: lw_G) ({ frames := 1, cells := 0, slots := 0, locals := 25 }) (va_Pc [.ref h0, .int x0, .int x1] (fun U => U.heap.size = sz ∧ va_P (dC, dI) vwCl [(h0, .inr (2, [.ref h1, .ref h2, .ref h3, .int x2, .int x3, .int x4, .int x5, .int x6])), (h1, .inl (y0, 16, .inl f0))] U.heap ∧ va_K (dC, dI) vwCl [(y0, .int)] U ∧ va_D (fun _ => True) [(h0, .inr (2, [.ref h1, .ref h2, .ref h3, .int x2, .int x3, .int x4, .int x5, .int x6])), (h1, .inl (y0, 16, .inl f0))])) (va_Qi (fun (r : Int32) (u : Int32 × (Nat → Int32)) => iv u.1 0 1 ∧ True) (fun (u : Int32 × (Nat → Int32)) (t : State) => va_P (dC, dI) vwCl [(h0, .inr (2, [.ref h1, .ref h2, .ref h3, .int x2, .int x3, .int x4, .int x5, .int u.1])), (h1, .inl (y0, 16, .inl u.2))] t.heap ∧ va_K (dC, dI) vwCl [(y0, .int)] t ∧ va_D (va_A [(h0, .inr (2, [.ref h1, .ref h2, .ref h3, .int x2, .int x3, .int x4, .int x5, .int x6])), (h1, .inl (y0, 16, .inl f0))] sz) [(h0, .inr (2, [.ref h1, .ref h2, .ref h3, .int x2, .int x3, .int x4, .int x5, .int u.1])), (h1, .inl (y0, 16, .inl u.2))]) (va_A [(h0, .inr (2, [.ref h1, .ref h2, .ref h3, .int x2, .int x3, .int x4, .int x5, .int x6])), (h1, .inl (y0, 16, .inl f0))] sz)) 0 0 (va_A [(h0, .inr (2, [.ref h1, .ref h2, .ref h3, .int x2, .int x3, .int x4, .int x5, .int x6])), (h1, .inl (y0, 16, .inl f0))] sz) := by
  refine Met.ofW (cc := cX2_common) (maxL := 4) (ret := (some .int)) (by decide) rfl ?_
  intro p e s m args below meth c s₁ B hml hv
  obtain ⟨rfl, hsz, hP, hK, hD0⟩ := hv
  have hx := B.exec
  have hb := B.bytes
  have hr := B.returns
  have hts0 := atoms_spec (ws := Cond.code yX2_common cX2_common 4 (some .int) :: lw_G) B.pre
  have hG : ∀ w ∈ lw_G, w.before _ s = true := fun w h => hts0 w (List.mem_cons_of_mem _ h)
  have hown : s.vm.findClass RX2 = some m.cls := findClass_of_methodNamed B.named
  have hlocks := B.notSynchronized
  subst hsz
  have hD := hD0.self (sz := s.heap.size)
  generalize hAe : va_A [(h0, .inr (2, [.ref h1, .ref h2, .ref h3, .int x2, .int x3, .int x4, .int x5, .int x6])), (h1, .inl (y0, 16, .inl f0))] s.heap.size = A at hD ⊢
  have hA : ∀ q : Nat, s.heap.size ≤ q → A q := fun q h => by rw [← hAe]; exact Or.inr h
  have hS : va_S A s.heap s.heap [] := va_S.rf
  have hP : va_P (dC, dI) vwCl [(h0, .inr (2, [.ref h1, .ref h2, .ref h3, .int x2, .int x3, .int x4, .int x5, .int x6])), (h1, .inl (y0, 16, .inl f0))] s.heap := hP
  have hl := lv_entry ([.ref h0, .int x0, .int x1]) (n := 4) (Nat.le_of_ble_eq_true rfl)
  rw [lg_entry_eq]
  generalize (lg_sl ([.ref h0, .int x0, .int x1]) ++ List.replicate (4 - (lg_sl ([.ref h0, .int x0, .int x1])).length) Slot.unset).toArray = ls at hl ⊢
  have hl : lv_has ls 4 [(0, .ref h0), (1, .int x0), (2, .int x1)] := hl
  generalize ([.ref h0, .int x0, .int x1] : List Value).toArray = ar at hG ⊢
  refine wq (fun Q hQ => ?_)
  refine lv_iload_n hx hb dX2_common_0 rfl (lv_at hl 1 rfl) ?_
  refine lv_iload_n hx hb dX2_common_1 rfl (lv_at hl 2 rfl) ?_
  refine lv_iand hx hb dX2_common_2 ?_
  refine lv_topi (fun v1 ev1 => ?_)
  refine lv_istore_n (lv' := [(3, .int v1), (0, .ref h0), (1, .int x0), (2, .int x1)]) hx hb dX2_common_3 rfl hl (by decide) rfl (fun ls hl => ?_)
  refine lv_aload_n hx hb dX2_common_4 rfl (lv_at hl 1 rfl) ?_
  refine lv_iload_n hx hb dX2_common_5 rfl (lv_at hl 0 rfl) ?_
  refine lv_iload_n hx hb dX2_common_6 rfl (lv_at hl 0 rfl) ?_
  refine jcut (a := ∀ (b3 : Int32) (b4 : Int32) (ib3 : iv b3 0 1) (H : Heap) (locs : List Loc) (hK : va_K (dC, dI) vwCl [(y0, .int)] s) (hP : va_P (dC, dI) vwCl [(h0, .inr (2, [.ref h1, .ref h2, .ref h3, .int x2, .int x3, .int x4, .int x5, .int x6])), (h1, .inl (y0, 16, .inl f0))] H) (hD : va_D A [(h0, .inr (2, [.ref h1, .ref h2, .ref h3, .int x2, .int x3, .int x4, .int x5, .int x6])), (h1, .inl (y0, 16, .inl f0))]) (hS : va_S A s.heap H locs) (ls : Array Slot) (hl : lv_has ls 4 [(3, .int b4)]), W p l e (headSpec (Cond.code yX2_common cX2_common 4 (some .int) :: lw_G) ({ frames := 1, cells := 0, slots := 0, locals := 25 })).room s m ar below meth c H locs 0 0 Q (F0 m 15 ls [.int b3, .int b4, .ref h0])) ?_ (fun j5 => ?_)
  · skip
    intro b3 b4 ib3 H locs hK hP hD hS ls hl
    refine lv_iconst (v := 0) hx hb dX2_common_15 (by decide) ?_
    obtain ⟨hPc, hDc, hFc⟩ := nv_sub3 (wc := [(h0, .inr (2, [.ref h1, .ref h2, .ref h3, .int x2, .int x3, .int x4, .int x5, .int x6])), (h1, .inl (y0, 16, .inl f0))]) hP hD hS hA [0, 1] (by decide) rfl
    have hKc := hK.sub (tys' := [(y0, .int)]) [0] rfl
    refine va_callv (va_runV (As := [.int b4, .int b3, .int 0]) (rest := []) ⟨hx, hb, hml, hown, hG⟩ (cX2_putFlags_1 l dC dI h0 h1 h2 h3 y0 H.size b4 b3 0 x2 x3 x4 x5 x6 f0 ib3 (iv_w (by decide : iv 0 0 0) (by decide) (by decide)) ix6) (cwV 3 hG (gV wd_1048 wd_1050 wp_41 wd_6 wd_1051) rfl rfl rfl (by decide +kernel) ⟨Nat.le_of_ble_eq_true rfl, Nat.le_of_ble_eq_true rfl⟩) ⟨fun a U g mk q => by obtain ⟨q0, q1, qP, qK, qD⟩ := q; exact ⟨q0, q1, qP, va_K.moved (u := U) (U := U.calling g mk a) (Vm.Alike.refl U.vm) qK, qD⟩, va_recv hKc hPc (ci := 2) (q0 := 0) rfl rfl, fun U hU hW => ⟨rfl, by rw [hU], by rw [hU]; exact hPc, va_K.moved hW.alike hKc, hDc.weaken (fun _ _ _ _ => trivial)⟩⟩ rfl rfl hl.1 rfl (lv_room (Nat.le_of_ble_eq_true rfl)) dX2_common_16 ⟨by decide, by decide⟩) hS (fun q _ h => hFc q h) hFc (fun u7 t H1 locs ht hvm hw hB hz1 hk1 hS => ?_)
    obtain ⟨u7_0, u7_1⟩ := u7
    have hw : iv u7_0 0 1 ∧ True := hw
    obtain ⟨iu7_0, -⟩ := hw
    obtain ⟨hP1, hK1, hD1⟩ := hB
    rw [ht] at hP1
    have hK1 := va_K.moved hvm.symm hK1
    obtain ⟨hP, hD⟩ := nv_join (wf := [(h0, .inr (2, [.ref h1, .ref h2, .ref h3, .int x2, .int x3, .int x4, .int x5, .int u7_0])), (h1, .inl (y0, 16, .inl u7_1))]) hP hD [0, 1] [] rfl rfl (by decide) (by decide) hk1 hFc hP1 hD1 rfl
    have hK := (hK.sub (tys' := []) [] rfl).app hK1
    generalize H1 = H at hP hS ⊢
    have hK : va_K (dC, dI) vwCl [(y0, .int)] s := hK
    refine lv_iload_n hx hb dX2_common_19 rfl (lv_at hl 0 rfl) ?_
    rw [hQ]
    obtain ⟨hP9, hD9⟩ := nv_sub2 (wc := [(h0, .inr (2, [.ref h1, .ref h2, .ref h3, .int x2, .int x3, .int x4, .int x5, .int u7_0])), (h1, .inl (y0, 16, .inl u7_1))]) hP hD [0, 1] (by decide) rfl
    have hK9 := hK.sub (tys' := [(y0, .int)]) [0] rfl
    exact W.iret (v := b4) hx hb hr (fun t ht hW => ⟨⟨b4, (u7_0, u7_1), rfl, ⟨iv_w iu7_0 (by decide) (by decide), trivial⟩, by rw [ht]; exact hP9, va_K.moved hW.alike hK9, hD9⟩, hS.F ht⟩) hS.2.2 dX2_common_20
  refine lv_if_eq (tgt := 14) hx hb dX2_common_7 (by decide) (fun c2 => ?_) (fun c2 => ?_)
  · skip
    subst c2
    refine lv_iconst (v := 0) hx hb dX2_common_14 (by decide) ?_
    exact j5 0 0 (iv_w (by decide : iv 0 0 0) (by decide) (by decide)) _ _ hK hP hD hS ls (lv_sub hl [0] rfl)
  · skip
    refine lv_iconst (v := 1) hx hb dX2_common_10 (by decide) ?_
    refine lv_goto (tgt := 15) hx hb dX2_common_11 (by decide) ?_
    exact j5 1 v1 (iv_w (by decide : iv 1 1 1) (by decide) (by decide)) _ _ hK hP hD hS ls (lv_sub hl [0] rfl)
set_option maxHeartbeats 100000000 in
set_option maxRecDepth 100000 in
theorem cX2_sum_1 (l : Launch) (dC : Nat → ClassId) (dI : Nat → Nat → Nat) (h0 h1 h2 h3 : Nat) (y0 : ClassId) (sz : Nat) (x0 x1 x2 x3 x4 x5 x6 x7 : Int32) (f0 : Nat → Int32) (ix7 : iv x7 0 1) : Met l yX2_sum (Cond.code yX2_sum cX2_sum 8 (some .int) :: lw_G) ({ frames := 1, cells := 0, slots := 0, locals := 25 }) (va_Pc [.ref h0, .int x0, .int x1, .int x2] (fun U => U.heap.size = sz ∧ va_P (dC, dI) vwCl [(h0, .inr (2, [.ref h1, .ref h2, .ref h3, .int x3, .int x4, .int x5, .int x6, .int x7])), (h1, .inl (y0, 16, .inl f0))] U.heap ∧ va_K (dC, dI) vwCl [(y0, .int)] U ∧ va_D (fun _ => True) [(h0, .inr (2, [.ref h1, .ref h2, .ref h3, .int x3, .int x4, .int x5, .int x6, .int x7])), (h1, .inl (y0, 16, .inl f0))])) (va_Qi (fun (r : Int32) (u : Int32 × (Nat → Int32)) => iv r 0 65535 ∧ iv u.1 0 1 ∧ True) (fun (u : Int32 × (Nat → Int32)) (t : State) => va_P (dC, dI) vwCl [(h0, .inr (2, [.ref h1, .ref h2, .ref h3, .int x3, .int x4, .int x5, .int x6, .int u.1])), (h1, .inl (y0, 16, .inl u.2))] t.heap ∧ va_K (dC, dI) vwCl [(y0, .int)] t ∧ va_D (va_A [(h0, .inr (2, [.ref h1, .ref h2, .ref h3, .int x3, .int x4, .int x5, .int x6, .int x7])), (h1, .inl (y0, 16, .inl f0))] sz) [(h0, .inr (2, [.ref h1, .ref h2, .ref h3, .int x3, .int x4, .int x5, .int x6, .int u.1])), (h1, .inl (y0, 16, .inl u.2))]) (va_A [(h0, .inr (2, [.ref h1, .ref h2, .ref h3, .int x3, .int x4, .int x5, .int x6, .int x7])), (h1, .inl (y0, 16, .inl f0))] sz)) 0 0 (va_A [(h0, .inr (2, [.ref h1, .ref h2, .ref h3, .int x3, .int x4, .int x5, .int x6, .int x7])), (h1, .inl (y0, 16, .inl f0))] sz) := by
  refine Met.ofW (cc := cX2_sum) (maxL := 8) (ret := (some .int)) (by decide) rfl ?_
  intro p e s m args below meth c s₁ B hml hv
  obtain ⟨rfl, hsz, hP, hK, hD0⟩ := hv
  have hx := B.exec
  have hb := B.bytes
  have hr := B.returns
  have hts0 := atoms_spec (ws := Cond.code yX2_sum cX2_sum 8 (some .int) :: lw_G) B.pre
  have hG : ∀ w ∈ lw_G, w.before _ s = true := fun w h => hts0 w (List.mem_cons_of_mem _ h)
  have hown : s.vm.findClass RX2 = some m.cls := findClass_of_methodNamed B.named
  have hlocks := B.notSynchronized
  subst hsz
  have hD := hD0.self (sz := s.heap.size)
  generalize hAe : va_A [(h0, .inr (2, [.ref h1, .ref h2, .ref h3, .int x3, .int x4, .int x5, .int x6, .int x7])), (h1, .inl (y0, 16, .inl f0))] s.heap.size = A at hD ⊢
  have hA : ∀ q : Nat, s.heap.size ≤ q → A q := fun q h => by rw [← hAe]; exact Or.inr h
  have hS : va_S A s.heap s.heap [] := va_S.rf
  have hP : va_P (dC, dI) vwCl [(h0, .inr (2, [.ref h1, .ref h2, .ref h3, .int x3, .int x4, .int x5, .int x6, .int x7])), (h1, .inl (y0, 16, .inl f0))] s.heap := hP
  have hl := lv_entry ([.ref h0, .int x0, .int x1, .int x2]) (n := 8) (Nat.le_of_ble_eq_true rfl)
  rw [lg_entry_eq]
  generalize (lg_sl ([.ref h0, .int x0, .int x1, .int x2]) ++ List.replicate (8 - (lg_sl ([.ref h0, .int x0, .int x1, .int x2])).length) Slot.unset).toArray = ls at hl ⊢
  have hl : lv_has ls 8 [(0, .ref h0), (1, .int x0), (2, .int x1), (3, .int x2)] := hl
  generalize ([.ref h0, .int x0, .int x1, .int x2] : List Value).toArray = ar at hG ⊢
  refine wq (fun Q hQ => ?_)
  refine lv_aload_n hx hb dX2_sum_0 rfl (lv_at hl 0 rfl) ?_
  refine va_get (D := (dC, dI)) (ci := 2) (v := .int x7) (C := RX2) (T := TX2) (N := 8) hx hb hG inGX2 hown hK hP 0 rfl rfl 7 (by decide) (hG _ wd_156) (fun _ h9 => h9) rfl dX2_sum_1 ?_
  refine jcut (a := ∀ (b3 : Int32) (b4 : Int32) (ib3 : iv b3 255 65535) (ib4 : iv b4 0 1) (H : Heap) (locs : List Loc) (hK : va_K (dC, dI) vwCl [(y0, .int)] s) (hP : va_P (dC, dI) vwCl [(h0, .inr (2, [.ref h1, .ref h2, .ref h3, .int x3, .int x4, .int x5, .int x6, .int b4])), (h1, .inl (y0, 16, .inl f0))] H) (hD : va_D A [(h0, .inr (2, [.ref h1, .ref h2, .ref h3, .int x3, .int x4, .int x5, .int x6, .int b4])), (h1, .inl (y0, 16, .inl f0))]) (hS : va_S A s.heap H locs) (ls : Array Slot) (hl : lv_has ls 8 [(0, .ref h0), (1, .int x0), (2, .int x1), (3, .int x2)]), W p l e (headSpec (Cond.code yX2_sum cX2_sum 8 (some .int) :: lw_G) ({ frames := 1, cells := 0, slots := 0, locals := 25 })).room s m ar below meth c H locs 0 0 Q (F0 m 15 ls [.int b3])) ?_ (fun j5 => ?_)
  · skip
    intro b3 b4 ib3 ib4 H locs hK hP hD hS ls hl
    refine lv_istore (lv' := [(4, .int b3), (0, .ref h0), (1, .int x0), (2, .int x1), (3, .int x2)]) hx hb dX2_sum_15 hl (by decide) rfl (fun ls hl => ?_)
    refine lv_aload_n hx hb dX2_sum_17 rfl (lv_at hl 1 rfl) ?_
    refine va_get (D := (dC, dI)) (ci := 2) (v := .int b4) (C := RX2) (T := TX2) (N := 8) hx hb hG inGX2 hown hK hP 0 rfl rfl 7 (by decide) (hG _ wd_156) (fun _ h9 => h9) rfl dX2_sum_18 ?_
    refine jcut (a := ∀ (b8 : Int32) (b9 : Int32) (ib8 : iv b8 128 32768) (ib9 : iv b9 0 1) (H : Heap) (locs : List Loc) (hK : va_K (dC, dI) vwCl [(y0, .int)] s) (hP : va_P (dC, dI) vwCl [(h0, .inr (2, [.ref h1, .ref h2, .ref h3, .int x3, .int x4, .int x5, .int x6, .int b9])), (h1, .inl (y0, 16, .inl f0))] H) (hD : va_D A [(h0, .inr (2, [.ref h1, .ref h2, .ref h3, .int x3, .int x4, .int x5, .int x6, .int b9])), (h1, .inl (y0, 16, .inl f0))]) (hS : va_S A s.heap H locs) (ls : Array Slot) (hl : lv_has ls 8 [(4, .int b3), (0, .ref h0), (1, .int x0), (2, .int x1), (3, .int x2)]), W p l e (headSpec (Cond.code yX2_sum cX2_sum 8 (some .int) :: lw_G) ({ frames := 1, cells := 0, slots := 0, locals := 25 })).room s m ar below meth c H locs 0 0 Q (F0 m 32 ls [.int b8])) ?_ (fun j10 => ?_)
    · skip
      intro b8 b9 ib8 ib9 H locs hK hP hD hS ls hl
      refine lv_istore (lv' := [(5, .int b8), (4, .int b3), (0, .ref h0), (1, .int x0), (2, .int x1), (3, .int x2)]) hx hb dX2_sum_32 hl (by decide) rfl (fun ls hl => ?_)
      refine lv_iload_n hx hb dX2_sum_34 rfl (lv_at hl 3 rfl) ?_
      refine lv_iload_n hx hb dX2_sum_35 rfl (lv_at hl 4 rfl) ?_
      refine lv_iadd hx hb dX2_sum_36 ?_
      refine lv_topi (fun v11 ev11 => ?_)
      refine lv_iload_n hx hb dX2_sum_37 rfl (lv_at hl 5 rfl) ?_
      refine lv_iadd hx hb dX2_sum_38 ?_
      refine lv_topi (fun v12 ev12 => ?_)
      refine lv_istore (lv' := [(6, .int v12), (5, .int b8), (4, .int b3), (0, .ref h0), (1, .int x0), (2, .int x1), (3, .int x2)]) hx hb dX2_sum_39 hl (by decide) rfl (fun ls hl => ?_)
      refine lv_iload hx hb dX2_sum_41 (lv_at hl 0 rfl) ?_
      refine lv_iload hx hb dX2_sum_43 (lv_at hl 2 rfl) ?_
      refine lv_iand hx hb dX2_sum_45 ?_
      refine lv_topi (fun v13 ev13 => ?_)
      have iv13 : iv v13 0 65535 := iv_eq ev13 (iv_and (x := v12) (iv_w ib3 (by decide) (by decide) : iv b3 0 65535))
      refine lv_istore (lv' := [(7, .int v13), (6, .int v12), (5, .int b8), (4, .int b3), (0, .ref h0), (1, .int x0), (2, .int x1), (3, .int x2)]) hx hb dX2_sum_46 hl (by decide) rfl (fun ls hl => ?_)
      refine lv_aload_n hx hb dX2_sum_48 rfl (lv_at hl 4 rfl) ?_
      refine lv_iload hx hb dX2_sum_49 (lv_at hl 0 rfl) ?_
      refine lv_iload hx hb dX2_sum_51 (lv_at hl 1 rfl) ?_
      refine lv_iload hx hb dX2_sum_53 (lv_at hl 3 rfl) ?_
      refine jcut (a := ∀ (b19 : Int32) (ib19 : iv b19 0 1) (H : Heap) (locs : List Loc) (hK : va_K (dC, dI) vwCl [(y0, .int)] s) (hP : va_P (dC, dI) vwCl [(h0, .inr (2, [.ref h1, .ref h2, .ref h3, .int x3, .int x4, .int x5, .int x6, .int b9])), (h1, .inl (y0, 16, .inl f0))] H) (hD : va_D A [(h0, .inr (2, [.ref h1, .ref h2, .ref h3, .int x3, .int x4, .int x5, .int x6, .int b9])), (h1, .inl (y0, 16, .inl f0))]) (hS : va_S A s.heap H locs) (ls : Array Slot) (hl : lv_has ls 8 [(7, .int v13), (5, .int b8), (1, .int x0), (2, .int x1)]), W p l e (headSpec (Cond.code yX2_sum cX2_sum 8 (some .int) :: lw_G) ({ frames := 1, cells := 0, slots := 0, locals := 25 })).room s m ar below meth c H locs 0 0 Q (F0 m 63 ls [.int b19, .int v13, .ref h0])) ?_ (fun j20 => ?_)
      · skip
        intro b19 ib19 H locs hK hP hD hS ls hl
        refine lv_iload_n hx hb dX2_sum_63 rfl (lv_at hl 2 rfl) ?_
        refine lv_iload hx hb dX2_sum_64 (lv_at hl 0 rfl) ?_
        refine lv_ixor hx hb dX2_sum_66 ?_
        refine lv_topi (fun v21 ev21 => ?_)
        refine lv_iload_n hx hb dX2_sum_67 rfl (lv_at hl 3 rfl) ?_
        refine lv_iload hx hb dX2_sum_68 (lv_at hl 0 rfl) ?_
        refine lv_ixor hx hb dX2_sum_70 ?_
        refine lv_topi (fun v22 ev22 => ?_)
        refine lv_iand hx hb dX2_sum_71 ?_
        refine lv_topi (fun v23 ev23 => ?_)
        refine lv_iload hx hb dX2_sum_72 (lv_at hl 1 rfl) ?_
        refine lv_iand hx hb dX2_sum_74 ?_
        refine lv_topi (fun v24 ev24 => ?_)
        have iv24 : iv v24 0 32768 := iv_eq ev24 (iv_and (x := v23) (iv_w ib8 (by decide) (by decide) : iv b8 0 32768))
        refine jcut (a := ∀ (b27 : Int32) (ib27 : iv b27 0 1) (H : Heap) (locs : List Loc) (hK : va_K (dC, dI) vwCl [(y0, .int)] s) (hP : va_P (dC, dI) vwCl [(h0, .inr (2, [.ref h1, .ref h2, .ref h3, .int x3, .int x4, .int x5, .int x6, .int b9])), (h1, .inl (y0, 16, .inl f0))] H) (hD : va_D A [(h0, .inr (2, [.ref h1, .ref h2, .ref h3, .int x3, .int x4, .int x5, .int x6, .int b9])), (h1, .inl (y0, 16, .inl f0))]) (hS : va_S A s.heap H locs) (ls : Array Slot) (hl : lv_has ls 8 [(7, .int v13)]), W p l e (headSpec (Cond.code yX2_sum cX2_sum 8 (some .int) :: lw_G) ({ frames := 1, cells := 0, slots := 0, locals := 25 })).room s m ar below meth c H locs 0 0 Q (F0 m 83 ls [.int b27, .int b19, .int v13, .ref h0])) ?_ (fun j28 => ?_)
        · skip
          intro b27 ib27 H locs hK hP hD hS ls hl
          obtain ⟨hPc, hDc, hFc⟩ := nv_sub3 (wc := [(h0, .inr (2, [.ref h1, .ref h2, .ref h3, .int x3, .int x4, .int x5, .int x6, .int b9])), (h1, .inl (y0, 16, .inl f0))]) hP hD hS hA [0, 1] (by decide) rfl
          have hKc := hK.sub (tys' := [(y0, .int)]) [0] rfl
          refine va_callv (va_runV (As := [.int v13, .int b19, .int b27]) (rest := []) ⟨hx, hb, hml, hown, hG⟩ (cX2_putFlags_1 l dC dI h0 h1 h2 h3 y0 H.size v13 b19 b27 x3 x4 x5 x6 b9 f0 ib19 ib27 ib9) (cwV 3 hG (gV wd_1048 wd_1050 wp_41 wd_6 wd_1051) rfl rfl rfl (by decide +kernel) ⟨Nat.le_of_ble_eq_true rfl, Nat.le_of_ble_eq_true rfl⟩) ⟨fun a U g mk q => by obtain ⟨q0, q1, qP, qK, qD⟩ := q; exact ⟨q0, q1, qP, va_K.moved (u := U) (U := U.calling g mk a) (Vm.Alike.refl U.vm) qK, qD⟩, va_recv hKc hPc (ci := 2) (q0 := 0) rfl rfl, fun U hU hW => ⟨rfl, by rw [hU], by rw [hU]; exact hPc, va_K.moved hW.alike hKc, hDc.weaken (fun _ _ _ _ => trivial)⟩⟩ rfl rfl hl.1 rfl (lv_room (Nat.le_of_ble_eq_true rfl)) dX2_sum_83 ⟨by decide, by decide⟩) hS (fun q _ h => hFc q h) hFc (fun u30 t H1 locs ht hvm hw hB hz1 hk1 hS => ?_)
          obtain ⟨u30_0, u30_1⟩ := u30
          have hw : iv u30_0 0 1 ∧ True := hw
          obtain ⟨iu30_0, -⟩ := hw
          obtain ⟨hP1, hK1, hD1⟩ := hB
          rw [ht] at hP1
          have hK1 := va_K.moved hvm.symm hK1
          obtain ⟨hP, hD⟩ := nv_join (wf := [(h0, .inr (2, [.ref h1, .ref h2, .ref h3, .int x3, .int x4, .int x5, .int x6, .int u30_0])), (h1, .inl (y0, 16, .inl u30_1))]) hP hD [0, 1] [] rfl rfl (by decide) (by decide) hk1 hFc hP1 hD1 rfl
          have hK := (hK.sub (tys' := []) [] rfl).app hK1
          generalize H1 = H at hP hS ⊢
          have hK : va_K (dC, dI) vwCl [(y0, .int)] s := hK
          refine lv_iload hx hb dX2_sum_86 (lv_at hl 0 rfl) ?_
          rw [hQ]
          obtain ⟨hP9, hD9⟩ := nv_sub2 (wc := [(h0, .inr (2, [.ref h1, .ref h2, .ref h3, .int x3, .int x4, .int x5, .int x6, .int u30_0])), (h1, .inl (y0, 16, .inl u30_1))]) hP hD [0, 1] (by decide) rfl
          have hK9 := hK.sub (tys' := [(y0, .int)]) [0] rfl
          exact W.iret (v := v13) hx hb hr (fun t ht hW => ⟨⟨v13, (u30_0, u30_1), rfl, ⟨iv_w iv13 (by decide) (by decide), iv_w iu30_0 (by decide) (by decide), trivial⟩, by rw [ht]; exact hP9, va_K.moved hW.alike hK9, hD9⟩, hS.F ht⟩) hS.2.2 dX2_sum_88
        refine lv_if_eq (tgt := 82) hx hb dX2_sum_75 (by decide) (fun c25 => ?_) (fun c25 => ?_)
        · skip
          subst c25
          refine lv_iconst (v := 0) hx hb dX2_sum_82 (by decide) ?_
          exact j28 0 (iv_w (by decide : iv 0 0 0) (by decide) (by decide)) _ _ hK hP hD hS ls (lv_sub hl [0] rfl)
        · skip
          have j31 : iv v24 1 32768 := iv_neLo iv24 (by decide : iv 0 0 0) c25 (by decide)
          refine lv_iconst (v := 1) hx hb dX2_sum_78 (by decide) ?_
          refine lv_goto (tgt := 83) hx hb dX2_sum_79 (by decide) ?_
          exact j28 1 (iv_w (by decide : iv 1 1 1) (by decide) (by decide)) _ _ hK hP hD hS ls (lv_sub hl [0] rfl)
      refine lv_icmp_le (tgt := 62) hx hb dX2_sum_55 (by decide) (fun c14 => ?_) (fun c14 => ?_)
      · skip
        have rl32 : v12.toInt ≤ b3.toInt := Int32.le_iff_toInt_le.mp c14
        have j33 : iv v12 (-2147483648) 65535 := iv_leL (iv_any v12) ib3 c14 (by decide)
        refine lv_iconst (v := 0) hx hb dX2_sum_62 (by decide) ?_
        exact j20 0 (iv_w (by decide : iv 0 0 0) (by decide) (by decide)) _ _ hK hP hD hS ls (lv_sub hl [0, 2, 5, 6] rfl)
      · skip
        have rl34 : b3.toInt < v12.toInt := iv_nle2 c14
        have j35 : iv v12 256 2147483647 := iv_nleL (iv_any v12) ib3 c14 (by decide)
        refine lv_iconst (v := 1) hx hb dX2_sum_58 (by decide) ?_
        refine lv_goto (tgt := 63) hx hb dX2_sum_59 (by decide) ?_
        exact j20 1 (iv_w (by decide : iv 1 1 1) (by decide) (by decide)) _ _ hK hP hD hS ls (lv_sub hl [0, 2, 5, 6] rfl)
    refine lv_if_eq (tgt := 30) hx hb dX2_sum_21 (by decide) (fun c6 => ?_) (fun c6 => ?_)
    · skip
      subst c6
      refine lv_ldc hx hb hown (hG _ wd_1047) dX2_sum_30 ?_
      exact j10 32768 0 (iv_w (by decide : iv 32768 32768 32768) (by decide) (by decide)) (iv_w (by decide : iv 0 0 0) (by decide) (by decide)) _ _ hK hP hD hS ls hl
    · skip
      have j36 : iv b4 1 1 := iv_neLo ib4 (by decide : iv 0 0 0) c6 (by decide)
      refine lv_sipush (v := 128) hx hb dX2_sum_24 (by decide) ?_
      refine lv_goto (tgt := 32) hx hb dX2_sum_27 (by decide) ?_
      exact j10 128 b4 (iv_w (by decide : iv 128 128 128) (by decide) (by decide)) (iv_w j36 (by decide) (by decide)) _ _ hK hP hD hS ls hl
  refine lv_if_eq (tgt := 13) hx hb dX2_sum_4 (by decide) (fun c1 => ?_) (fun c1 => ?_)
  · skip
    subst c1
    refine lv_ldc hx hb hown (hG _ wd_829) dX2_sum_13 ?_
    exact j5 65535 0 (iv_w (by decide : iv 65535 65535 65535) (by decide) (by decide)) (iv_w (by decide : iv 0 0 0) (by decide) (by decide)) _ _ hK hP hD hS ls hl
  · skip
    have j37 : iv x7 1 1 := iv_neLo ix7 (by decide : iv 0 0 0) c1 (by decide)
    refine lv_sipush (v := 255) hx hb dX2_sum_7 (by decide) ?_
    refine lv_goto (tgt := 15) hx hb dX2_sum_10 (by decide) ?_
    exact j5 255 x7 (iv_w (by decide : iv 255 255 255) (by decide) (by decide)) (iv_w j37 (by decide) (by decide)) _ _ hK hP hD hS ls hl
