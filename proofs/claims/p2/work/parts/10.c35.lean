set_option maxHeartbeats 100000000 in
set_option maxRecDepth 100000 in
theorem cX2_decimalSum_1 (l : Launch) (dC : Nat → ClassId) (dI : Nat → Nat → Nat) (h0 h1 h2 h3 : Nat) (y0 : ClassId) (sz : Nat) (x0 x1 x2 x3 x4 x5 x6 : Int32) (f0 : Nat → Int32) (ix6 : iv x6 0 1) : Met l yX2_decimalSum (Cond.code yX2_decimalSum cX2_decimalSum 8 (some .int) :: lw_G) ({ frames := 1, cells := 0, slots := 0, locals := 25 }) (va_Pc [.ref h0, .int x0, .int x1] (fun U => U.heap.size = sz ∧ va_P (dC, dI) vwCl [(h0, .inr (2, [.ref h1, .ref h2, .ref h3, .int x2, .int x3, .int x4, .int x5, .int x6])), (h1, .inl (y0, 16, .inl f0))] U.heap ∧ va_K (dC, dI) vwCl [(y0, .int)] U ∧ va_D (fun _ => True) [(h0, .inr (2, [.ref h1, .ref h2, .ref h3, .int x2, .int x3, .int x4, .int x5, .int x6])), (h1, .inl (y0, 16, .inl f0))])) (va_Qi (fun (r : Int32) (u : Int32 × (Nat → Int32)) => iv r 0 65535 ∧ iv u.1 0 1 ∧ True) (fun (u : Int32 × (Nat → Int32)) (t : State) => va_P (dC, dI) vwCl [(h0, .inr (2, [.ref h1, .ref h2, .ref h3, .int x2, .int x3, .int x4, .int x5, .int u.1])), (h1, .inl (y0, 16, .inl u.2))] t.heap ∧ va_K (dC, dI) vwCl [(y0, .int)] t ∧ va_D (va_A [(h0, .inr (2, [.ref h1, .ref h2, .ref h3, .int x2, .int x3, .int x4, .int x5, .int x6])), (h1, .inl (y0, 16, .inl f0))] sz) [(h0, .inr (2, [.ref h1, .ref h2, .ref h3, .int x2, .int x3, .int x4, .int x5, .int u.1])), (h1, .inl (y0, 16, .inl u.2))]) (va_A [(h0, .inr (2, [.ref h1, .ref h2, .ref h3, .int x2, .int x3, .int x4, .int x5, .int x6])), (h1, .inl (y0, 16, .inl f0))] sz)) 0 0 (va_A [(h0, .inr (2, [.ref h1, .ref h2, .ref h3, .int x2, .int x3, .int x4, .int x5, .int x6])), (h1, .inl (y0, 16, .inl f0))] sz) := by
  refine Met.ofW (cc := cX2_decimalSum) (maxL := 8) (ret := (some .int)) (by decide) rfl ?_
  intro p e s m args below meth c s₁ B hml hv
  obtain ⟨rfl, hsz, hP, hK, hD0⟩ := hv
  have hx := B.exec
  have hb := B.bytes
  have hr := B.returns
  have hts0 := atoms_spec (ws := Cond.code yX2_decimalSum cX2_decimalSum 8 (some .int) :: lw_G) B.pre
  have hG : ∀ w ∈ lw_G, w.before _ s = true := fun w h => hts0 w (List.mem_cons_of_mem _ h)
  have hown : s.vm.findClass RX2 = some m.cls := findClass_of_methodNamed B.named
  have hlocks := B.notSynchronized
  subst hsz
  have hD := hD0.self (sz := s.heap.size)
  generalize hAe : va_A [(h0, .inr (2, [.ref h1, .ref h2, .ref h3, .int x2, .int x3, .int x4, .int x5, .int x6])), (h1, .inl (y0, 16, .inl f0))] s.heap.size = A at hD ⊢
  have hA : ∀ q : Nat, s.heap.size ≤ q → A q := fun q h => by rw [← hAe]; exact Or.inr h
  have hS : va_S A s.heap s.heap [] := va_S.rf
  have hP : va_P (dC, dI) vwCl [(h0, .inr (2, [.ref h1, .ref h2, .ref h3, .int x2, .int x3, .int x4, .int x5, .int x6])), (h1, .inl (y0, 16, .inl f0))] s.heap := hP
  have hl := lv_entry ([.ref h0, .int x0, .int x1]) (n := 8) (Nat.le_of_ble_eq_true rfl)
  rw [lg_entry_eq]
  generalize (lg_sl ([.ref h0, .int x0, .int x1]) ++ List.replicate (8 - (lg_sl ([.ref h0, .int x0, .int x1])).length) Slot.unset).toArray = ls at hl ⊢
  have hl : lv_has ls 8 [(0, .ref h0), (1, .int x0), (2, .int x1)] := hl
  generalize ([.ref h0, .int x0, .int x1] : List Value).toArray = ar at hG ⊢
  refine wq (fun Q hQ => ?_)
  refine lv_aload_n hx hb dX2_decimalSum_0 rfl (lv_at hl 0 rfl) ?_
  refine va_get (D := (dC, dI)) (ci := 2) (v := .ref h1) (C := RX2) (T := TX2) (N := 8) hx hb hG inGX2 hown hK hP 0 rfl rfl 0 (by decide) (hG _ wd_149) (fun _ h9 => h9) rfl dX2_decimalSum_1 ?_
  refine lv_iconst (v := 2) hx hb dX2_decimalSum_4 (by decide) ?_
  refine va_iald hx hb hK hP 1 0 rfl rfl (iv_in (by decide : iv 2 2 2) (by decide) (by decide) : vp_in 2 16) dX2_decimalSum_5 ?_
  refine lv_topi (fun v1 ev1 => ?_)
  refine lv_iconst (v := 1) hx hb dX2_decimalSum_6 (by decide) ?_
  refine lv_iand hx hb dX2_decimalSum_7 ?_
  refine lv_topi (fun v2 ev2 => ?_)
  have iv2 : iv v2 0 1 := iv_eq ev2 (iv_and (x := v1) (iv_w (by decide : iv 1 1 1) (by decide) (by decide) : iv 1 0 1))
  refine lv_istore_n (lv' := [(3, .int v2), (0, .ref h0), (1, .int x0), (2, .int x1)]) hx hb dX2_decimalSum_8 rfl hl (by decide) rfl (fun ls hl => ?_)
  refine lv_aload_n hx hb dX2_decimalSum_9 rfl (lv_at hl 1 rfl) ?_
  refine va_get (D := (dC, dI)) (ci := 2) (v := .int x6) (C := RX2) (T := TX2) (N := 8) hx hb hG inGX2 hown hK hP 0 rfl rfl 7 (by decide) (hG _ wd_156) (fun _ h9 => h9) rfl dX2_decimalSum_10 ?_
  refine jcut (a := ∀ (b5 : Int32) (b6 : Int32) (ib5 : iv b5 8 16) (ib6 : iv b6 0 1) (H : Heap) (locs : List Loc) (hK : va_K (dC, dI) vwCl [(y0, .int)] s) (hP : va_P (dC, dI) vwCl [(h0, .inr (2, [.ref h1, .ref h2, .ref h3, .int x2, .int x3, .int x4, .int x5, .int b6])), (h1, .inl (y0, 16, .inl f0))] H) (hD : va_D A [(h0, .inr (2, [.ref h1, .ref h2, .ref h3, .int x2, .int x3, .int x4, .int x5, .int b6])), (h1, .inl (y0, 16, .inl f0))]) (hS : va_S A s.heap H locs) (ls : Array Slot) (hl : lv_has ls 8 [(3, .int v2), (0, .ref h0), (1, .int x0), (2, .int x1)]), W p l e (headSpec (Cond.code yX2_decimalSum cX2_decimalSum 8 (some .int) :: lw_G) ({ frames := 1, cells := 0, slots := 0, locals := 25 })).room s m ar below meth c H locs 0 0 Q (F0 m 23 ls [.int b5])) ?_ (fun j7 => ?_)
  · skip
    intro b5 b6 ib5 ib6 H locs hK hP hD hS ls hl
    refine lv_istore (lv' := [(4, .int b5), (3, .int v2), (0, .ref h0), (1, .int x0), (2, .int x1)]) hx hb dX2_decimalSum_23 hl (by decide) rfl (fun ls hl => ?_)
    refine lv_iconst (v := 0) hx hb dX2_decimalSum_25 (by decide) ?_
    refine lv_istore (lv' := [(5, .int 0), (4, .int b5), (3, .int v2), (0, .ref h0), (1, .int x0), (2, .int x1)]) hx hb dX2_decimalSum_26 hl (by decide) rfl (fun ls hl => ?_)
    refine lv_iconst (v := 0) hx hb dX2_decimalSum_28 (by decide) ?_
    refine lv_istore (lv' := [(6, .int 0), (5, .int 0), (4, .int b5), (3, .int v2), (0, .ref h0), (1, .int x0), (2, .int x1)]) hx hb dX2_decimalSum_29 hl (by decide) rfl (fun ls hl => ?_)
    refine lv_iload hx hb dX2_decimalSum_31 (lv_at hl 0 rfl) ?_
    refine lv_iload hx hb dX2_decimalSum_33 (lv_at hl 2 rfl) ?_
    refine lv_icmp_ge (tgt := 94) hx hb dX2_decimalSum_35 (by decide) (fun c => absurd c (iv_nle ib5 (by decide : iv 0 0 0) (by decide))) (fun _ => ?_)
    refine lv_iload_n hx hb dX2_decimalSum_38 rfl (lv_at hl 5 rfl) ?_
    refine lv_iload hx hb dX2_decimalSum_39 (lv_at hl 0 rfl) ?_
    refine lv_ishr hx hb dX2_decimalSum_41 ?_
    refine lv_topi (fun v8 ev8 => ?_)
    refine lv_bipush (v := 15) hx hb dX2_decimalSum_42 (by decide) ?_
    refine lv_iand hx hb dX2_decimalSum_44 ?_
    refine lv_topi (fun v9 ev9 => ?_)
    have iv9 : iv v9 0 15 := iv_eq ev9 (iv_and (x := v8) (iv_w (by decide : iv 15 15 15) (by decide) (by decide) : iv 15 0 15))
    refine lv_iload_n hx hb dX2_decimalSum_45 rfl (lv_at hl 6 rfl) ?_
    refine lv_iload hx hb dX2_decimalSum_46 (lv_at hl 0 rfl) ?_
    refine lv_ishr hx hb dX2_decimalSum_48 ?_
    refine lv_topi (fun v10 ev10 => ?_)
    refine lv_bipush (v := 15) hx hb dX2_decimalSum_49 (by decide) ?_
    refine lv_iand hx hb dX2_decimalSum_51 ?_
    refine lv_topi (fun v11 ev11 => ?_)
    have iv11 : iv v11 0 15 := iv_eq ev11 (iv_and (x := v10) (iv_w (by decide : iv 15 15 15) (by decide) (by decide) : iv 15 0 15))
    refine lv_iadd hx hb dX2_decimalSum_52 ?_
    refine lv_topi (fun v12 ev12 => ?_)
    have iv12 : iv v12 0 30 := iv_eq ev12 (iv_add iv9 iv11 (by decide) (by decide))
    refine lv_iload_n hx hb dX2_decimalSum_53 rfl (lv_at hl 3 rfl) ?_
    refine lv_iadd hx hb dX2_decimalSum_54 ?_
    refine lv_topi (fun v13 ev13 => ?_)
    have iv13 : iv v13 0 31 := iv_eq ev13 (iv_add iv12 iv2 (by decide) (by decide))
    refine lv_istore (lv' := [(7, .int v13), (6, .int 0), (5, .int 0), (4, .int b5), (3, .int v2), (0, .ref h0), (1, .int x0), (2, .int x1)]) hx hb dX2_decimalSum_55 hl (by decide) rfl (fun ls hl => ?_)
    refine lv_iload hx hb dX2_decimalSum_57 (lv_at hl 0 rfl) ?_
    refine lv_bipush (v := 9) hx hb dX2_decimalSum_59 (by decide) ?_
    refine jcut (a := ∀ (b17 : Int32) (ib17 : iv b17 0 1) (H : Heap) (locs : List Loc) (hK : va_K (dC, dI) vwCl [(y0, .int)] s) (hP : va_P (dC, dI) vwCl [(h0, .inr (2, [.ref h1, .ref h2, .ref h3, .int x2, .int x3, .int x4, .int x5, .int b6])), (h1, .inl (y0, 16, .inl f0))] H) (hD : va_D A [(h0, .inr (2, [.ref h1, .ref h2, .ref h3, .int x2, .int x3, .int x4, .int x5, .int b6])), (h1, .inl (y0, 16, .inl f0))]) (hS : va_S A s.heap H locs) (ls : Array Slot) (hl : lv_has ls 8 [(7, .int v13), (6, .int 0), (5, .int 0), (4, .int b5), (0, .ref h0), (1, .int x0), (2, .int x1)]), W p l e (headSpec (Cond.code yX2_decimalSum cX2_decimalSum 8 (some .int) :: lw_G) ({ frames := 1, cells := 0, slots := 0, locals := 25 })).room s m ar below meth c H locs 0 0 Q (F0 m 69 ls [.int b17])) ?_ (fun j18 => ?_)
    · skip
      intro b17 ib17 H locs hK hP hD hS ls hl
      refine lv_istore_n (lv' := [(3, .int b17), (7, .int v13), (6, .int 0), (5, .int 0), (4, .int b5), (0, .ref h0), (1, .int x0), (2, .int x1)]) hx hb dX2_decimalSum_69 rfl hl (by decide) rfl (fun ls hl => ?_)
      refine lv_iload hx hb dX2_decimalSum_70 (lv_at hl 3 rfl) ?_
      refine lv_iload hx hb dX2_decimalSum_72 (lv_at hl 1 rfl) ?_
      refine lv_bipush (v := 10) hx hb dX2_decimalSum_74 (by decide) ?_
      refine lv_iload_n hx hb dX2_decimalSum_76 rfl (lv_at hl 0 rfl) ?_
      refine lv_imul hx hb dX2_decimalSum_77 ?_
      refine lv_topi (fun v19 ev19 => ?_)
      have iv19 : iv v19 0 10 := iv_eq ev19 (iv_mul (by decide : iv 10 10 10) ib17 (by decide) (by decide) (by decide))
      refine lv_isub hx hb dX2_decimalSum_78 ?_
      refine lv_topi (fun v20 ev20 => ?_)
      have iv20 : iv v20 (-10) 31 := iv_eq ev20 (iv_sub iv13 iv19 (by decide) (by decide))
      refine lv_bipush (v := 15) hx hb dX2_decimalSum_79 (by decide) ?_
      refine lv_iand hx hb dX2_decimalSum_81 ?_
      refine lv_topi (fun v21 ev21 => ?_)
      have iv21 : iv v21 0 15 := iv_eq ev21 (iv_and (x := v20) (iv_w (by decide : iv 15 15 15) (by decide) (by decide) : iv 15 0 15))
      refine lv_iload hx hb dX2_decimalSum_82 (lv_at hl 2 rfl) ?_
      refine lv_ishl hx hb dX2_decimalSum_84 ?_
      refine lv_topi (fun v22 ev22 => ?_)
      have iv22 : iv v22 0 15 := iv_eq ev22 (iv_shl 0 (by decide) iv21 (by decide) (by decide) (by decide) (by decide))
      refine lv_ior hx hb dX2_decimalSum_85 ?_
      refine lv_val (y := v22) (z0_ior _) ?_
      refine lv_istore (lv' := [(5, .int v22), (3, .int b17), (7, .int v13), (6, .int 0), (4, .int b5), (0, .ref h0), (1, .int x0), (2, .int x1)]) hx hb dX2_decimalSum_86 hl (by decide) rfl (fun ls hl => ?_)
      refine lv_iinc (v := 4) (lv' := [(6, .int 4), (5, .int v22), (3, .int b17), (7, .int v13), (4, .int b5), (0, .ref h0), (1, .int x0), (2, .int x1)]) hx hb dX2_decimalSum_88 hl (k := 3) rfl (by decide) (by decide) rfl (fun ls hl => ?_)
      refine lv_goto (tgt := 31) hx hb dX2_decimalSum_91 (by decide) ?_
      refine lv_iload hx hb dX2_decimalSum_31 (lv_at hl 0 rfl) ?_
      refine lv_iload hx hb dX2_decimalSum_33 (lv_at hl 4 rfl) ?_
      refine lv_icmp_ge (tgt := 94) hx hb dX2_decimalSum_35 (by decide) (fun c => absurd c (iv_nle ib5 (by decide : iv 4 4 4) (by decide))) (fun _ => ?_)
      refine lv_iload_n hx hb dX2_decimalSum_38 rfl (lv_at hl 6 rfl) ?_
      refine lv_iload hx hb dX2_decimalSum_39 (lv_at hl 0 rfl) ?_
      refine lv_ishr hx hb dX2_decimalSum_41 ?_
      refine lv_topi (fun v23 ev23 => ?_)
      have iv23 : iv v23 (-134217728) 134217727 := iv_eq ev23 (iv_shr 4 (by decide) (iv_any x0) (by decide) (by decide))
      refine lv_bipush (v := 15) hx hb dX2_decimalSum_42 (by decide) ?_
      refine lv_iand hx hb dX2_decimalSum_44 ?_
      refine lv_topi (fun v24 ev24 => ?_)
      have iv24 : iv v24 0 15 := iv_eq ev24 (iv_and (x := v23) (iv_w (by decide : iv 15 15 15) (by decide) (by decide) : iv 15 0 15))
      refine lv_iload_n hx hb dX2_decimalSum_45 rfl (lv_at hl 7 rfl) ?_
      refine lv_iload hx hb dX2_decimalSum_46 (lv_at hl 0 rfl) ?_
      refine lv_ishr hx hb dX2_decimalSum_48 ?_
      refine lv_topi (fun v25 ev25 => ?_)
      have iv25 : iv v25 (-134217728) 134217727 := iv_eq ev25 (iv_shr 4 (by decide) (iv_any x1) (by decide) (by decide))
      refine lv_bipush (v := 15) hx hb dX2_decimalSum_49 (by decide) ?_
      refine lv_iand hx hb dX2_decimalSum_51 ?_
      refine lv_topi (fun v26 ev26 => ?_)
      have iv26 : iv v26 0 15 := iv_eq ev26 (iv_and (x := v25) (iv_w (by decide : iv 15 15 15) (by decide) (by decide) : iv 15 0 15))
      refine lv_iadd hx hb dX2_decimalSum_52 ?_
      refine lv_topi (fun v27 ev27 => ?_)
      have iv27 : iv v27 0 30 := iv_eq ev27 (iv_add iv24 iv26 (by decide) (by decide))
      refine lv_iload_n hx hb dX2_decimalSum_53 rfl (lv_at hl 2 rfl) ?_
      refine lv_iadd hx hb dX2_decimalSum_54 ?_
      refine lv_topi (fun v28 ev28 => ?_)
      have iv28 : iv v28 0 31 := iv_eq ev28 (iv_add iv27 ib17 (by decide) (by decide))
      refine lv_istore (lv' := [(7, .int v28), (6, .int 4), (5, .int v22), (3, .int b17), (4, .int b5), (0, .ref h0), (1, .int x0), (2, .int x1)]) hx hb dX2_decimalSum_55 hl (by decide) rfl (fun ls hl => ?_)
      refine lv_iload hx hb dX2_decimalSum_57 (lv_at hl 0 rfl) ?_
      refine lv_bipush (v := 9) hx hb dX2_decimalSum_59 (by decide) ?_
      refine jcut (a := ∀ (b32 : Int32) (ib32 : iv b32 0 1) (H : Heap) (locs : List Loc) (hK : va_K (dC, dI) vwCl [(y0, .int)] s) (hP : va_P (dC, dI) vwCl [(h0, .inr (2, [.ref h1, .ref h2, .ref h3, .int x2, .int x3, .int x4, .int x5, .int b6])), (h1, .inl (y0, 16, .inl f0))] H) (hD : va_D A [(h0, .inr (2, [.ref h1, .ref h2, .ref h3, .int x2, .int x3, .int x4, .int x5, .int b6])), (h1, .inl (y0, 16, .inl f0))]) (hS : va_S A s.heap H locs) (ls : Array Slot) (hl : lv_has ls 8 [(7, .int v28), (6, .int 4), (5, .int v22), (4, .int b5), (0, .ref h0), (1, .int x0), (2, .int x1)]), W p l e (headSpec (Cond.code yX2_decimalSum cX2_decimalSum 8 (some .int) :: lw_G) ({ frames := 1, cells := 0, slots := 0, locals := 25 })).room s m ar below meth c H locs 0 0 Q (F0 m 69 ls [.int b32])) ?_ (fun j33 => ?_)
      · skip
        intro b32 ib32 H locs hK hP hD hS ls hl
        refine lv_istore_n (lv' := [(3, .int b32), (7, .int v28), (6, .int 4), (5, .int v22), (4, .int b5), (0, .ref h0), (1, .int x0), (2, .int x1)]) hx hb dX2_decimalSum_69 rfl hl (by decide) rfl (fun ls hl => ?_)
        refine lv_iload hx hb dX2_decimalSum_70 (lv_at hl 3 rfl) ?_
        refine lv_iload hx hb dX2_decimalSum_72 (lv_at hl 1 rfl) ?_
        refine lv_bipush (v := 10) hx hb dX2_decimalSum_74 (by decide) ?_
        refine lv_iload_n hx hb dX2_decimalSum_76 rfl (lv_at hl 0 rfl) ?_
        refine lv_imul hx hb dX2_decimalSum_77 ?_
        refine lv_topi (fun v34 ev34 => ?_)
        have iv34 : iv v34 0 10 := iv_eq ev34 (iv_mul (by decide : iv 10 10 10) ib32 (by decide) (by decide) (by decide))
        refine lv_isub hx hb dX2_decimalSum_78 ?_
        refine lv_topi (fun v35 ev35 => ?_)
        have iv35 : iv v35 (-10) 31 := iv_eq ev35 (iv_sub iv28 iv34 (by decide) (by decide))
        refine lv_bipush (v := 15) hx hb dX2_decimalSum_79 (by decide) ?_
        refine lv_iand hx hb dX2_decimalSum_81 ?_
        refine lv_topi (fun v36 ev36 => ?_)
        have iv36 : iv v36 0 15 := iv_eq ev36 (iv_and (x := v35) (iv_w (by decide : iv 15 15 15) (by decide) (by decide) : iv 15 0 15))
        refine lv_iload hx hb dX2_decimalSum_82 (lv_at hl 2 rfl) ?_
        refine lv_ishl hx hb dX2_decimalSum_84 ?_
        refine lv_topi (fun v37 ev37 => ?_)
        have iv37 : iv v37 0 240 := iv_eq ev37 (iv_shl 4 (by decide) iv36 (by decide) (by decide) (by decide) (by decide))
        refine lv_ior hx hb dX2_decimalSum_85 ?_
        refine lv_topi (fun v38 ev38 => ?_)
        have iv38 : iv v38 0 255 := iv_eq ev38 (iv_or 8 (iv_w iv22 (by decide) (by decide) : iv v22 0 15) (iv_w iv37 (by decide) (by decide) : iv v37 0 240) (by decide) (by decide) (by decide))
        refine lv_istore (lv' := [(5, .int v38), (3, .int b32), (7, .int v28), (6, .int 4), (4, .int b5), (0, .ref h0), (1, .int x0), (2, .int x1)]) hx hb dX2_decimalSum_86 hl (by decide) rfl (fun ls hl => ?_)
        refine lv_iinc (v := 8) (lv' := [(6, .int 8), (5, .int v38), (3, .int b32), (7, .int v28), (4, .int b5), (0, .ref h0), (1, .int x0), (2, .int x1)]) hx hb dX2_decimalSum_88 hl (k := 3) rfl (by decide) (by decide) rfl (fun ls hl => ?_)
        refine lv_goto (tgt := 31) hx hb dX2_decimalSum_91 (by decide) ?_
        refine lv_iload hx hb dX2_decimalSum_31 (lv_at hl 0 rfl) ?_
        refine lv_iload hx hb dX2_decimalSum_33 (lv_at hl 4 rfl) ?_
        refine jcut (a := ∀ (b75 : Int32) (b76 : Int32) (ib75 : iv b75 0 65535) (ib76 : iv b76 0 1) (H : Heap) (locs : List Loc) (hK : va_K (dC, dI) vwCl [(y0, .int)] s) (hP : va_P (dC, dI) vwCl [(h0, .inr (2, [.ref h1, .ref h2, .ref h3, .int x2, .int x3, .int x4, .int x5, .int b6])), (h1, .inl (y0, 16, .inl f0))] H) (hD : va_D A [(h0, .inr (2, [.ref h1, .ref h2, .ref h3, .int x2, .int x3, .int x4, .int x5, .int b6])), (h1, .inl (y0, 16, .inl f0))]) (hS : va_S A s.heap H locs) (ls : Array Slot) (hl : lv_has ls 8 [(5, .int b75), (3, .int b76), (0, .ref h0)]), W p l e (headSpec (Cond.code yX2_decimalSum cX2_decimalSum 8 (some .int) :: lw_G) ({ frames := 1, cells := 0, slots := 0, locals := 25 })).room s m ar below meth c H locs 0 0 Q (F0 m 94 ls [])) ?_ (fun j77 => ?_)
        · skip
          intro b75 b76 ib75 ib76 H locs hK hP hD hS ls hl
          refine lv_aload_n hx hb dX2_decimalSum_94 rfl (lv_at hl 2 rfl) ?_
          refine lv_iload hx hb dX2_decimalSum_95 (lv_at hl 0 rfl) ?_
          refine lv_iload_n hx hb dX2_decimalSum_97 rfl (lv_at hl 1 rfl) ?_
          refine jcut (a := ∀ (b80 : Int32) (ib80 : iv b80 0 1) (H : Heap) (locs : List Loc) (hK : va_K (dC, dI) vwCl [(y0, .int)] s) (hP : va_P (dC, dI) vwCl [(h0, .inr (2, [.ref h1, .ref h2, .ref h3, .int x2, .int x3, .int x4, .int x5, .int b6])), (h1, .inl (y0, 16, .inl f0))] H) (hD : va_D A [(h0, .inr (2, [.ref h1, .ref h2, .ref h3, .int x2, .int x3, .int x4, .int x5, .int b6])), (h1, .inl (y0, 16, .inl f0))]) (hS : va_S A s.heap H locs) (ls : Array Slot) (hl : lv_has ls 8 [(5, .int b75), (0, .ref h0)]), W p l e (headSpec (Cond.code yX2_decimalSum cX2_decimalSum 8 (some .int) :: lw_G) ({ frames := 1, cells := 0, slots := 0, locals := 25 })).room s m ar below meth c H locs 0 0 Q (F0 m 106 ls [.int b80, .int b75, .ref h0])) ?_ (fun j81 => ?_)
          · skip
            intro b80 ib80 H locs hK hP hD hS ls hl
            refine lv_aload_n hx hb dX2_decimalSum_106 rfl (lv_at hl 1 rfl) ?_
            refine va_get (D := (dC, dI)) (ci := 2) (v := .ref h1) (C := RX2) (T := TX2) (N := 8) hx hb hG inGX2 hown hK hP 0 rfl rfl 0 (by decide) (hG _ wd_149) (fun _ h9 => h9) rfl dX2_decimalSum_107 ?_
            refine lv_iconst (v := 2) hx hb dX2_decimalSum_110 (by decide) ?_
            refine va_iald hx hb hK hP 1 0 rfl rfl (iv_in (by decide : iv 2 2 2) (by decide) (by decide) : vp_in 2 16) dX2_decimalSum_111 ?_
            refine lv_topi (fun v82 ev82 => ?_)
            refine lv_sipush (v := 256) hx hb dX2_decimalSum_112 (by decide) ?_
            refine lv_iand hx hb dX2_decimalSum_115 ?_
            refine lv_topi (fun v83 ev83 => ?_)
            have iv83 : iv v83 0 256 := iv_eq ev83 (iv_and (x := v82) (iv_w (by decide : iv 256 256 256) (by decide) (by decide) : iv 256 0 256))
            refine jcut (a := ∀ (b86 : Int32) (ib86 : iv b86 0 1) (H : Heap) (locs : List Loc) (hK : va_K (dC, dI) vwCl [(y0, .int)] s) (hP : va_P (dC, dI) vwCl [(h0, .inr (2, [.ref h1, .ref h2, .ref h3, .int x2, .int x3, .int x4, .int x5, .int b6])), (h1, .inl (y0, 16, .inl f0))] H) (hD : va_D A [(h0, .inr (2, [.ref h1, .ref h2, .ref h3, .int x2, .int x3, .int x4, .int x5, .int b6])), (h1, .inl (y0, 16, .inl f0))]) (hS : va_S A s.heap H locs) (ls : Array Slot) (hl : lv_has ls 8 [(5, .int b75)]), W p l e (headSpec (Cond.code yX2_decimalSum cX2_decimalSum 8 (some .int) :: lw_G) ({ frames := 1, cells := 0, slots := 0, locals := 25 })).room s m ar below meth c H locs 0 0 Q (F0 m 124 ls [.int b86, .int b80, .int b75, .ref h0])) ?_ (fun j87 => ?_)
            · skip
              intro b86 ib86 H locs hK hP hD hS ls hl
              obtain ⟨hPc, hDc, hFc⟩ := nv_sub3 (wc := [(h0, .inr (2, [.ref h1, .ref h2, .ref h3, .int x2, .int x3, .int x4, .int x5, .int b6])), (h1, .inl (y0, 16, .inl f0))]) hP hD hS hA [0, 1] (by decide) rfl
              have hKc := hK.sub (tys' := [(y0, .int)]) [0] rfl
              refine va_callv (va_runV (As := [.int b75, .int b80, .int b86]) (rest := []) ⟨hx, hb, hml, hown, hG⟩ (cX2_putFlags_1 l dC dI h0 h1 h2 h3 y0 H.size b75 b80 b86 x2 x3 x4 x5 b6 f0 ib80 ib86 ib6) (cwV 3 hG (gV wd_1048 wd_1050 wp_41 wd_6 wd_1051) rfl rfl rfl (by decide +kernel) ⟨Nat.le_of_ble_eq_true rfl, Nat.le_of_ble_eq_true rfl⟩) ⟨fun a U g mk q => by obtain ⟨q0, q1, qP, qK, qD⟩ := q; exact ⟨q0, q1, qP, va_K.moved (u := U) (U := U.calling g mk a) (Vm.Alike.refl U.vm) qK, qD⟩, va_recv hKc hPc (ci := 2) (q0 := 0) rfl rfl, fun U hU hW => ⟨rfl, by rw [hU], by rw [hU]; exact hPc, va_K.moved hW.alike hKc, hDc.weaken (fun _ _ _ _ => trivial)⟩⟩ rfl rfl hl.1 rfl (lv_room (Nat.le_of_ble_eq_true rfl)) dX2_decimalSum_124 ⟨by decide, by decide⟩) hS (fun q _ h => hFc q h) hFc (fun u89 t H1 locs ht hvm hw hB hz1 hk1 hS => ?_)
              obtain ⟨u89_0, u89_1⟩ := u89
              have hw : iv u89_0 0 1 ∧ True := hw
              obtain ⟨iu89_0, -⟩ := hw
              obtain ⟨hP1, hK1, hD1⟩ := hB
              rw [ht] at hP1
              have hK1 := va_K.moved hvm.symm hK1
              obtain ⟨hP, hD⟩ := nv_join (wf := [(h0, .inr (2, [.ref h1, .ref h2, .ref h3, .int x2, .int x3, .int x4, .int x5, .int u89_0])), (h1, .inl (y0, 16, .inl u89_1))]) hP hD [0, 1] [] rfl rfl (by decide) (by decide) hk1 hFc hP1 hD1 rfl
              have hK := (hK.sub (tys' := []) [] rfl).app hK1
              generalize H1 = H at hP hS ⊢
              have hK : va_K (dC, dI) vwCl [(y0, .int)] s := hK
              refine lv_iload hx hb dX2_decimalSum_127 (lv_at hl 0 rfl) ?_
              rw [hQ]
              obtain ⟨hP9, hD9⟩ := nv_sub2 (wc := [(h0, .inr (2, [.ref h1, .ref h2, .ref h3, .int x2, .int x3, .int x4, .int x5, .int u89_0])), (h1, .inl (y0, 16, .inl u89_1))]) hP hD [0, 1] (by decide) rfl
              have hK9 := hK.sub (tys' := [(y0, .int)]) [0] rfl
              exact W.iret (v := b75) hx hb hr (fun t ht hW => ⟨⟨b75, (u89_0, u89_1), rfl, ⟨iv_w ib75 (by decide) (by decide), iv_w iu89_0 (by decide) (by decide), trivial⟩, by rw [ht]; exact hP9, va_K.moved hW.alike hK9, hD9⟩, hS.F ht⟩) hS.2.2 dX2_decimalSum_129
            refine lv_if_eq (tgt := 123) hx hb dX2_decimalSum_116 (by decide) (fun c84 => ?_) (fun c84 => ?_)
            · skip
              subst c84
              refine lv_iconst (v := 0) hx hb dX2_decimalSum_123 (by decide) ?_
              exact j87 0 (iv_w (by decide : iv 0 0 0) (by decide) (by decide)) _ _ hK hP hD hS ls (lv_sub hl [0] rfl)
            · skip
              have j90 : iv v83 1 256 := iv_neLo iv83 (by decide : iv 0 0 0) c84 (by decide)
              refine lv_iconst (v := 1) hx hb dX2_decimalSum_119 (by decide) ?_
              refine lv_goto (tgt := 124) hx hb dX2_decimalSum_120 (by decide) ?_
              exact j87 1 (iv_w (by decide : iv 1 1 1) (by decide) (by decide)) _ _ hK hP hD hS ls (lv_sub hl [0] rfl)
          refine lv_if_eq (tgt := 105) hx hb dX2_decimalSum_98 (by decide) (fun c78 => ?_) (fun c78 => ?_)
          · skip
            subst c78
            refine lv_iconst (v := 0) hx hb dX2_decimalSum_105 (by decide) ?_
            exact j81 0 (iv_w (by decide : iv 0 0 0) (by decide) (by decide)) _ _ hK hP hD hS ls (lv_sub hl [0, 2] rfl)
          · skip
            have j91 : iv b76 1 1 := iv_neLo ib76 (by decide : iv 0 0 0) c78 (by decide)
            refine lv_iconst (v := 1) hx hb dX2_decimalSum_101 (by decide) ?_
            refine lv_goto (tgt := 106) hx hb dX2_decimalSum_102 (by decide) ?_
            exact j81 1 (iv_w (by decide : iv 1 1 1) (by decide) (by decide)) _ _ hK hP hD hS ls (lv_sub hl [0, 2] rfl)
        refine lv_icmp_ge (tgt := 94) hx hb dX2_decimalSum_35 (by decide) (fun c39 => ?_) (fun c39 => ?_)
        · skip
          have j92 : iv b5 8 8 := iv_leL ib5 (by decide : iv 8 8 8) c39 (by decide)
          exact j77 v38 b32 (iv_w iv38 (by decide) (by decide)) ib32 _ _ hK hP hD hS ls (lv_sub hl [1, 2, 5] rfl)
        · skip
          have j93 : iv b5 9 16 := iv_nleL ib5 (by decide : iv 8 8 8) c39 (by decide)
          refine lv_iload_n hx hb dX2_decimalSum_38 rfl (lv_at hl 6 rfl) ?_
          refine lv_iload hx hb dX2_decimalSum_39 (lv_at hl 0 rfl) ?_
          refine lv_ishr hx hb dX2_decimalSum_41 ?_
          refine lv_topi (fun v94 ev94 => ?_)
          have iv94 : iv v94 (-8388608) 8388607 := iv_eq ev94 (iv_shr 8 (by decide) (iv_any x0) (by decide) (by decide))
          refine lv_bipush (v := 15) hx hb dX2_decimalSum_42 (by decide) ?_
          refine lv_iand hx hb dX2_decimalSum_44 ?_
          refine lv_topi (fun v95 ev95 => ?_)
          have iv95 : iv v95 0 15 := iv_eq ev95 (iv_and (x := v94) (iv_w (by decide : iv 15 15 15) (by decide) (by decide) : iv 15 0 15))
          refine lv_iload_n hx hb dX2_decimalSum_45 rfl (lv_at hl 7 rfl) ?_
          refine lv_iload hx hb dX2_decimalSum_46 (lv_at hl 0 rfl) ?_
          refine lv_ishr hx hb dX2_decimalSum_48 ?_
          refine lv_topi (fun v96 ev96 => ?_)
          have iv96 : iv v96 (-8388608) 8388607 := iv_eq ev96 (iv_shr 8 (by decide) (iv_any x1) (by decide) (by decide))
          refine lv_bipush (v := 15) hx hb dX2_decimalSum_49 (by decide) ?_
          refine lv_iand hx hb dX2_decimalSum_51 ?_
          refine lv_topi (fun v97 ev97 => ?_)
          have iv97 : iv v97 0 15 := iv_eq ev97 (iv_and (x := v96) (iv_w (by decide : iv 15 15 15) (by decide) (by decide) : iv 15 0 15))
          refine lv_iadd hx hb dX2_decimalSum_52 ?_
          refine lv_topi (fun v98 ev98 => ?_)
          have iv98 : iv v98 0 30 := iv_eq ev98 (iv_add iv95 iv97 (by decide) (by decide))
          refine lv_iload_n hx hb dX2_decimalSum_53 rfl (lv_at hl 2 rfl) ?_
          refine lv_iadd hx hb dX2_decimalSum_54 ?_
          refine lv_topi (fun v99 ev99 => ?_)
          have iv99 : iv v99 0 31 := iv_eq ev99 (iv_add iv98 ib32 (by decide) (by decide))
          refine lv_istore (lv' := [(7, .int v99), (6, .int 8), (5, .int v38), (3, .int b32), (4, .int b5), (0, .ref h0), (1, .int x0), (2, .int x1)]) hx hb dX2_decimalSum_55 hl (by decide) rfl (fun ls hl => ?_)
          refine lv_iload hx hb dX2_decimalSum_57 (lv_at hl 0 rfl) ?_
          refine lv_bipush (v := 9) hx hb dX2_decimalSum_59 (by decide) ?_
          refine jcut (a := ∀ (b103 : Int32) (ib103 : iv b103 0 1) (H : Heap) (locs : List Loc) (hK : va_K (dC, dI) vwCl [(y0, .int)] s) (hP : va_P (dC, dI) vwCl [(h0, .inr (2, [.ref h1, .ref h2, .ref h3, .int x2, .int x3, .int x4, .int x5, .int b6])), (h1, .inl (y0, 16, .inl f0))] H) (hD : va_D A [(h0, .inr (2, [.ref h1, .ref h2, .ref h3, .int x2, .int x3, .int x4, .int x5, .int b6])), (h1, .inl (y0, 16, .inl f0))]) (hS : va_S A s.heap H locs) (ls : Array Slot) (hl : lv_has ls 8 [(7, .int v99), (6, .int 8), (5, .int v38), (4, .int b5), (0, .ref h0), (1, .int x0), (2, .int x1)]), W p l e (headSpec (Cond.code yX2_decimalSum cX2_decimalSum 8 (some .int) :: lw_G) ({ frames := 1, cells := 0, slots := 0, locals := 25 })).room s m ar below meth c H locs 0 0 Q (F0 m 69 ls [.int b103])) ?_ (fun j104 => ?_)
          · skip
            intro b103 ib103 H locs hK hP hD hS ls hl
            refine lv_istore_n (lv' := [(3, .int b103), (7, .int v99), (6, .int 8), (5, .int v38), (4, .int b5), (0, .ref h0), (1, .int x0), (2, .int x1)]) hx hb dX2_decimalSum_69 rfl hl (by decide) rfl (fun ls hl => ?_)
            refine lv_iload hx hb dX2_decimalSum_70 (lv_at hl 3 rfl) ?_
            refine lv_iload hx hb dX2_decimalSum_72 (lv_at hl 1 rfl) ?_
            refine lv_bipush (v := 10) hx hb dX2_decimalSum_74 (by decide) ?_
            refine lv_iload_n hx hb dX2_decimalSum_76 rfl (lv_at hl 0 rfl) ?_
            refine lv_imul hx hb dX2_decimalSum_77 ?_
            refine lv_topi (fun v105 ev105 => ?_)
            have iv105 : iv v105 0 10 := iv_eq ev105 (iv_mul (by decide : iv 10 10 10) ib103 (by decide) (by decide) (by decide))
            refine lv_isub hx hb dX2_decimalSum_78 ?_
            refine lv_topi (fun v106 ev106 => ?_)
            have iv106 : iv v106 (-10) 31 := iv_eq ev106 (iv_sub iv99 iv105 (by decide) (by decide))
            refine lv_bipush (v := 15) hx hb dX2_decimalSum_79 (by decide) ?_
            refine lv_iand hx hb dX2_decimalSum_81 ?_
            refine lv_topi (fun v107 ev107 => ?_)
            have iv107 : iv v107 0 15 := iv_eq ev107 (iv_and (x := v106) (iv_w (by decide : iv 15 15 15) (by decide) (by decide) : iv 15 0 15))
            refine lv_iload hx hb dX2_decimalSum_82 (lv_at hl 2 rfl) ?_
            refine lv_ishl hx hb dX2_decimalSum_84 ?_
            refine lv_topi (fun v108 ev108 => ?_)
            have iv108 : iv v108 0 3840 := iv_eq ev108 (iv_shl 8 (by decide) iv107 (by decide) (by decide) (by decide) (by decide))
            refine lv_ior hx hb dX2_decimalSum_85 ?_
            refine lv_topi (fun v109 ev109 => ?_)
            have iv109 : iv v109 0 4095 := iv_eq ev109 (iv_or 12 (iv_w iv38 (by decide) (by decide) : iv v38 0 255) (iv_w iv108 (by decide) (by decide) : iv v108 0 3840) (by decide) (by decide) (by decide))
            refine lv_istore (lv' := [(5, .int v109), (3, .int b103), (7, .int v99), (6, .int 8), (4, .int b5), (0, .ref h0), (1, .int x0), (2, .int x1)]) hx hb dX2_decimalSum_86 hl (by decide) rfl (fun ls hl => ?_)
            refine lv_iinc (v := 12) (lv' := [(6, .int 12), (5, .int v109), (3, .int b103), (7, .int v99), (4, .int b5), (0, .ref h0), (1, .int x0), (2, .int x1)]) hx hb dX2_decimalSum_88 hl (k := 3) rfl (by decide) (by decide) rfl (fun ls hl => ?_)
            refine lv_goto (tgt := 31) hx hb dX2_decimalSum_91 (by decide) ?_
            refine lv_iload hx hb dX2_decimalSum_31 (lv_at hl 0 rfl) ?_
            refine lv_iload hx hb dX2_decimalSum_33 (lv_at hl 4 rfl) ?_
            refine lv_icmp_ge (tgt := 94) hx hb dX2_decimalSum_35 (by decide) (fun c110 => ?_) (fun c110 => ?_)
            · skip
              have j111 : iv b5 9 12 := iv_leL j93 (by decide : iv 12 12 12) c110 (by decide)
              exact j77 v109 b103 (iv_w iv109 (by decide) (by decide)) ib103 _ _ hK hP hD hS ls (lv_sub hl [1, 2, 5] rfl)
            · skip
              have j112 : iv b5 13 16 := iv_nleL j93 (by decide : iv 12 12 12) c110 (by decide)
              refine lv_iload_n hx hb dX2_decimalSum_38 rfl (lv_at hl 6 rfl) ?_
              refine lv_iload hx hb dX2_decimalSum_39 (lv_at hl 0 rfl) ?_
              refine lv_ishr hx hb dX2_decimalSum_41 ?_
              refine lv_topi (fun v113 ev113 => ?_)
              have iv113 : iv v113 (-524288) 524287 := iv_eq ev113 (iv_shr 12 (by decide) (iv_any x0) (by decide) (by decide))
              refine lv_bipush (v := 15) hx hb dX2_decimalSum_42 (by decide) ?_
              refine lv_iand hx hb dX2_decimalSum_44 ?_
              refine lv_topi (fun v114 ev114 => ?_)
              have iv114 : iv v114 0 15 := iv_eq ev114 (iv_and (x := v113) (iv_w (by decide : iv 15 15 15) (by decide) (by decide) : iv 15 0 15))
              refine lv_iload_n hx hb dX2_decimalSum_45 rfl (lv_at hl 7 rfl) ?_
              refine lv_iload hx hb dX2_decimalSum_46 (lv_at hl 0 rfl) ?_
              refine lv_ishr hx hb dX2_decimalSum_48 ?_
              refine lv_topi (fun v115 ev115 => ?_)
              have iv115 : iv v115 (-524288) 524287 := iv_eq ev115 (iv_shr 12 (by decide) (iv_any x1) (by decide) (by decide))
              refine lv_bipush (v := 15) hx hb dX2_decimalSum_49 (by decide) ?_
              refine lv_iand hx hb dX2_decimalSum_51 ?_
              refine lv_topi (fun v116 ev116 => ?_)
              have iv116 : iv v116 0 15 := iv_eq ev116 (iv_and (x := v115) (iv_w (by decide : iv 15 15 15) (by decide) (by decide) : iv 15 0 15))
              refine lv_iadd hx hb dX2_decimalSum_52 ?_
              refine lv_topi (fun v117 ev117 => ?_)
              have iv117 : iv v117 0 30 := iv_eq ev117 (iv_add iv114 iv116 (by decide) (by decide))
              refine lv_iload_n hx hb dX2_decimalSum_53 rfl (lv_at hl 2 rfl) ?_
              refine lv_iadd hx hb dX2_decimalSum_54 ?_
              refine lv_topi (fun v118 ev118 => ?_)
              have iv118 : iv v118 0 31 := iv_eq ev118 (iv_add iv117 ib103 (by decide) (by decide))
              refine lv_istore (lv' := [(7, .int v118), (6, .int 12), (5, .int v109), (3, .int b103), (4, .int b5), (0, .ref h0), (1, .int x0), (2, .int x1)]) hx hb dX2_decimalSum_55 hl (by decide) rfl (fun ls hl => ?_)
              refine lv_iload hx hb dX2_decimalSum_57 (lv_at hl 0 rfl) ?_
              refine lv_bipush (v := 9) hx hb dX2_decimalSum_59 (by decide) ?_
              refine jcut (a := ∀ (b122 : Int32) (ib122 : iv b122 0 1) (H : Heap) (locs : List Loc) (hK : va_K (dC, dI) vwCl [(y0, .int)] s) (hP : va_P (dC, dI) vwCl [(h0, .inr (2, [.ref h1, .ref h2, .ref h3, .int x2, .int x3, .int x4, .int x5, .int b6])), (h1, .inl (y0, 16, .inl f0))] H) (hD : va_D A [(h0, .inr (2, [.ref h1, .ref h2, .ref h3, .int x2, .int x3, .int x4, .int x5, .int b6])), (h1, .inl (y0, 16, .inl f0))]) (hS : va_S A s.heap H locs) (ls : Array Slot) (hl : lv_has ls 8 [(7, .int v118), (6, .int 12), (5, .int v109), (4, .int b5), (0, .ref h0), (1, .int x0), (2, .int x1)]), W p l e (headSpec (Cond.code yX2_decimalSum cX2_decimalSum 8 (some .int) :: lw_G) ({ frames := 1, cells := 0, slots := 0, locals := 25 })).room s m ar below meth c H locs 0 0 Q (F0 m 69 ls [.int b122])) ?_ (fun j123 => ?_)
              · skip
                intro b122 ib122 H locs hK hP hD hS ls hl
                refine lv_istore_n (lv' := [(3, .int b122), (7, .int v118), (6, .int 12), (5, .int v109), (4, .int b5), (0, .ref h0), (1, .int x0), (2, .int x1)]) hx hb dX2_decimalSum_69 rfl hl (by decide) rfl (fun ls hl => ?_)
                refine lv_iload hx hb dX2_decimalSum_70 (lv_at hl 3 rfl) ?_
                refine lv_iload hx hb dX2_decimalSum_72 (lv_at hl 1 rfl) ?_
                refine lv_bipush (v := 10) hx hb dX2_decimalSum_74 (by decide) ?_
                refine lv_iload_n hx hb dX2_decimalSum_76 rfl (lv_at hl 0 rfl) ?_
                refine lv_imul hx hb dX2_decimalSum_77 ?_
                refine lv_topi (fun v124 ev124 => ?_)
                have iv124 : iv v124 0 10 := iv_eq ev124 (iv_mul (by decide : iv 10 10 10) ib122 (by decide) (by decide) (by decide))
                refine lv_isub hx hb dX2_decimalSum_78 ?_
                refine lv_topi (fun v125 ev125 => ?_)
                have iv125 : iv v125 (-10) 31 := iv_eq ev125 (iv_sub iv118 iv124 (by decide) (by decide))
                refine lv_bipush (v := 15) hx hb dX2_decimalSum_79 (by decide) ?_
                refine lv_iand hx hb dX2_decimalSum_81 ?_
                refine lv_topi (fun v126 ev126 => ?_)
                have iv126 : iv v126 0 15 := iv_eq ev126 (iv_and (x := v125) (iv_w (by decide : iv 15 15 15) (by decide) (by decide) : iv 15 0 15))
                refine lv_iload hx hb dX2_decimalSum_82 (lv_at hl 2 rfl) ?_
                refine lv_ishl hx hb dX2_decimalSum_84 ?_
                refine lv_topi (fun v127 ev127 => ?_)
                have iv127 : iv v127 0 61440 := iv_eq ev127 (iv_shl 12 (by decide) iv126 (by decide) (by decide) (by decide) (by decide))
                refine lv_ior hx hb dX2_decimalSum_85 ?_
                refine lv_topi (fun v128 ev128 => ?_)
                have iv128 : iv v128 0 65535 := iv_eq ev128 (iv_or 16 (iv_w iv109 (by decide) (by decide) : iv v109 0 4095) (iv_w iv127 (by decide) (by decide) : iv v127 0 61440) (by decide) (by decide) (by decide))
                refine lv_istore (lv' := [(5, .int v128), (3, .int b122), (7, .int v118), (6, .int 12), (4, .int b5), (0, .ref h0), (1, .int x0), (2, .int x1)]) hx hb dX2_decimalSum_86 hl (by decide) rfl (fun ls hl => ?_)
                refine lv_iinc (v := 16) (lv' := [(6, .int 16), (5, .int v128), (3, .int b122), (7, .int v118), (4, .int b5), (0, .ref h0), (1, .int x0), (2, .int x1)]) hx hb dX2_decimalSum_88 hl (k := 3) rfl (by decide) (by decide) rfl (fun ls hl => ?_)
                refine lv_goto (tgt := 31) hx hb dX2_decimalSum_91 (by decide) ?_
                refine lv_iload hx hb dX2_decimalSum_31 (lv_at hl 0 rfl) ?_
                refine lv_iload hx hb dX2_decimalSum_33 (lv_at hl 4 rfl) ?_
                refine lv_icmp_ge (tgt := 94) hx hb dX2_decimalSum_35 (by decide) (fun _ => ?_) (fun c => absurd (iv_le j112 (by decide : iv 16 16 16) (by decide)) c)
                exact j77 v128 b122 iv128 ib122 _ _ hK hP hD hS ls (lv_sub hl [1, 2, 5] rfl)
              refine lv_icmp_le (tgt := 68) hx hb dX2_decimalSum_61 (by decide) (fun c119 => ?_) (fun c119 => ?_)
              · skip
                have j129 : iv v118 0 9 := iv_leL iv118 (by decide : iv 9 9 9) c119 (by decide)
                refine lv_iconst (v := 0) hx hb dX2_decimalSum_68 (by decide) ?_
                exact j123 0 (iv_w (by decide : iv 0 0 0) (by decide) (by decide)) _ _ hK hP hD hS ls (lv_sub hl [0, 1, 2, 4, 5, 6, 7] rfl)
              · skip
                have j130 : iv v118 10 31 := iv_nleL iv118 (by decide : iv 9 9 9) c119 (by decide)
                refine lv_iconst (v := 1) hx hb dX2_decimalSum_64 (by decide) ?_
                refine lv_goto (tgt := 69) hx hb dX2_decimalSum_65 (by decide) ?_
                exact j123 1 (iv_w (by decide : iv 1 1 1) (by decide) (by decide)) _ _ hK hP hD hS ls (lv_sub hl [0, 1, 2, 4, 5, 6, 7] rfl)
          refine lv_icmp_le (tgt := 68) hx hb dX2_decimalSum_61 (by decide) (fun c100 => ?_) (fun c100 => ?_)
          · skip
            have j131 : iv v99 0 9 := iv_leL iv99 (by decide : iv 9 9 9) c100 (by decide)
            refine lv_iconst (v := 0) hx hb dX2_decimalSum_68 (by decide) ?_
            exact j104 0 (iv_w (by decide : iv 0 0 0) (by decide) (by decide)) _ _ hK hP hD hS ls (lv_sub hl [0, 1, 2, 4, 5, 6, 7] rfl)
          · skip
            have j132 : iv v99 10 31 := iv_nleL iv99 (by decide : iv 9 9 9) c100 (by decide)
            refine lv_iconst (v := 1) hx hb dX2_decimalSum_64 (by decide) ?_
            refine lv_goto (tgt := 69) hx hb dX2_decimalSum_65 (by decide) ?_
            exact j104 1 (iv_w (by decide : iv 1 1 1) (by decide) (by decide)) _ _ hK hP hD hS ls (lv_sub hl [0, 1, 2, 4, 5, 6, 7] rfl)
      refine lv_icmp_le (tgt := 68) hx hb dX2_decimalSum_61 (by decide) (fun c29 => ?_) (fun c29 => ?_)
      · skip
        have j133 : iv v28 0 9 := iv_leL iv28 (by decide : iv 9 9 9) c29 (by decide)
        refine lv_iconst (v := 0) hx hb dX2_decimalSum_68 (by decide) ?_
        exact j33 0 (iv_w (by decide : iv 0 0 0) (by decide) (by decide)) _ _ hK hP hD hS ls (lv_sub hl [0, 1, 2, 4, 5, 6, 7] rfl)
      · skip
        have j134 : iv v28 10 31 := iv_nleL iv28 (by decide : iv 9 9 9) c29 (by decide)
        refine lv_iconst (v := 1) hx hb dX2_decimalSum_64 (by decide) ?_
        refine lv_goto (tgt := 69) hx hb dX2_decimalSum_65 (by decide) ?_
        exact j33 1 (iv_w (by decide : iv 1 1 1) (by decide) (by decide)) _ _ hK hP hD hS ls (lv_sub hl [0, 1, 2, 4, 5, 6, 7] rfl)
    refine lv_icmp_le (tgt := 68) hx hb dX2_decimalSum_61 (by decide) (fun c14 => ?_) (fun c14 => ?_)
    · skip
      have j135 : iv v13 0 9 := iv_leL iv13 (by decide : iv 9 9 9) c14 (by decide)
      refine lv_iconst (v := 0) hx hb dX2_decimalSum_68 (by decide) ?_
      exact j18 0 (iv_w (by decide : iv 0 0 0) (by decide) (by decide)) _ _ hK hP hD hS ls (lv_sub hl [0, 1, 2, 3, 5, 6, 7] rfl)
    · skip
      have j136 : iv v13 10 31 := iv_nleL iv13 (by decide : iv 9 9 9) c14 (by decide)
      refine lv_iconst (v := 1) hx hb dX2_decimalSum_64 (by decide) ?_
      refine lv_goto (tgt := 69) hx hb dX2_decimalSum_65 (by decide) ?_
      exact j18 1 (iv_w (by decide : iv 1 1 1) (by decide) (by decide)) _ _ hK hP hD hS ls (lv_sub hl [0, 1, 2, 3, 5, 6, 7] rfl)
  refine lv_if_eq (tgt := 21) hx hb dX2_decimalSum_13 (by decide) (fun c3 => ?_) (fun c3 => ?_)
  · skip
    subst c3
    refine lv_bipush (v := 16) hx hb dX2_decimalSum_21 (by decide) ?_
    exact j7 16 0 (iv_w (by decide : iv 16 16 16) (by decide) (by decide)) (iv_w (by decide : iv 0 0 0) (by decide) (by decide)) _ _ hK hP hD hS ls hl
  · skip
    have j137 : iv x6 1 1 := iv_neLo ix6 (by decide : iv 0 0 0) c3 (by decide)
    refine lv_bipush (v := 8) hx hb dX2_decimalSum_16 (by decide) ?_
    refine lv_goto (tgt := 23) hx hb dX2_decimalSum_18 (by decide) ?_
    exact j7 8 x6 (iv_w (by decide : iv 8 8 8) (by decide) (by decide)) (iv_w j137 (by decide) (by decide)) _ _ hK hP hD hS ls hl
set_option maxHeartbeats 100000000 in
set_option maxRecDepth 100000 in
theorem cX2_exclusive_1 (l : Launch) (dC : Nat → ClassId) (dI : Nat → Nat → Nat) (h0 h1 h2 h3 : Nat) (y0 : ClassId) (sz : Nat) (x0 x1 x2 x3 x4 x5 x6 : Int32) (f0 : Nat → Int32) (ix6 : iv x6 0 1) : Met l yX2_exclusive (Cond.code yX2_exclusive cX2_exclusive 5 (some .int) :: lw_G) ({ frames := 1, cells := 0, slots := 0, locals := 25 }) (va_Pc [.ref h0, .int x0, .int x1] (fun U => U.heap.size = sz ∧ va_P (dC, dI) vwCl [(h0, .inr (2, [.ref h1, .ref h2, .ref h3, .int x2, .int x3, .int x4, .int x5, .int x6])), (h1, .inl (y0, 16, .inl f0))] U.heap ∧ va_K (dC, dI) vwCl [(y0, .int)] U ∧ va_D (fun _ => True) [(h0, .inr (2, [.ref h1, .ref h2, .ref h3, .int x2, .int x3, .int x4, .int x5, .int x6])), (h1, .inl (y0, 16, .inl f0))])) (va_Qi (fun (r : Int32) (u : Int32 × (Nat → Int32)) => iv u.1 0 1 ∧ True) (fun (u : Int32 × (Nat → Int32)) (t : State) => va_P (dC, dI) vwCl [(h0, .inr (2, [.ref h1, .ref h2, .ref h3, .int x2, .int x3, .int x4, .int x5, .int u.1])), (h1, .inl (y0, 16, .inl u.2))] t.heap ∧ va_K (dC, dI) vwCl [(y0, .int)] t ∧ va_D (va_A [(h0, .inr (2, [.ref h1, .ref h2, .ref h3, .int x2, .int x3, .int x4, .int x5, .int x6])), (h1, .inl (y0, 16, .inl f0))] sz) [(h0, .inr (2, [.ref h1, .ref h2, .ref h3, .int x2, .int x3, .int x4, .int x5, .int u.1])), (h1, .inl (y0, 16, .inl u.2))]) (va_A [(h0, .inr (2, [.ref h1, .ref h2, .ref h3, .int x2, .int x3, .int x4, .int x5, .int x6])), (h1, .inl (y0, 16, .inl f0))] sz)) 0 0 (va_A [(h0, .inr (2, [.ref h1, .ref h2, .ref h3, .int x2, .int x3, .int x4, .int x5, .int x6])), (h1, .inl (y0, 16, .inl f0))] sz) := by
  refine Met.ofW (cc := cX2_exclusive) (maxL := 5) (ret := (some .int)) (by decide) rfl ?_
  intro p e s m args below meth c s₁ B hml hv
  obtain ⟨rfl, hsz, hP, hK, hD0⟩ := hv
  have hx := B.exec
  have hb := B.bytes
  have hr := B.returns
  have hts0 := atoms_spec (ws := Cond.code yX2_exclusive cX2_exclusive 5 (some .int) :: lw_G) B.pre
  have hG : ∀ w ∈ lw_G, w.before _ s = true := fun w h => hts0 w (List.mem_cons_of_mem _ h)
  have hown : s.vm.findClass RX2 = some m.cls := findClass_of_methodNamed B.named
  have hlocks := B.notSynchronized
  subst hsz
  have hD := hD0.self (sz := s.heap.size)
  generalize hAe : va_A [(h0, .inr (2, [.ref h1, .ref h2, .ref h3, .int x2, .int x3, .int x4, .int x5, .int x6])), (h1, .inl (y0, 16, .inl f0))] s.heap.size = A at hD ⊢
  have hA : ∀ q : Nat, s.heap.size ≤ q → A q := fun q h => by rw [← hAe]; exact Or.inr h
  have hS : va_S A s.heap s.heap [] := va_S.rf
  have hP : va_P (dC, dI) vwCl [(h0, .inr (2, [.ref h1, .ref h2, .ref h3, .int x2, .int x3, .int x4, .int x5, .int x6])), (h1, .inl (y0, 16, .inl f0))] s.heap := hP
  have hl := lv_entry ([.ref h0, .int x0, .int x1]) (n := 5) (Nat.le_of_ble_eq_true rfl)
  rw [lg_entry_eq]
  generalize (lg_sl ([.ref h0, .int x0, .int x1]) ++ List.replicate (5 - (lg_sl ([.ref h0, .int x0, .int x1])).length) Slot.unset).toArray = ls at hl ⊢
  have hl : lv_has ls 5 [(0, .ref h0), (1, .int x0), (2, .int x1)] := hl
  generalize ([.ref h0, .int x0, .int x1] : List Value).toArray = ar at hG ⊢
  refine wq (fun Q hQ => ?_)
  refine lv_aload_n hx hb dX2_exclusive_0 rfl (lv_at hl 0 rfl) ?_
  refine va_get (D := (dC, dI)) (ci := 2) (v := .int x6) (C := RX2) (T := TX2) (N := 8) hx hb hG inGX2 hown hK hP 0 rfl rfl 7 (by decide) (hG _ wd_156) (fun _ h9 => h9) rfl dX2_exclusive_1 ?_
  refine jcut (a := ∀ (b3 : Int32) (b4 : Int32) (ib3 : iv b3 128 32768) (ib4 : iv b4 0 1) (H : Heap) (locs : List Loc) (hK : va_K (dC, dI) vwCl [(y0, .int)] s) (hP : va_P (dC, dI) vwCl [(h0, .inr (2, [.ref h1, .ref h2, .ref h3, .int x2, .int x3, .int x4, .int x5, .int b4])), (h1, .inl (y0, 16, .inl f0))] H) (hD : va_D A [(h0, .inr (2, [.ref h1, .ref h2, .ref h3, .int x2, .int x3, .int x4, .int x5, .int b4])), (h1, .inl (y0, 16, .inl f0))]) (hS : va_S A s.heap H locs) (ls : Array Slot) (hl : lv_has ls 5 [(0, .ref h0), (1, .int x0), (2, .int x1)]), W p l e (headSpec (Cond.code yX2_exclusive cX2_exclusive 5 (some .int) :: lw_G) ({ frames := 1, cells := 0, slots := 0, locals := 25 })).room s m ar below meth c H locs 0 0 Q (F0 m 15 ls [.int b3])) ?_ (fun j5 => ?_)
  · skip
    intro b3 b4 ib3 ib4 H locs hK hP hD hS ls hl
    refine lv_istore_n (lv' := [(3, .int b3), (0, .ref h0), (1, .int x0), (2, .int x1)]) hx hb dX2_exclusive_15 rfl hl (by decide) rfl (fun ls hl => ?_)
    refine lv_iload_n hx hb dX2_exclusive_16 rfl (lv_at hl 2 rfl) ?_
    refine lv_iload_n hx hb dX2_exclusive_17 rfl (lv_at hl 3 rfl) ?_
    refine lv_ixor hx hb dX2_exclusive_18 ?_
    refine lv_topi (fun v6 ev6 => ?_)
    refine lv_istore (lv' := [(4, .int v6), (3, .int b3), (0, .ref h0), (1, .int x0), (2, .int x1)]) hx hb dX2_exclusive_19 hl (by decide) rfl (fun ls hl => ?_)
    refine lv_aload_n hx hb dX2_exclusive_21 rfl (lv_at hl 2 rfl) ?_
    refine lv_iload hx hb dX2_exclusive_22 (lv_at hl 0 rfl) ?_
    refine lv_iload hx hb dX2_exclusive_24 (lv_at hl 0 rfl) ?_
    refine jcut (a := ∀ (b8 : Int32) (b9 : Int32) (ib8 : iv b8 0 1) (H : Heap) (locs : List Loc) (hK : va_K (dC, dI) vwCl [(y0, .int)] s) (hP : va_P (dC, dI) vwCl [(h0, .inr (2, [.ref h1, .ref h2, .ref h3, .int x2, .int x3, .int x4, .int x5, .int b4])), (h1, .inl (y0, 16, .inl f0))] H) (hD : va_D A [(h0, .inr (2, [.ref h1, .ref h2, .ref h3, .int x2, .int x3, .int x4, .int x5, .int b4])), (h1, .inl (y0, 16, .inl f0))]) (hS : va_S A s.heap H locs) (ls : Array Slot) (hl : lv_has ls 5 [(4, .int b9), (3, .int b3), (1, .int x0), (2, .int x1)]), W p l e (headSpec (Cond.code yX2_exclusive cX2_exclusive 5 (some .int) :: lw_G) ({ frames := 1, cells := 0, slots := 0, locals := 25 })).room s m ar below meth c H locs 0 0 Q (F0 m 34 ls [.int b8, .int b9, .ref h0])) ?_ (fun j10 => ?_)
    · skip
      intro b8 b9 ib8 H locs hK hP hD hS ls hl
      refine lv_iload_n hx hb dX2_exclusive_34 rfl (lv_at hl 2 rfl) ?_
      refine lv_iload_n hx hb dX2_exclusive_35 rfl (lv_at hl 3 rfl) ?_
      refine lv_iand hx hb dX2_exclusive_36 ?_
      refine lv_topi (fun v11 ev11 => ?_)
      refine lv_iload_n hx hb dX2_exclusive_37 rfl (lv_at hl 1 rfl) ?_
      refine lv_iand hx hb dX2_exclusive_38 ?_
      refine lv_topi (fun v12 ev12 => ?_)
      have iv12 : iv v12 0 32768 := iv_eq ev12 (iv_and (x := v11) (iv_w ib3 (by decide) (by decide) : iv b3 0 32768))
      refine jcut (a := ∀ (b15 : Int32) (ib15 : iv b15 0 1) (H : Heap) (locs : List Loc) (hK : va_K (dC, dI) vwCl [(y0, .int)] s) (hP : va_P (dC, dI) vwCl [(h0, .inr (2, [.ref h1, .ref h2, .ref h3, .int x2, .int x3, .int x4, .int x5, .int b4])), (h1, .inl (y0, 16, .inl f0))] H) (hD : va_D A [(h0, .inr (2, [.ref h1, .ref h2, .ref h3, .int x2, .int x3, .int x4, .int x5, .int b4])), (h1, .inl (y0, 16, .inl f0))]) (hS : va_S A s.heap H locs) (ls : Array Slot) (hl : lv_has ls 5 [(4, .int b9)]), W p l e (headSpec (Cond.code yX2_exclusive cX2_exclusive 5 (some .int) :: lw_G) ({ frames := 1, cells := 0, slots := 0, locals := 25 })).room s m ar below meth c H locs 0 0 Q (F0 m 47 ls [.int b15, .int b8, .int b9, .ref h0])) ?_ (fun j16 => ?_)
      · skip
        intro b15 ib15 H locs hK hP hD hS ls hl
        obtain ⟨hPc, hDc, hFc⟩ := nv_sub3 (wc := [(h0, .inr (2, [.ref h1, .ref h2, .ref h3, .int x2, .int x3, .int x4, .int x5, .int b4])), (h1, .inl (y0, 16, .inl f0))]) hP hD hS hA [0, 1] (by decide) rfl
        have hKc := hK.sub (tys' := [(y0, .int)]) [0] rfl
        refine va_callv (va_runV (As := [.int b9, .int b8, .int b15]) (rest := []) ⟨hx, hb, hml, hown, hG⟩ (cX2_putFlags_1 l dC dI h0 h1 h2 h3 y0 H.size b9 b8 b15 x2 x3 x4 x5 b4 f0 ib8 ib15 ib4) (cwV 3 hG (gV wd_1048 wd_1050 wp_41 wd_6 wd_1051) rfl rfl rfl (by decide +kernel) ⟨Nat.le_of_ble_eq_true rfl, Nat.le_of_ble_eq_true rfl⟩) ⟨fun a U g mk q => by obtain ⟨q0, q1, qP, qK, qD⟩ := q; exact ⟨q0, q1, qP, va_K.moved (u := U) (U := U.calling g mk a) (Vm.Alike.refl U.vm) qK, qD⟩, va_recv hKc hPc (ci := 2) (q0 := 0) rfl rfl, fun U hU hW => ⟨rfl, by rw [hU], by rw [hU]; exact hPc, va_K.moved hW.alike hKc, hDc.weaken (fun _ _ _ _ => trivial)⟩⟩ rfl rfl hl.1 rfl (lv_room (Nat.le_of_ble_eq_true rfl)) dX2_exclusive_47 ⟨by decide, by decide⟩) hS (fun q _ h => hFc q h) hFc (fun u18 t H1 locs ht hvm hw hB hz1 hk1 hS => ?_)
        obtain ⟨u18_0, u18_1⟩ := u18
        have hw : iv u18_0 0 1 ∧ True := hw
        obtain ⟨iu18_0, -⟩ := hw
        obtain ⟨hP1, hK1, hD1⟩ := hB
        rw [ht] at hP1
        have hK1 := va_K.moved hvm.symm hK1
        obtain ⟨hP, hD⟩ := nv_join (wf := [(h0, .inr (2, [.ref h1, .ref h2, .ref h3, .int x2, .int x3, .int x4, .int x5, .int u18_0])), (h1, .inl (y0, 16, .inl u18_1))]) hP hD [0, 1] [] rfl rfl (by decide) (by decide) hk1 hFc hP1 hD1 rfl
        have hK := (hK.sub (tys' := []) [] rfl).app hK1
        generalize H1 = H at hP hS ⊢
        have hK : va_K (dC, dI) vwCl [(y0, .int)] s := hK
        refine lv_iload hx hb dX2_exclusive_50 (lv_at hl 0 rfl) ?_
        rw [hQ]
        obtain ⟨hP9, hD9⟩ := nv_sub2 (wc := [(h0, .inr (2, [.ref h1, .ref h2, .ref h3, .int x2, .int x3, .int x4, .int x5, .int u18_0])), (h1, .inl (y0, 16, .inl u18_1))]) hP hD [0, 1] (by decide) rfl
        have hK9 := hK.sub (tys' := [(y0, .int)]) [0] rfl
        exact W.iret (v := b9) hx hb hr (fun t ht hW => ⟨⟨b9, (u18_0, u18_1), rfl, ⟨iv_w iu18_0 (by decide) (by decide), trivial⟩, by rw [ht]; exact hP9, va_K.moved hW.alike hK9, hD9⟩, hS.F ht⟩) hS.2.2 dX2_exclusive_52
      refine lv_if_eq (tgt := 46) hx hb dX2_exclusive_39 (by decide) (fun c13 => ?_) (fun c13 => ?_)
      · skip
        subst c13
        refine lv_iconst (v := 0) hx hb dX2_exclusive_46 (by decide) ?_
        exact j16 0 (iv_w (by decide : iv 0 0 0) (by decide) (by decide)) _ _ hK hP hD hS ls (lv_sub hl [0] rfl)
      · skip
        have j19 : iv v12 1 32768 := iv_neLo iv12 (by decide : iv 0 0 0) c13 (by decide)
        refine lv_iconst (v := 1) hx hb dX2_exclusive_42 (by decide) ?_
        refine lv_goto (tgt := 47) hx hb dX2_exclusive_43 (by decide) ?_
        exact j16 1 (iv_w (by decide : iv 1 1 1) (by decide) (by decide)) _ _ hK hP hD hS ls (lv_sub hl [0] rfl)
    refine lv_if_eq (tgt := 33) hx hb dX2_exclusive_26 (by decide) (fun c7 => ?_) (fun c7 => ?_)
    · skip
      subst c7
      refine lv_iconst (v := 0) hx hb dX2_exclusive_33 (by decide) ?_
      exact j10 0 0 (iv_w (by decide : iv 0 0 0) (by decide) (by decide)) _ _ hK hP hD hS ls (lv_sub hl [0, 1, 3, 4] rfl)
    · skip
      refine lv_iconst (v := 1) hx hb dX2_exclusive_29 (by decide) ?_
      refine lv_goto (tgt := 34) hx hb dX2_exclusive_30 (by decide) ?_
      exact j10 1 v6 (iv_w (by decide : iv 1 1 1) (by decide) (by decide)) _ _ hK hP hD hS ls (lv_sub hl [0, 1, 3, 4] rfl)
  refine lv_if_eq (tgt := 13) hx hb dX2_exclusive_4 (by decide) (fun c1 => ?_) (fun c1 => ?_)
  · skip
    subst c1
    refine lv_ldc hx hb hown (hG _ wd_1047) dX2_exclusive_13 ?_
    exact j5 32768 0 (iv_w (by decide : iv 32768 32768 32768) (by decide) (by decide)) (iv_w (by decide : iv 0 0 0) (by decide) (by decide)) _ _ hK hP hD hS ls hl
  · skip
    have j20 : iv x6 1 1 := iv_neLo ix6 (by decide : iv 0 0 0) c1 (by decide)
    refine lv_sipush (v := 128) hx hb dX2_exclusive_7 (by decide) ?_
    refine lv_goto (tgt := 15) hx hb dX2_exclusive_10 (by decide) ?_
    exact j5 128 x6 (iv_w (by decide : iv 128 128 128) (by decide) (by decide)) (iv_w j20 (by decide) (by decide)) _ _ hK hP hD hS ls hl
set_option maxHeartbeats 100000000 in
set_option maxRecDepth 100000 in
theorem cX2_compute_1 (l : Launch) (dC : Nat → ClassId) (dI : Nat → Nat → Nat) (h0 h1 h2 h3 : Nat) (y0 : ClassId) (sz : Nat) (x0 x1 x2 x3 x4 x5 x6 x7 : Int32) (f0 : Nat → Int32) (ix7 : iv x7 0 1) : Met l yX2_compute (Cond.code yX2_compute cX2_compute 6 (some .int) :: lw_G) ({ frames := 2, cells := 0, slots := 0, locals := 52 }) (va_Pc [.ref h0, .int x0, .int x1, .int x2] (fun U => U.heap.size = sz ∧ va_P (dC, dI) vwCl [(h0, .inr (2, [.ref h1, .ref h2, .ref h3, .int x3, .int x4, .int x5, .int x6, .int x7])), (h1, .inl (y0, 16, .inl f0))] U.heap ∧ va_K (dC, dI) vwCl [(y0, .int)] U ∧ va_D (fun _ => True) [(h0, .inr (2, [.ref h1, .ref h2, .ref h3, .int x3, .int x4, .int x5, .int x6, .int x7])), (h1, .inl (y0, 16, .inl f0))])) (va_Qi (fun (r : Int32) (u : Int32 × (Nat → Int32)) => iv u.1 0 1 ∧ True) (fun (u : Int32 × (Nat → Int32)) (t : State) => va_P (dC, dI) vwCl [(h0, .inr (2, [.ref h1, .ref h2, .ref h3, .int x3, .int x4, .int x5, .int x6, .int u.1])), (h1, .inl (y0, 16, .inl u.2))] t.heap ∧ va_K (dC, dI) vwCl [(y0, .int)] t ∧ va_D (va_A [(h0, .inr (2, [.ref h1, .ref h2, .ref h3, .int x3, .int x4, .int x5, .int x6, .int x7])), (h1, .inl (y0, 16, .inl f0))] sz) [(h0, .inr (2, [.ref h1, .ref h2, .ref h3, .int x3, .int x4, .int x5, .int x6, .int u.1])), (h1, .inl (y0, 16, .inl u.2))]) (va_A [(h0, .inr (2, [.ref h1, .ref h2, .ref h3, .int x3, .int x4, .int x5, .int x6, .int x7])), (h1, .inl (y0, 16, .inl f0))] sz)) 0 0 (va_A [(h0, .inr (2, [.ref h1, .ref h2, .ref h3, .int x3, .int x4, .int x5, .int x6, .int x7])), (h1, .inl (y0, 16, .inl f0))] sz) := by
  refine Met.ofW (cc := cX2_compute) (maxL := 6) (ret := (some .int)) (by decide) rfl ?_
  intro p e s m args below meth c s₁ B hml hv
  obtain ⟨rfl, hsz, hP, hK, hD0⟩ := hv
  have hx := B.exec
  have hb := B.bytes
  have hr := B.returns
  have hts0 := atoms_spec (ws := Cond.code yX2_compute cX2_compute 6 (some .int) :: lw_G) B.pre
  have hG : ∀ w ∈ lw_G, w.before _ s = true := fun w h => hts0 w (List.mem_cons_of_mem _ h)
  have hown : s.vm.findClass RX2 = some m.cls := findClass_of_methodNamed B.named
  have hlocks := B.notSynchronized
  subst hsz
  have hD := hD0.self (sz := s.heap.size)
  generalize hAe : va_A [(h0, .inr (2, [.ref h1, .ref h2, .ref h3, .int x3, .int x4, .int x5, .int x6, .int x7])), (h1, .inl (y0, 16, .inl f0))] s.heap.size = A at hD ⊢
  have hA : ∀ q : Nat, s.heap.size ≤ q → A q := fun q h => by rw [← hAe]; exact Or.inr h
  have hS : va_S A s.heap s.heap [] := va_S.rf
  have hP : va_P (dC, dI) vwCl [(h0, .inr (2, [.ref h1, .ref h2, .ref h3, .int x3, .int x4, .int x5, .int x6, .int x7])), (h1, .inl (y0, 16, .inl f0))] s.heap := hP
  have hl := lv_entry ([.ref h0, .int x0, .int x1, .int x2]) (n := 6) (Nat.le_of_ble_eq_true rfl)
  rw [lg_entry_eq]
  generalize (lg_sl ([.ref h0, .int x0, .int x1, .int x2]) ++ List.replicate (6 - (lg_sl ([.ref h0, .int x0, .int x1, .int x2])).length) Slot.unset).toArray = ls at hl ⊢
  have hl : lv_has ls 6 [(0, .ref h0), (1, .int x0), (2, .int x1), (3, .int x2)] := hl
  generalize ([.ref h0, .int x0, .int x1, .int x2] : List Value).toArray = ar at hG ⊢
  refine wq (fun Q hQ => ?_)
  refine lv_aload_n hx hb dX2_compute_0 rfl (lv_at hl 0 rfl) ?_
  refine va_get (D := (dC, dI)) (ci := 2) (v := .int x7) (C := RX2) (T := TX2) (N := 8) hx hb hG inGX2 hown hK hP 0 rfl rfl 7 (by decide) (hG _ wd_156) (fun _ h9 => h9) rfl dX2_compute_1 ?_
  refine jcut (a := ∀ (b3 : Int32) (b4 : Int32) (ib3 : iv b3 255 65535) (ib4 : iv b4 0 1) (H : Heap) (locs : List Loc) (hK : va_K (dC, dI) vwCl [(y0, .int)] s) (hP : va_P (dC, dI) vwCl [(h0, .inr (2, [.ref h1, .ref h2, .ref h3, .int x3, .int x4, .int x5, .int x6, .int b4])), (h1, .inl (y0, 16, .inl f0))] H) (hD : va_D A [(h0, .inr (2, [.ref h1, .ref h2, .ref h3, .int x3, .int x4, .int x5, .int x6, .int b4])), (h1, .inl (y0, 16, .inl f0))]) (hS : va_S A s.heap H locs) (ls : Array Slot) (hl : lv_has ls 6 [(0, .ref h0), (1, .int x0), (2, .int x1), (3, .int x2)]), W p l e (headSpec (Cond.code yX2_compute cX2_compute 6 (some .int) :: lw_G) ({ frames := 2, cells := 0, slots := 0, locals := 52 })).room s m ar below meth c H locs 0 0 Q (F0 m 15 ls [.int b3])) ?_ (fun j5 => ?_)
  · skip
    intro b3 b4 ib3 ib4 H locs hK hP hD hS ls hl
    refine lv_istore (lv' := [(4, .int b3), (0, .ref h0), (1, .int x0), (2, .int x1), (3, .int x2)]) hx hb dX2_compute_15 hl (by decide) rfl (fun ls hl => ?_)
    refine lv_aload_n hx hb dX2_compute_17 rfl (lv_at hl 1 rfl) ?_
    refine va_get (D := (dC, dI)) (ci := 2) (v := .ref h1) (C := RX2) (T := TX2) (N := 8) hx hb hG inGX2 hown hK hP 0 rfl rfl 0 (by decide) (hG _ wd_149) (fun _ h9 => h9) rfl dX2_compute_18 ?_
    refine lv_iconst (v := 2) hx hb dX2_compute_21 (by decide) ?_
    refine va_iald hx hb hK hP 1 0 rfl rfl (iv_in (by decide : iv 2 2 2) (by decide) (by decide) : vp_in 2 16) dX2_compute_22 ?_
    refine lv_topi (fun v6 ev6 => ?_)
    refine lv_iconst (v := 1) hx hb dX2_compute_23 (by decide) ?_
    refine lv_iand hx hb dX2_compute_24 ?_
    refine lv_topi (fun v7 ev7 => ?_)
    have iv7 : iv v7 0 1 := iv_eq ev7 (iv_and (x := v6) (iv_w (by decide : iv 1 1 1) (by decide) (by decide) : iv 1 0 1))
    refine lv_istore (lv' := [(5, .int v7), (4, .int b3), (0, .ref h0), (1, .int x0), (2, .int x1), (3, .int x2)]) hx hb dX2_compute_25 hl (by decide) rfl (fun ls hl => ?_)
    refine lv_iload_n hx hb dX2_compute_27 rfl (lv_at hl 3 rfl) ?_
    have s8x : (x0.toInt < 4 ∨ 14 < x0.toInt) ∨ x0 = 4 ∨ x0 = 5 ∨ x0 = 6 ∨ x0 = 7 ∨ x0 = 8 ∨ x0 = 9 ∨ x0 = 10 ∨ x0 = 11 ∨ x0 = 12 ∨ x0 = 13 ∨ x0 = 14 := by
      have h1 := (iv_any x0)
      have : (x0.toInt < 4 ∨ 14 < x0.toInt) ∨ x0.toInt = 4 ∨ x0.toInt = 5 ∨ x0.toInt = 6 ∨ x0.toInt = 7 ∨ x0.toInt = 8 ∨ x0.toInt = 9 ∨ x0.toInt = 10 ∨ x0.toInt = 11 ∨ x0.toInt = 12 ∨ x0.toInt = 13 ∨ x0.toInt = 14 := by omega
      rcases this with q | q | q | q | q | q | q | q | q | q | q | q
      · exact Or.inl q
      · exact Or.inr (Or.inl (Int32.toInt_inj.mp q))
      · exact Or.inr (Or.inr (Or.inl (Int32.toInt_inj.mp q)))
      · exact Or.inr (Or.inr (Or.inr (Or.inl (Int32.toInt_inj.mp q))))
      · exact Or.inr (Or.inr (Or.inr (Or.inr (Or.inl (Int32.toInt_inj.mp q)))))
      · exact Or.inr (Or.inr (Or.inr (Or.inr (Or.inr (Or.inl (Int32.toInt_inj.mp q))))))
      · exact Or.inr (Or.inr (Or.inr (Or.inr (Or.inr (Or.inr (Or.inl (Int32.toInt_inj.mp q)))))))
      · exact Or.inr (Or.inr (Or.inr (Or.inr (Or.inr (Or.inr (Or.inr (Or.inl (Int32.toInt_inj.mp q))))))))
      · exact Or.inr (Or.inr (Or.inr (Or.inr (Or.inr (Or.inr (Or.inr (Or.inr (Or.inl (Int32.toInt_inj.mp q)))))))))
      · exact Or.inr (Or.inr (Or.inr (Or.inr (Or.inr (Or.inr (Or.inr (Or.inr (Or.inr (Or.inl (Int32.toInt_inj.mp q))))))))))
      · exact Or.inr (Or.inr (Or.inr (Or.inr (Or.inr (Or.inr (Or.inr (Or.inr (Or.inr (Or.inr (Or.inl (Int32.toInt_inj.mp q)))))))))))
      · exact Or.inr (Or.inr (Or.inr (Or.inr (Or.inr (Or.inr (Or.inr (Or.inr (Or.inr (Or.inr (Or.inr ((Int32.toInt_inj.mp q))))))))))))
    rcases s8x with s8 | rfl | rfl | rfl | rfl | rfl | rfl | rfl | rfl | rfl | rfl | rfl
    · skip
      refine lv_tableOut (tgt := 158) hx hb dX2_compute_28 s8 (by decide) ?_
      refine lv_aload_n hx hb dX2_compute_158 rfl (lv_at hl 2 rfl) ?_
      refine lv_iload_n hx hb dX2_compute_159 rfl (lv_at hl 4 rfl) ?_
      refine lv_iload_n hx hb dX2_compute_160 rfl (lv_at hl 5 rfl) ?_
      obtain ⟨hPc, hDc, hFc⟩ := nv_sub3 (wc := [(h0, .inr (2, [.ref h1, .ref h2, .ref h3, .int x3, .int x4, .int x5, .int x6, .int b4])), (h1, .inl (y0, 16, .inl f0))]) hP hD hS hA [0, 1] (by decide) rfl
      have hKc := hK.sub (tys' := [(y0, .int)]) [0] rfl
      refine va_calli (va_runV (As := [.int x1, .int x2]) (rest := []) ⟨hx, hb, hml, hown, hG⟩ (cX2_common_1 l dC dI h0 h1 h2 h3 y0 H.size x1 x2 x3 x4 x5 x6 b4 f0 ib4) (cwV 2 hG (gV wd_1060 wd_1062 wp_44 wd_6 wd_1063) rfl rfl rfl (by decide +kernel) ⟨Nat.le_of_ble_eq_true rfl, Nat.le_of_ble_eq_true rfl⟩) ⟨fun a U g mk q => by obtain ⟨q0, q1, qP, qK, qD⟩ := q; exact ⟨q0, q1, qP, va_K.moved (u := U) (U := U.calling g mk a) (Vm.Alike.refl U.vm) qK, qD⟩, va_recv hKc hPc (ci := 2) (q0 := 0) rfl rfl, fun U hU hW => ⟨rfl, by rw [hU], by rw [hU]; exact hPc, va_K.moved hW.alike hKc, hDc.weaken (fun _ _ _ _ => trivial)⟩⟩ rfl rfl hl.1 rfl (lv_room (Nat.le_of_ble_eq_true rfl)) dX2_compute_161 ⟨by decide, by decide⟩) hS (fun q _ h => hFc q h) hFc (fun r9 u10 t H1 locs ht hvm hw hB hz1 hk1 hS => ?_)
      obtain ⟨u10_0, u10_1⟩ := u10
      have hw : iv u10_0 0 1 ∧ True := hw
      obtain ⟨iu10_0, -⟩ := hw
      obtain ⟨hP1, hK1, hD1⟩ := hB
      rw [ht] at hP1
      have hK1 := va_K.moved hvm.symm hK1
      obtain ⟨hP, hD⟩ := nv_join (wf := [(h0, .inr (2, [.ref h1, .ref h2, .ref h3, .int x3, .int x4, .int x5, .int x6, .int u10_0])), (h1, .inl (y0, 16, .inl u10_1))]) hP hD [0, 1] [] rfl rfl (by decide) (by decide) hk1 hFc hP1 hD1 rfl
      have hK := (hK.sub (tys' := []) [] rfl).app hK1
      generalize H1 = H at hP hS ⊢
      have hK : va_K (dC, dI) vwCl [(y0, .int)] s := hK
      rw [hQ]
      obtain ⟨hP9, hD9⟩ := nv_sub2 (wc := [(h0, .inr (2, [.ref h1, .ref h2, .ref h3, .int x3, .int x4, .int x5, .int x6, .int u10_0])), (h1, .inl (y0, 16, .inl u10_1))]) hP hD [0, 1] (by decide) rfl
      have hK9 := hK.sub (tys' := [(y0, .int)]) [0] rfl
      exact W.iret (v := r9) hx hb hr (fun t ht hW => ⟨⟨r9, (u10_0, u10_1), rfl, ⟨iv_w iu10_0 (by decide) (by decide), trivial⟩, by rw [ht]; exact hP9, va_K.moved hW.alike hK9, hD9⟩, hS.F ht⟩) hS.2.2 dX2_compute_164
    · skip
      refine lv_tableIn (off := 60) (tgt := 88) hx hb dX2_compute_28 (by decide) (by decide) (by decide) (by decide) ?_
      refine lv_iload_n hx hb dX2_compute_88 rfl (lv_at hl 4 rfl) ?_
      rw [hQ]
      obtain ⟨hP9, hD9⟩ := nv_sub2 (wc := [(h0, .inr (2, [.ref h1, .ref h2, .ref h3, .int x3, .int x4, .int x5, .int x6, .int b4])), (h1, .inl (y0, 16, .inl f0))]) hP hD [0, 1] (by decide) rfl
      have hK9 := hK.sub (tys' := [(y0, .int)]) [0] rfl
      exact W.iret (v := x1) hx hb hr (fun t ht hW => ⟨⟨x1, (b4, f0), rfl, ⟨iv_w ib4 (by decide) (by decide), trivial⟩, by rw [ht]; exact hP9, va_K.moved hW.alike hK9, hD9⟩, hS.F ht⟩) hS.2.2 dX2_compute_89
    · skip
      refine lv_tableIn (off := 62) (tgt := 90) hx hb dX2_compute_28 (by decide) (by decide) (by decide) (by decide) ?_
      refine lv_aload_n hx hb dX2_compute_90 rfl (lv_at hl 2 rfl) ?_
      refine lv_iload_n hx hb dX2_compute_91 rfl (lv_at hl 4 rfl) ?_
      refine lv_iload_n hx hb dX2_compute_92 rfl (lv_at hl 5 rfl) ?_
      refine lv_iconst (v := 0) hx hb dX2_compute_93 (by decide) ?_
      obtain ⟨hPc, hDc, hFc⟩ := nv_sub3 (wc := [(h0, .inr (2, [.ref h1, .ref h2, .ref h3, .int x3, .int x4, .int x5, .int x6, .int b4])), (h1, .inl (y0, 16, .inl f0))]) hP hD hS hA [0, 1] (by decide) rfl
      have hKc := hK.sub (tys' := [(y0, .int)]) [0] rfl
      refine va_calli (va_runV (As := [.int x1, .int x2, .int 0]) (rest := []) ⟨hx, hb, hml, hown, hG⟩ (cX2_sum_1 l dC dI h0 h1 h2 h3 y0 H.size x1 x2 0 x3 x4 x5 x6 b4 f0 ib4) (cwV 3 hG (gV wd_1043 wd_1045 wp_40 wd_6 wd_1046) rfl rfl rfl (by decide +kernel) ⟨Nat.le_of_ble_eq_true rfl, Nat.le_of_ble_eq_true rfl⟩) ⟨fun a U g mk q => by obtain ⟨q0, q1, qP, qK, qD⟩ := q; exact ⟨q0, q1, qP, va_K.moved (u := U) (U := U.calling g mk a) (Vm.Alike.refl U.vm) qK, qD⟩, va_recv hKc hPc (ci := 2) (q0 := 0) rfl rfl, fun U hU hW => ⟨rfl, by rw [hU], by rw [hU]; exact hPc, va_K.moved hW.alike hKc, hDc.weaken (fun _ _ _ _ => trivial)⟩⟩ rfl rfl hl.1 rfl (lv_room (Nat.le_of_ble_eq_true rfl)) dX2_compute_94 ⟨by decide, by decide⟩) hS (fun q _ h => hFc q h) hFc (fun r11 u12 t H1 locs ht hvm hw hB hz1 hk1 hS => ?_)
      obtain ⟨u12_0, u12_1⟩ := u12
      have hw : iv r11 0 65535 ∧ iv u12_0 0 1 ∧ True := hw
      obtain ⟨ir11, iu12_0, -⟩ := hw
      obtain ⟨hP1, hK1, hD1⟩ := hB
      rw [ht] at hP1
      have hK1 := va_K.moved hvm.symm hK1
      obtain ⟨hP, hD⟩ := nv_join (wf := [(h0, .inr (2, [.ref h1, .ref h2, .ref h3, .int x3, .int x4, .int x5, .int x6, .int u12_0])), (h1, .inl (y0, 16, .inl u12_1))]) hP hD [0, 1] [] rfl rfl (by decide) (by decide) hk1 hFc hP1 hD1 rfl
      have hK := (hK.sub (tys' := []) [] rfl).app hK1
      generalize H1 = H at hP hS ⊢
      have hK : va_K (dC, dI) vwCl [(y0, .int)] s := hK
      rw [hQ]
      obtain ⟨hP9, hD9⟩ := nv_sub2 (wc := [(h0, .inr (2, [.ref h1, .ref h2, .ref h3, .int x3, .int x4, .int x5, .int x6, .int u12_0])), (h1, .inl (y0, 16, .inl u12_1))]) hP hD [0, 1] (by decide) rfl
      have hK9 := hK.sub (tys' := [(y0, .int)]) [0] rfl
      exact W.iret (v := r11) hx hb hr (fun t ht hW => ⟨⟨r11, (u12_0, u12_1), rfl, ⟨iv_w iu12_0 (by decide) (by decide), trivial⟩, by rw [ht]; exact hP9, va_K.moved hW.alike hK9, hD9⟩, hS.F ht⟩) hS.2.2 dX2_compute_97
    · skip
      refine lv_tableIn (off := 70) (tgt := 98) hx hb dX2_compute_28 (by decide) (by decide) (by decide) (by decide) ?_
      refine lv_aload_n hx hb dX2_compute_98 rfl (lv_at hl 2 rfl) ?_
      refine lv_iload_n hx hb dX2_compute_99 rfl (lv_at hl 4 rfl) ?_
      refine lv_iload_n hx hb dX2_compute_100 rfl (lv_at hl 5 rfl) ?_
      refine lv_iload hx hb dX2_compute_101 (lv_at hl 0 rfl) ?_
      obtain ⟨hPc, hDc, hFc⟩ := nv_sub3 (wc := [(h0, .inr (2, [.ref h1, .ref h2, .ref h3, .int x3, .int x4, .int x5, .int x6, .int b4])), (h1, .inl (y0, 16, .inl f0))]) hP hD hS hA [0, 1] (by decide) rfl
      have hKc := hK.sub (tys' := [(y0, .int)]) [0] rfl
      refine va_calli (va_runV (As := [.int x1, .int x2, .int v7]) (rest := []) ⟨hx, hb, hml, hown, hG⟩ (cX2_sum_1 l dC dI h0 h1 h2 h3 y0 H.size x1 x2 v7 x3 x4 x5 x6 b4 f0 ib4) (cwV 3 hG (gV wd_1043 wd_1045 wp_40 wd_6 wd_1046) rfl rfl rfl (by decide +kernel) ⟨Nat.le_of_ble_eq_true rfl, Nat.le_of_ble_eq_true rfl⟩) ⟨fun a U g mk q => by obtain ⟨q0, q1, qP, qK, qD⟩ := q; exact ⟨q0, q1, qP, va_K.moved (u := U) (U := U.calling g mk a) (Vm.Alike.refl U.vm) qK, qD⟩, va_recv hKc hPc (ci := 2) (q0 := 0) rfl rfl, fun U hU hW => ⟨rfl, by rw [hU], by rw [hU]; exact hPc, va_K.moved hW.alike hKc, hDc.weaken (fun _ _ _ _ => trivial)⟩⟩ rfl rfl hl.1 rfl (lv_room (Nat.le_of_ble_eq_true rfl)) dX2_compute_103 ⟨by decide, by decide⟩) hS (fun q _ h => hFc q h) hFc (fun r13 u14 t H1 locs ht hvm hw hB hz1 hk1 hS => ?_)
      obtain ⟨u14_0, u14_1⟩ := u14
      have hw : iv r13 0 65535 ∧ iv u14_0 0 1 ∧ True := hw
      obtain ⟨ir13, iu14_0, -⟩ := hw
      obtain ⟨hP1, hK1, hD1⟩ := hB
      rw [ht] at hP1
      have hK1 := va_K.moved hvm.symm hK1
      obtain ⟨hP, hD⟩ := nv_join (wf := [(h0, .inr (2, [.ref h1, .ref h2, .ref h3, .int x3, .int x4, .int x5, .int x6, .int u14_0])), (h1, .inl (y0, 16, .inl u14_1))]) hP hD [0, 1] [] rfl rfl (by decide) (by decide) hk1 hFc hP1 hD1 rfl
      have hK := (hK.sub (tys' := []) [] rfl).app hK1
      generalize H1 = H at hP hS ⊢
      have hK : va_K (dC, dI) vwCl [(y0, .int)] s := hK
      rw [hQ]
      obtain ⟨hP9, hD9⟩ := nv_sub2 (wc := [(h0, .inr (2, [.ref h1, .ref h2, .ref h3, .int x3, .int x4, .int x5, .int x6, .int u14_0])), (h1, .inl (y0, 16, .inl u14_1))]) hP hD [0, 1] (by decide) rfl
      have hK9 := hK.sub (tys' := [(y0, .int)]) [0] rfl
      exact W.iret (v := r13) hx hb hr (fun t ht hW => ⟨⟨r13, (u14_0, u14_1), rfl, ⟨iv_w iu14_0 (by decide) (by decide), trivial⟩, by rw [ht]; exact hP9, va_K.moved hW.alike hK9, hD9⟩, hS.F ht⟩) hS.2.2 dX2_compute_106
    · skip
      refine lv_tableIn (off := 79) (tgt := 107) hx hb dX2_compute_28 (by decide) (by decide) (by decide) (by decide) ?_
      refine lv_aload_n hx hb dX2_compute_107 rfl (lv_at hl 2 rfl) ?_
      refine lv_iload_n hx hb dX2_compute_108 rfl (lv_at hl 4 rfl) ?_
      refine lv_iconst (v := (-1)) hx hb dX2_compute_109 (by decide) ?_
      refine lv_ixor hx hb dX2_compute_110 ?_
      refine lv_topi (fun v15 ev15 => ?_)
      refine lv_iload hx hb dX2_compute_111 (lv_at hl 1 rfl) ?_
      refine lv_iand hx hb dX2_compute_113 ?_
      refine lv_topi (fun v16 ev16 => ?_)
      have iv16 : iv v16 0 65535 := iv_eq ev16 (iv_and (x := v15) (iv_w ib3 (by decide) (by decide) : iv b3 0 65535))
      refine lv_iload_n hx hb dX2_compute_114 rfl (lv_at hl 5 rfl) ?_
      refine lv_iload hx hb dX2_compute_115 (lv_at hl 0 rfl) ?_
      obtain ⟨hPc, hDc, hFc⟩ := nv_sub3 (wc := [(h0, .inr (2, [.ref h1, .ref h2, .ref h3, .int x3, .int x4, .int x5, .int x6, .int b4])), (h1, .inl (y0, 16, .inl f0))]) hP hD hS hA [0, 1] (by decide) rfl
      have hKc := hK.sub (tys' := [(y0, .int)]) [0] rfl
      refine va_calli (va_runV (As := [.int v16, .int x2, .int v7]) (rest := []) ⟨hx, hb, hml, hown, hG⟩ (cX2_sum_1 l dC dI h0 h1 h2 h3 y0 H.size v16 x2 v7 x3 x4 x5 x6 b4 f0 ib4) (cwV 3 hG (gV wd_1043 wd_1045 wp_40 wd_6 wd_1046) rfl rfl rfl (by decide +kernel) ⟨Nat.le_of_ble_eq_true rfl, Nat.le_of_ble_eq_true rfl⟩) ⟨fun a U g mk q => by obtain ⟨q0, q1, qP, qK, qD⟩ := q; exact ⟨q0, q1, qP, va_K.moved (u := U) (U := U.calling g mk a) (Vm.Alike.refl U.vm) qK, qD⟩, va_recv hKc hPc (ci := 2) (q0 := 0) rfl rfl, fun U hU hW => ⟨rfl, by rw [hU], by rw [hU]; exact hPc, va_K.moved hW.alike hKc, hDc.weaken (fun _ _ _ _ => trivial)⟩⟩ rfl rfl hl.1 rfl (lv_room (Nat.le_of_ble_eq_true rfl)) dX2_compute_117 ⟨by decide, by decide⟩) hS (fun q _ h => hFc q h) hFc (fun r17 u18 t H1 locs ht hvm hw hB hz1 hk1 hS => ?_)
      obtain ⟨u18_0, u18_1⟩ := u18
      have hw : iv r17 0 65535 ∧ iv u18_0 0 1 ∧ True := hw
      obtain ⟨ir17, iu18_0, -⟩ := hw
      obtain ⟨hP1, hK1, hD1⟩ := hB
      rw [ht] at hP1
      have hK1 := va_K.moved hvm.symm hK1
      obtain ⟨hP, hD⟩ := nv_join (wf := [(h0, .inr (2, [.ref h1, .ref h2, .ref h3, .int x3, .int x4, .int x5, .int x6, .int u18_0])), (h1, .inl (y0, 16, .inl u18_1))]) hP hD [0, 1] [] rfl rfl (by decide) (by decide) hk1 hFc hP1 hD1 rfl
      have hK := (hK.sub (tys' := []) [] rfl).app hK1
      generalize H1 = H at hP hS ⊢
      have hK : va_K (dC, dI) vwCl [(y0, .int)] s := hK
      rw [hQ]
      obtain ⟨hP9, hD9⟩ := nv_sub2 (wc := [(h0, .inr (2, [.ref h1, .ref h2, .ref h3, .int x3, .int x4, .int x5, .int x6, .int u18_0])), (h1, .inl (y0, 16, .inl u18_1))]) hP hD [0, 1] (by decide) rfl
      have hK9 := hK.sub (tys' := [(y0, .int)]) [0] rfl
      exact W.iret (v := r17) hx hb hr (fun t ht hW => ⟨⟨r17, (u18_0, u18_1), rfl, ⟨iv_w iu18_0 (by decide) (by decide), trivial⟩, by rw [ht]; exact hP9, va_K.moved hW.alike hK9, hD9⟩, hS.F ht⟩) hS.2.2 dX2_compute_120
    · skip
      refine lv_tableIn (off := 93) (tgt := 121) hx hb dX2_compute_28 (by decide) (by decide) (by decide) (by decide) ?_
      refine lv_aload_n hx hb dX2_compute_121 rfl (lv_at hl 2 rfl) ?_
      refine lv_iload_n hx hb dX2_compute_122 rfl (lv_at hl 4 rfl) ?_
      refine lv_iconst (v := (-1)) hx hb dX2_compute_123 (by decide) ?_
      refine lv_ixor hx hb dX2_compute_124 ?_
      refine lv_topi (fun v19 ev19 => ?_)
      refine lv_iload hx hb dX2_compute_125 (lv_at hl 1 rfl) ?_
      refine lv_iand hx hb dX2_compute_127 ?_
      refine lv_topi (fun v20 ev20 => ?_)
      have iv20 : iv v20 0 65535 := iv_eq ev20 (iv_and (x := v19) (iv_w ib3 (by decide) (by decide) : iv b3 0 65535))
      refine lv_iload_n hx hb dX2_compute_128 rfl (lv_at hl 5 rfl) ?_
      refine lv_iconst (v := 1) hx hb dX2_compute_129 (by decide) ?_
      obtain ⟨hPc, hDc, hFc⟩ := nv_sub3 (wc := [(h0, .inr (2, [.ref h1, .ref h2, .ref h3, .int x3, .int x4, .int x5, .int x6, .int b4])), (h1, .inl (y0, 16, .inl f0))]) hP hD hS hA [0, 1] (by decide) rfl
      have hKc := hK.sub (tys' := [(y0, .int)]) [0] rfl
      refine va_calli (va_runV (As := [.int v20, .int x2, .int 1]) (rest := []) ⟨hx, hb, hml, hown, hG⟩ (cX2_sum_1 l dC dI h0 h1 h2 h3 y0 H.size v20 x2 1 x3 x4 x5 x6 b4 f0 ib4) (cwV 3 hG (gV wd_1043 wd_1045 wp_40 wd_6 wd_1046) rfl rfl rfl (by decide +kernel) ⟨Nat.le_of_ble_eq_true rfl, Nat.le_of_ble_eq_true rfl⟩) ⟨fun a U g mk q => by obtain ⟨q0, q1, qP, qK, qD⟩ := q; exact ⟨q0, q1, qP, va_K.moved (u := U) (U := U.calling g mk a) (Vm.Alike.refl U.vm) qK, qD⟩, va_recv hKc hPc (ci := 2) (q0 := 0) rfl rfl, fun U hU hW => ⟨rfl, by rw [hU], by rw [hU]; exact hPc, va_K.moved hW.alike hKc, hDc.weaken (fun _ _ _ _ => trivial)⟩⟩ rfl rfl hl.1 rfl (lv_room (Nat.le_of_ble_eq_true rfl)) dX2_compute_130 ⟨by decide, by decide⟩) hS (fun q _ h => hFc q h) hFc (fun r21 u22 t H1 locs ht hvm hw hB hz1 hk1 hS => ?_)
      obtain ⟨u22_0, u22_1⟩ := u22
      have hw : iv r21 0 65535 ∧ iv u22_0 0 1 ∧ True := hw
      obtain ⟨ir21, iu22_0, -⟩ := hw
      obtain ⟨hP1, hK1, hD1⟩ := hB
      rw [ht] at hP1
      have hK1 := va_K.moved hvm.symm hK1
      obtain ⟨hP, hD⟩ := nv_join (wf := [(h0, .inr (2, [.ref h1, .ref h2, .ref h3, .int x3, .int x4, .int x5, .int x6, .int u22_0])), (h1, .inl (y0, 16, .inl u22_1))]) hP hD [0, 1] [] rfl rfl (by decide) (by decide) hk1 hFc hP1 hD1 rfl
      have hK := (hK.sub (tys' := []) [] rfl).app hK1
      generalize H1 = H at hP hS ⊢
      have hK : va_K (dC, dI) vwCl [(y0, .int)] s := hK
      rw [hQ]
      obtain ⟨hP9, hD9⟩ := nv_sub2 (wc := [(h0, .inr (2, [.ref h1, .ref h2, .ref h3, .int x3, .int x4, .int x5, .int x6, .int u22_0])), (h1, .inl (y0, 16, .inl u22_1))]) hP hD [0, 1] (by decide) rfl
      have hK9 := hK.sub (tys' := [(y0, .int)]) [0] rfl
      exact W.iret (v := r21) hx hb hr (fun t ht hW => ⟨⟨r21, (u22_0, u22_1), rfl, ⟨iv_w iu22_0 (by decide) (by decide), trivial⟩, by rw [ht]; exact hP9, va_K.moved hW.alike hK9, hD9⟩, hS.F ht⟩) hS.2.2 dX2_compute_133
    · skip
      refine lv_tableIn (off := 93) (tgt := 121) hx hb dX2_compute_28 (by decide) (by decide) (by decide) (by decide) ?_
      refine lv_aload_n hx hb dX2_compute_121 rfl (lv_at hl 2 rfl) ?_
      refine lv_iload_n hx hb dX2_compute_122 rfl (lv_at hl 4 rfl) ?_
      refine lv_iconst (v := (-1)) hx hb dX2_compute_123 (by decide) ?_
      refine lv_ixor hx hb dX2_compute_124 ?_
      refine lv_topi (fun v23 ev23 => ?_)
      refine lv_iload hx hb dX2_compute_125 (lv_at hl 1 rfl) ?_
      refine lv_iand hx hb dX2_compute_127 ?_
      refine lv_topi (fun v24 ev24 => ?_)
      have iv24 : iv v24 0 65535 := iv_eq ev24 (iv_and (x := v23) (iv_w ib3 (by decide) (by decide) : iv b3 0 65535))
      refine lv_iload_n hx hb dX2_compute_128 rfl (lv_at hl 5 rfl) ?_
      refine lv_iconst (v := 1) hx hb dX2_compute_129 (by decide) ?_
      obtain ⟨hPc, hDc, hFc⟩ := nv_sub3 (wc := [(h0, .inr (2, [.ref h1, .ref h2, .ref h3, .int x3, .int x4, .int x5, .int x6, .int b4])), (h1, .inl (y0, 16, .inl f0))]) hP hD hS hA [0, 1] (by decide) rfl
      have hKc := hK.sub (tys' := [(y0, .int)]) [0] rfl
      refine va_calli (va_runV (As := [.int v24, .int x2, .int 1]) (rest := []) ⟨hx, hb, hml, hown, hG⟩ (cX2_sum_1 l dC dI h0 h1 h2 h3 y0 H.size v24 x2 1 x3 x4 x5 x6 b4 f0 ib4) (cwV 3 hG (gV wd_1043 wd_1045 wp_40 wd_6 wd_1046) rfl rfl rfl (by decide +kernel) ⟨Nat.le_of_ble_eq_true rfl, Nat.le_of_ble_eq_true rfl⟩) ⟨fun a U g mk q => by obtain ⟨q0, q1, qP, qK, qD⟩ := q; exact ⟨q0, q1, qP, va_K.moved (u := U) (U := U.calling g mk a) (Vm.Alike.refl U.vm) qK, qD⟩, va_recv hKc hPc (ci := 2) (q0 := 0) rfl rfl, fun U hU hW => ⟨rfl, by rw [hU], by rw [hU]; exact hPc, va_K.moved hW.alike hKc, hDc.weaken (fun _ _ _ _ => trivial)⟩⟩ rfl rfl hl.1 rfl (lv_room (Nat.le_of_ble_eq_true rfl)) dX2_compute_130 ⟨by decide, by decide⟩) hS (fun q _ h => hFc q h) hFc (fun r25 u26 t H1 locs ht hvm hw hB hz1 hk1 hS => ?_)
      obtain ⟨u26_0, u26_1⟩ := u26
      have hw : iv r25 0 65535 ∧ iv u26_0 0 1 ∧ True := hw
      obtain ⟨ir25, iu26_0, -⟩ := hw
      obtain ⟨hP1, hK1, hD1⟩ := hB
      rw [ht] at hP1
      have hK1 := va_K.moved hvm.symm hK1
      obtain ⟨hP, hD⟩ := nv_join (wf := [(h0, .inr (2, [.ref h1, .ref h2, .ref h3, .int x3, .int x4, .int x5, .int x6, .int u26_0])), (h1, .inl (y0, 16, .inl u26_1))]) hP hD [0, 1] [] rfl rfl (by decide) (by decide) hk1 hFc hP1 hD1 rfl
      have hK := (hK.sub (tys' := []) [] rfl).app hK1
      generalize H1 = H at hP hS ⊢
      have hK : va_K (dC, dI) vwCl [(y0, .int)] s := hK
      rw [hQ]
      obtain ⟨hP9, hD9⟩ := nv_sub2 (wc := [(h0, .inr (2, [.ref h1, .ref h2, .ref h3, .int x3, .int x4, .int x5, .int x6, .int u26_0])), (h1, .inl (y0, 16, .inl u26_1))]) hP hD [0, 1] (by decide) rfl
      have hK9 := hK.sub (tys' := [(y0, .int)]) [0] rfl
      exact W.iret (v := r25) hx hb hr (fun t ht hW => ⟨⟨r25, (u26_0, u26_1), rfl, ⟨iv_w iu26_0 (by decide) (by decide), trivial⟩, by rw [ht]; exact hP9, va_K.moved hW.alike hK9, hD9⟩, hS.F ht⟩) hS.2.2 dX2_compute_133
    · skip
      refine lv_tableIn (off := 106) (tgt := 134) hx hb dX2_compute_28 (by decide) (by decide) (by decide) (by decide) ?_
      refine lv_aload_n hx hb dX2_compute_134 rfl (lv_at hl 2 rfl) ?_
      refine lv_iload_n hx hb dX2_compute_135 rfl (lv_at hl 4 rfl) ?_
      refine lv_iload_n hx hb dX2_compute_136 rfl (lv_at hl 5 rfl) ?_
      obtain ⟨hPc, hDc, hFc⟩ := nv_sub3 (wc := [(h0, .inr (2, [.ref h1, .ref h2, .ref h3, .int x3, .int x4, .int x5, .int x6, .int b4])), (h1, .inl (y0, 16, .inl f0))]) hP hD hS hA [0, 1] (by decide) rfl
      have hKc := hK.sub (tys' := [(y0, .int)]) [0] rfl
      refine va_calli (va_runV (As := [.int x1, .int x2]) (rest := []) ⟨hx, hb, hml, hown, hG⟩ (cX2_decimalSum_1 l dC dI h0 h1 h2 h3 y0 H.size x1 x2 x3 x4 x5 x6 b4 f0 ib4) (cwV 2 hG (gV wd_1052 wd_1054 wp_42 wd_6 wd_1055) rfl rfl rfl (by decide +kernel) ⟨Nat.le_of_ble_eq_true rfl, Nat.le_of_ble_eq_true rfl⟩) ⟨fun a U g mk q => by obtain ⟨q0, q1, qP, qK, qD⟩ := q; exact ⟨q0, q1, qP, va_K.moved (u := U) (U := U.calling g mk a) (Vm.Alike.refl U.vm) qK, qD⟩, va_recv hKc hPc (ci := 2) (q0 := 0) rfl rfl, fun U hU hW => ⟨rfl, by rw [hU], by rw [hU]; exact hPc, va_K.moved hW.alike hKc, hDc.weaken (fun _ _ _ _ => trivial)⟩⟩ rfl rfl hl.1 rfl (lv_room (Nat.le_of_ble_eq_true rfl)) dX2_compute_137 ⟨by decide, by decide⟩) hS (fun q _ h => hFc q h) hFc (fun r27 u28 t H1 locs ht hvm hw hB hz1 hk1 hS => ?_)
      obtain ⟨u28_0, u28_1⟩ := u28
      have hw : iv r27 0 65535 ∧ iv u28_0 0 1 ∧ True := hw
      obtain ⟨ir27, iu28_0, -⟩ := hw
      obtain ⟨hP1, hK1, hD1⟩ := hB
      rw [ht] at hP1
      have hK1 := va_K.moved hvm.symm hK1
      obtain ⟨hP, hD⟩ := nv_join (wf := [(h0, .inr (2, [.ref h1, .ref h2, .ref h3, .int x3, .int x4, .int x5, .int x6, .int u28_0])), (h1, .inl (y0, 16, .inl u28_1))]) hP hD [0, 1] [] rfl rfl (by decide) (by decide) hk1 hFc hP1 hD1 rfl
      have hK := (hK.sub (tys' := []) [] rfl).app hK1
      generalize H1 = H at hP hS ⊢
      have hK : va_K (dC, dI) vwCl [(y0, .int)] s := hK
      rw [hQ]
      obtain ⟨hP9, hD9⟩ := nv_sub2 (wc := [(h0, .inr (2, [.ref h1, .ref h2, .ref h3, .int x3, .int x4, .int x5, .int x6, .int u28_0])), (h1, .inl (y0, 16, .inl u28_1))]) hP hD [0, 1] (by decide) rfl
      have hK9 := hK.sub (tys' := [(y0, .int)]) [0] rfl
      exact W.iret (v := r27) hx hb hr (fun t ht hW => ⟨⟨r27, (u28_0, u28_1), rfl, ⟨iv_w iu28_0 (by decide) (by decide), trivial⟩, by rw [ht]; exact hP9, va_K.moved hW.alike hK9, hD9⟩, hS.F ht⟩) hS.2.2 dX2_compute_140
    · skip
      refine lv_tableIn (off := 130) (tgt := 158) hx hb dX2_compute_28 (by decide) (by decide) (by decide) (by decide) ?_
      refine lv_aload_n hx hb dX2_compute_158 rfl (lv_at hl 2 rfl) ?_
      refine lv_iload_n hx hb dX2_compute_159 rfl (lv_at hl 4 rfl) ?_
      refine lv_iload_n hx hb dX2_compute_160 rfl (lv_at hl 5 rfl) ?_
      obtain ⟨hPc, hDc, hFc⟩ := nv_sub3 (wc := [(h0, .inr (2, [.ref h1, .ref h2, .ref h3, .int x3, .int x4, .int x5, .int x6, .int b4])), (h1, .inl (y0, 16, .inl f0))]) hP hD hS hA [0, 1] (by decide) rfl
      have hKc := hK.sub (tys' := [(y0, .int)]) [0] rfl
      refine va_calli (va_runV (As := [.int x1, .int x2]) (rest := []) ⟨hx, hb, hml, hown, hG⟩ (cX2_common_1 l dC dI h0 h1 h2 h3 y0 H.size x1 x2 x3 x4 x5 x6 b4 f0 ib4) (cwV 2 hG (gV wd_1060 wd_1062 wp_44 wd_6 wd_1063) rfl rfl rfl (by decide +kernel) ⟨Nat.le_of_ble_eq_true rfl, Nat.le_of_ble_eq_true rfl⟩) ⟨fun a U g mk q => by obtain ⟨q0, q1, qP, qK, qD⟩ := q; exact ⟨q0, q1, qP, va_K.moved (u := U) (U := U.calling g mk a) (Vm.Alike.refl U.vm) qK, qD⟩, va_recv hKc hPc (ci := 2) (q0 := 0) rfl rfl, fun U hU hW => ⟨rfl, by rw [hU], by rw [hU]; exact hPc, va_K.moved hW.alike hKc, hDc.weaken (fun _ _ _ _ => trivial)⟩⟩ rfl rfl hl.1 rfl (lv_room (Nat.le_of_ble_eq_true rfl)) dX2_compute_161 ⟨by decide, by decide⟩) hS (fun q _ h => hFc q h) hFc (fun r29 u30 t H1 locs ht hvm hw hB hz1 hk1 hS => ?_)
      obtain ⟨u30_0, u30_1⟩ := u30
      have hw : iv u30_0 0 1 ∧ True := hw
      obtain ⟨iu30_0, -⟩ := hw
      obtain ⟨hP1, hK1, hD1⟩ := hB
      rw [ht] at hP1
      have hK1 := va_K.moved hvm.symm hK1
      obtain ⟨hP, hD⟩ := nv_join (wf := [(h0, .inr (2, [.ref h1, .ref h2, .ref h3, .int x3, .int x4, .int x5, .int x6, .int u30_0])), (h1, .inl (y0, 16, .inl u30_1))]) hP hD [0, 1] [] rfl rfl (by decide) (by decide) hk1 hFc hP1 hD1 rfl
      have hK := (hK.sub (tys' := []) [] rfl).app hK1
      generalize H1 = H at hP hS ⊢
      have hK : va_K (dC, dI) vwCl [(y0, .int)] s := hK
      rw [hQ]
      obtain ⟨hP9, hD9⟩ := nv_sub2 (wc := [(h0, .inr (2, [.ref h1, .ref h2, .ref h3, .int x3, .int x4, .int x5, .int x6, .int u30_0])), (h1, .inl (y0, 16, .inl u30_1))]) hP hD [0, 1] (by decide) rfl
      have hK9 := hK.sub (tys' := [(y0, .int)]) [0] rfl
      exact W.iret (v := r29) hx hb hr (fun t ht hW => ⟨⟨r29, (u30_0, u30_1), rfl, ⟨iv_w iu30_0 (by decide) (by decide), trivial⟩, by rw [ht]; exact hP9, va_K.moved hW.alike hK9, hD9⟩, hS.F ht⟩) hS.2.2 dX2_compute_164
    · skip
      refine lv_tableIn (off := 113) (tgt := 141) hx hb dX2_compute_28 (by decide) (by decide) (by decide) (by decide) ?_
      refine lv_iload_n hx hb dX2_compute_141 rfl (lv_at hl 5 rfl) ?_
      refine lv_iload_n hx hb dX2_compute_142 rfl (lv_at hl 4 rfl) ?_
      refine lv_iconst (v := (-1)) hx hb dX2_compute_143 (by decide) ?_
      refine lv_ixor hx hb dX2_compute_144 ?_
      refine lv_topi (fun v31 ev31 => ?_)
      refine lv_iand hx hb dX2_compute_145 ?_
      refine lv_topi (fun v32 ev32 => ?_)
      rw [hQ]
      obtain ⟨hP9, hD9⟩ := nv_sub2 (wc := [(h0, .inr (2, [.ref h1, .ref h2, .ref h3, .int x3, .int x4, .int x5, .int x6, .int b4])), (h1, .inl (y0, 16, .inl f0))]) hP hD [0, 1] (by decide) rfl
      have hK9 := hK.sub (tys' := [(y0, .int)]) [0] rfl
      exact W.iret (v := v32) hx hb hr (fun t ht hW => ⟨⟨v32, (b4, f0), rfl, ⟨iv_w ib4 (by decide) (by decide), trivial⟩, by rw [ht]; exact hP9, va_K.moved hW.alike hK9, hD9⟩, hS.F ht⟩) hS.2.2 dX2_compute_146
    · skip
      refine lv_tableIn (off := 119) (tgt := 147) hx hb dX2_compute_28 (by decide) (by decide) (by decide) (by decide) ?_
      refine lv_iload_n hx hb dX2_compute_147 rfl (lv_at hl 5 rfl) ?_
      refine lv_iload_n hx hb dX2_compute_148 rfl (lv_at hl 4 rfl) ?_
      refine lv_ior hx hb dX2_compute_149 ?_
      refine lv_topi (fun v33 ev33 => ?_)
      rw [hQ]
      obtain ⟨hP9, hD9⟩ := nv_sub2 (wc := [(h0, .inr (2, [.ref h1, .ref h2, .ref h3, .int x3, .int x4, .int x5, .int x6, .int b4])), (h1, .inl (y0, 16, .inl f0))]) hP hD [0, 1] (by decide) rfl
      have hK9 := hK.sub (tys' := [(y0, .int)]) [0] rfl
      exact W.iret (v := v33) hx hb hr (fun t ht hW => ⟨⟨v33, (b4, f0), rfl, ⟨iv_w ib4 (by decide) (by decide), trivial⟩, by rw [ht]; exact hP9, va_K.moved hW.alike hK9, hD9⟩, hS.F ht⟩) hS.2.2 dX2_compute_150
    · skip
      refine lv_tableIn (off := 123) (tgt := 151) hx hb dX2_compute_28 (by decide) (by decide) (by decide) (by decide) ?_
      refine lv_aload_n hx hb dX2_compute_151 rfl (lv_at hl 2 rfl) ?_
      refine lv_iload_n hx hb dX2_compute_152 rfl (lv_at hl 4 rfl) ?_
      refine lv_iload_n hx hb dX2_compute_153 rfl (lv_at hl 5 rfl) ?_
      obtain ⟨hPc, hDc, hFc⟩ := nv_sub3 (wc := [(h0, .inr (2, [.ref h1, .ref h2, .ref h3, .int x3, .int x4, .int x5, .int x6, .int b4])), (h1, .inl (y0, 16, .inl f0))]) hP hD hS hA [0, 1] (by decide) rfl
      have hKc := hK.sub (tys' := [(y0, .int)]) [0] rfl
      refine va_calli (va_runV (As := [.int x1, .int x2]) (rest := []) ⟨hx, hb, hml, hown, hG⟩ (cX2_exclusive_1 l dC dI h0 h1 h2 h3 y0 H.size x1 x2 x3 x4 x5 x6 b4 f0 ib4) (cwV 2 hG (gV wd_1056 wd_1058 wp_43 wd_6 wd_1059) rfl rfl rfl (by decide +kernel) ⟨Nat.le_of_ble_eq_true rfl, Nat.le_of_ble_eq_true rfl⟩) ⟨fun a U g mk q => by obtain ⟨q0, q1, qP, qK, qD⟩ := q; exact ⟨q0, q1, qP, va_K.moved (u := U) (U := U.calling g mk a) (Vm.Alike.refl U.vm) qK, qD⟩, va_recv hKc hPc (ci := 2) (q0 := 0) rfl rfl, fun U hU hW => ⟨rfl, by rw [hU], by rw [hU]; exact hPc, va_K.moved hW.alike hKc, hDc.weaken (fun _ _ _ _ => trivial)⟩⟩ rfl rfl hl.1 rfl (lv_room (Nat.le_of_ble_eq_true rfl)) dX2_compute_154 ⟨by decide, by decide⟩) hS (fun q _ h => hFc q h) hFc (fun r34 u35 t H1 locs ht hvm hw hB hz1 hk1 hS => ?_)
      obtain ⟨u35_0, u35_1⟩ := u35
      have hw : iv u35_0 0 1 ∧ True := hw
      obtain ⟨iu35_0, -⟩ := hw
      obtain ⟨hP1, hK1, hD1⟩ := hB
      rw [ht] at hP1
      have hK1 := va_K.moved hvm.symm hK1
      obtain ⟨hP, hD⟩ := nv_join (wf := [(h0, .inr (2, [.ref h1, .ref h2, .ref h3, .int x3, .int x4, .int x5, .int x6, .int u35_0])), (h1, .inl (y0, 16, .inl u35_1))]) hP hD [0, 1] [] rfl rfl (by decide) (by decide) hk1 hFc hP1 hD1 rfl
      have hK := (hK.sub (tys' := []) [] rfl).app hK1
      generalize H1 = H at hP hS ⊢
      have hK : va_K (dC, dI) vwCl [(y0, .int)] s := hK
      rw [hQ]
      obtain ⟨hP9, hD9⟩ := nv_sub2 (wc := [(h0, .inr (2, [.ref h1, .ref h2, .ref h3, .int x3, .int x4, .int x5, .int x6, .int u35_0])), (h1, .inl (y0, 16, .inl u35_1))]) hP hD [0, 1] (by decide) rfl
      have hK9 := hK.sub (tys' := [(y0, .int)]) [0] rfl
      exact W.iret (v := r34) hx hb hr (fun t ht hW => ⟨⟨r34, (u35_0, u35_1), rfl, ⟨iv_w iu35_0 (by decide) (by decide), trivial⟩, by rw [ht]; exact hP9, va_K.moved hW.alike hK9, hD9⟩, hS.F ht⟩) hS.2.2 dX2_compute_157
  refine lv_if_eq (tgt := 13) hx hb dX2_compute_4 (by decide) (fun c1 => ?_) (fun c1 => ?_)
  · skip
    subst c1
    refine lv_ldc hx hb hown (hG _ wd_829) dX2_compute_13 ?_
    exact j5 65535 0 (iv_w (by decide : iv 65535 65535 65535) (by decide) (by decide)) (iv_w (by decide : iv 0 0 0) (by decide) (by decide)) _ _ hK hP hD hS ls hl
  · skip
    have j36 : iv x7 1 1 := iv_neLo ix7 (by decide : iv 0 0 0) c1 (by decide)
    refine lv_sipush (v := 255) hx hb dX2_compute_7 (by decide) ?_
    refine lv_goto (tgt := 15) hx hb dX2_compute_10 (by decide) ?_
    exact j5 255 x7 (iv_w (by decide : iv 255 255 255) (by decide) (by decide)) (iv_w j36 (by decide) (by decide)) _ _ hK hP hD hS ls hl
set_option maxHeartbeats 100000000 in
set_option maxRecDepth 100000 in
theorem cX2_two_1 (l : Launch) (dC : Nat → ClassId) (dI : Nat → Nat → Nat) (h0 h1 h2 h3 h4 h5 h6 h7 h8 h9 : Nat) (y0 y1 y2 y3 : ClassId) (sz : Nat) (x0 x1 x2 x3 x4 x5 x6 x7 x8 x9 x10 x11 x12 x13 x14 x15 x16 x17 x18 x19 x20 : Int32) (f0 f1 f2 f3 : Nat → Int32) (ix5 : iv x5 0 1) (ix9 : iv x9 0 1) : Met l yX2_two (Cond.code yX2_two cX2_two 11 (some .int) :: lw_G) ({ frames := 5, cells := 0, slots := 0, locals := 113 }) (va_Pc [.ref h0, .int x0] (fun U => U.heap.size = sz ∧ va_P (dC, dI) vwCl [(h0, .inr (2, [.ref h1, .ref h2, .ref h3, .int x1, .int x2, .int x3, .int x4, .int x5])), (h1, .inl (y0, 16, .inl f0)), (h3, .inr (1, [.ref h4, .ref h5, .ref h6, .ref h7])), (h4, .inl (y1, 32768, .inl f1)), (h7, .inr (9, [.ref h8, .ref h9, .int x6, .int x7, .int x8, .int x9])), (h9, .inl (y2, 3, .inl f2)), (h8, .inl (y3, 3, .inl f3)), (h6, .inr (5, [.int x10, .int x11, .int x12, .int x13, .int x14, .int x15])), (h5, .inr (7, [.int x16, .int x17, .int x18, .int x19, .int x20]))] U.heap ∧ va_K (dC, dI) vwCl [(y0, .int), (y1, .int), (y2, .int), (y3, .int)] U ∧ va_D (fun _ => True) [(h0, .inr (2, [.ref h1, .ref h2, .ref h3, .int x1, .int x2, .int x3, .int x4, .int x5])), (h1, .inl (y0, 16, .inl f0)), (h3, .inr (1, [.ref h4, .ref h5, .ref h6, .ref h7])), (h4, .inl (y1, 32768, .inl f1)), (h7, .inr (9, [.ref h8, .ref h9, .int x6, .int x7, .int x8, .int x9])), (h9, .inl (y2, 3, .inl f2)), (h8, .inl (y3, 3, .inl f3)), (h6, .inr (5, [.int x10, .int x11, .int x12, .int x13, .int x14, .int x15])), (h5, .inr (7, [.int x16, .int x17, .int x18, .int x19, .int x20]))])) (va_Qi (fun (r : Int32) (u : Int32 × Int32 × (Nat → Int32) × (Nat → Int32) × Int32 × Int32 × Int32 × Int32 × (Nat → Int32) × (Nat → Int32) × Int32 × Int32 × Int32 × Int32 × Int32 × Int32 × Int32 × Int32 × Int32 × Int32) => iv r 1 6 ∧ iv u.2.1 0 1 ∧ iv u.2.2.2.2.2.2.2.1 0 1 ∧ True) (fun (u : Int32 × Int32 × (Nat → Int32) × (Nat → Int32) × Int32 × Int32 × Int32 × Int32 × (Nat → Int32) × (Nat → Int32) × Int32 × Int32 × Int32 × Int32 × Int32 × Int32 × Int32 × Int32 × Int32 × Int32) (t : State) => va_P (dC, dI) vwCl [(h0, .inr (2, [.ref h1, .ref h2, .ref h3, .int x1, .int x2, .int x3, .int u.1, .int u.2.1])), (h1, .inl (y0, 16, .inl u.2.2.1)), (h3, .inr (1, [.ref h4, .ref h5, .ref h6, .ref h7])), (h4, .inl (y1, 32768, .inl u.2.2.2.1)), (h7, .inr (9, [.ref h8, .ref h9, .int u.2.2.2.2.1, .int u.2.2.2.2.2.1, .int u.2.2.2.2.2.2.1, .int u.2.2.2.2.2.2.2.1])), (h9, .inl (y2, 3, .inl u.2.2.2.2.2.2.2.2.1)), (h8, .inl (y3, 3, .inl u.2.2.2.2.2.2.2.2.2.1)), (h6, .inr (5, [.int u.2.2.2.2.2.2.2.2.2.2.1, .int u.2.2.2.2.2.2.2.2.2.2.2.1, .int u.2.2.2.2.2.2.2.2.2.2.2.2.1, .int u.2.2.2.2.2.2.2.2.2.2.2.2.2.1, .int u.2.2.2.2.2.2.2.2.2.2.2.2.2.2.1, .int u.2.2.2.2.2.2.2.2.2.2.2.2.2.2.2.1])), (h5, .inr (7, [.int x16, .int u.2.2.2.2.2.2.2.2.2.2.2.2.2.2.2.2.1, .int u.2.2.2.2.2.2.2.2.2.2.2.2.2.2.2.2.2.1, .int u.2.2.2.2.2.2.2.2.2.2.2.2.2.2.2.2.2.2.1, .int u.2.2.2.2.2.2.2.2.2.2.2.2.2.2.2.2.2.2.2]))] t.heap ∧ va_K (dC, dI) vwCl [(y0, .int), (y1, .int), (y2, .int), (y3, .int)] t ∧ va_D (va_A [(h0, .inr (2, [.ref h1, .ref h2, .ref h3, .int x1, .int x2, .int x3, .int x4, .int x5])), (h1, .inl (y0, 16, .inl f0)), (h3, .inr (1, [.ref h4, .ref h5, .ref h6, .ref h7])), (h4, .inl (y1, 32768, .inl f1)), (h7, .inr (9, [.ref h8, .ref h9, .int x6, .int x7, .int x8, .int x9])), (h9, .inl (y2, 3, .inl f2)), (h8, .inl (y3, 3, .inl f3)), (h6, .inr (5, [.int x10, .int x11, .int x12, .int x13, .int x14, .int x15])), (h5, .inr (7, [.int x16, .int x17, .int x18, .int x19, .int x20]))] sz) [(h0, .inr (2, [.ref h1, .ref h2, .ref h3, .int x1, .int x2, .int x3, .int u.1, .int u.2.1])), (h1, .inl (y0, 16, .inl u.2.2.1)), (h3, .inr (1, [.ref h4, .ref h5, .ref h6, .ref h7])), (h4, .inl (y1, 32768, .inl u.2.2.2.1)), (h7, .inr (9, [.ref h8, .ref h9, .int u.2.2.2.2.1, .int u.2.2.2.2.2.1, .int u.2.2.2.2.2.2.1, .int u.2.2.2.2.2.2.2.1])), (h9, .inl (y2, 3, .inl u.2.2.2.2.2.2.2.2.1)), (h8, .inl (y3, 3, .inl u.2.2.2.2.2.2.2.2.2.1)), (h6, .inr (5, [.int u.2.2.2.2.2.2.2.2.2.2.1, .int u.2.2.2.2.2.2.2.2.2.2.2.1, .int u.2.2.2.2.2.2.2.2.2.2.2.2.1, .int u.2.2.2.2.2.2.2.2.2.2.2.2.2.1, .int u.2.2.2.2.2.2.2.2.2.2.2.2.2.2.1, .int u.2.2.2.2.2.2.2.2.2.2.2.2.2.2.2.1])), (h5, .inr (7, [.int x16, .int u.2.2.2.2.2.2.2.2.2.2.2.2.2.2.2.2.1, .int u.2.2.2.2.2.2.2.2.2.2.2.2.2.2.2.2.2.1, .int u.2.2.2.2.2.2.2.2.2.2.2.2.2.2.2.2.2.2.1, .int u.2.2.2.2.2.2.2.2.2.2.2.2.2.2.2.2.2.2.2]))]) (va_A [(h0, .inr (2, [.ref h1, .ref h2, .ref h3, .int x1, .int x2, .int x3, .int x4, .int x5])), (h1, .inl (y0, 16, .inl f0)), (h3, .inr (1, [.ref h4, .ref h5, .ref h6, .ref h7])), (h4, .inl (y1, 32768, .inl f1)), (h7, .inr (9, [.ref h8, .ref h9, .int x6, .int x7, .int x8, .int x9])), (h9, .inl (y2, 3, .inl f2)), (h8, .inl (y3, 3, .inl f3)), (h6, .inr (5, [.int x10, .int x11, .int x12, .int x13, .int x14, .int x15])), (h5, .inr (7, [.int x16, .int x17, .int x18, .int x19, .int x20]))] sz)) 0 0 (va_A [(h0, .inr (2, [.ref h1, .ref h2, .ref h3, .int x1, .int x2, .int x3, .int x4, .int x5])), (h1, .inl (y0, 16, .inl f0)), (h3, .inr (1, [.ref h4, .ref h5, .ref h6, .ref h7])), (h4, .inl (y1, 32768, .inl f1)), (h7, .inr (9, [.ref h8, .ref h9, .int x6, .int x7, .int x8, .int x9])), (h9, .inl (y2, 3, .inl f2)), (h8, .inl (y3, 3, .inl f3)), (h6, .inr (5, [.int x10, .int x11, .int x12, .int x13, .int x14, .int x15])), (h5, .inr (7, [.int x16, .int x17, .int x18, .int x19, .int x20]))] sz) := by
  refine Met.ofW (cc := cX2_two) (maxL := 11) (ret := (some .int)) (by decide) rfl ?_
  intro p e s m args below meth c s₁ B hml hv
  obtain ⟨rfl, hsz, hP, hK, hD0⟩ := hv
  have hx := B.exec
  have hb := B.bytes
  have hr := B.returns
  have hts0 := atoms_spec (ws := Cond.code yX2_two cX2_two 11 (some .int) :: lw_G) B.pre
  have hG : ∀ w ∈ lw_G, w.before _ s = true := fun w h => hts0 w (List.mem_cons_of_mem _ h)
  have hown : s.vm.findClass RX2 = some m.cls := findClass_of_methodNamed B.named
  have hlocks := B.notSynchronized
  subst hsz
  have hD := hD0.self (sz := s.heap.size)
  generalize hAe : va_A [(h0, .inr (2, [.ref h1, .ref h2, .ref h3, .int x1, .int x2, .int x3, .int x4, .int x5])), (h1, .inl (y0, 16, .inl f0)), (h3, .inr (1, [.ref h4, .ref h5, .ref h6, .ref h7])), (h4, .inl (y1, 32768, .inl f1)), (h7, .inr (9, [.ref h8, .ref h9, .int x6, .int x7, .int x8, .int x9])), (h9, .inl (y2, 3, .inl f2)), (h8, .inl (y3, 3, .inl f3)), (h6, .inr (5, [.int x10, .int x11, .int x12, .int x13, .int x14, .int x15])), (h5, .inr (7, [.int x16, .int x17, .int x18, .int x19, .int x20]))] s.heap.size = A at hD ⊢
  have hA : ∀ q : Nat, s.heap.size ≤ q → A q := fun q h => by rw [← hAe]; exact Or.inr h
  have hS : va_S A s.heap s.heap [] := va_S.rf
  have hP : va_P (dC, dI) vwCl [(h0, .inr (2, [.ref h1, .ref h2, .ref h3, .int x1, .int x2, .int x3, .int x4, .int x5])), (h1, .inl (y0, 16, .inl f0)), (h3, .inr (1, [.ref h4, .ref h5, .ref h6, .ref h7])), (h4, .inl (y1, 32768, .inl f1)), (h7, .inr (9, [.ref h8, .ref h9, .int x6, .int x7, .int x8, .int x9])), (h9, .inl (y2, 3, .inl f2)), (h8, .inl (y3, 3, .inl f3)), (h6, .inr (5, [.int x10, .int x11, .int x12, .int x13, .int x14, .int x15])), (h5, .inr (7, [.int x16, .int x17, .int x18, .int x19, .int x20]))] s.heap := hP
  have hl := lv_entry ([.ref h0, .int x0]) (n := 11) (Nat.le_of_ble_eq_true rfl)
  rw [lg_entry_eq]
  generalize (lg_sl ([.ref h0, .int x0]) ++ List.replicate (11 - (lg_sl ([.ref h0, .int x0])).length) Slot.unset).toArray = ls at hl ⊢
  have hl : lv_has ls 11 [(0, .ref h0), (1, .int x0)] := hl
  generalize ([.ref h0, .int x0] : List Value).toArray = ar at hG ⊢
  refine wq (fun Q hQ => ?_)
  refine lv_iload_n hx hb dX2_two_0 rfl (lv_at hl 1 rfl) ?_
  refine lv_bipush (v := 12) hx hb dX2_two_1 (by decide) ?_
  refine lv_ishr hx hb dX2_two_3 ?_
  refine lv_topi (fun v1 ev1 => ?_)
  have iv1 : iv v1 (-524288) 524287 := iv_eq ev1 (iv_shr 12 (by decide) (iv_any x0) (by decide) (by decide))
  refine lv_istore_n (lv' := [(2, .int v1), (0, .ref h0), (1, .int x0)]) hx hb dX2_two_4 rfl hl (by decide) rfl (fun ls hl => ?_)
  refine lv_iload_n hx hb dX2_two_5 rfl (lv_at hl 2 rfl) ?_
  refine lv_bipush (v := 8) hx hb dX2_two_6 (by decide) ?_
  refine lv_ishr hx hb dX2_two_8 ?_
  refine lv_topi (fun v2 ev2 => ?_)
  have iv2 : iv v2 (-8388608) 8388607 := iv_eq ev2 (iv_shr 8 (by decide) (iv_any x0) (by decide) (by decide))
  refine lv_bipush (v := 15) hx hb dX2_two_9 (by decide) ?_
  refine lv_iand hx hb dX2_two_11 ?_
  refine lv_topi (fun v3 ev3 => ?_)
  have iv3 : iv v3 0 15 := iv_eq ev3 (iv_and (x := v2) (iv_w (by decide : iv 15 15 15) (by decide) (by decide) : iv 15 0 15))
  refine lv_istore_n (lv' := [(3, .int v3), (2, .int v1), (0, .ref h0), (1, .int x0)]) hx hb dX2_two_12 rfl hl (by decide) rfl (fun ls hl => ?_)
  refine lv_iload_n hx hb dX2_two_13 rfl (lv_at hl 3 rfl) ?_
  refine lv_iconst (v := 4) hx hb dX2_two_14 (by decide) ?_
  refine lv_ishr hx hb dX2_two_15 ?_
  refine lv_topi (fun v4 ev4 => ?_)
  have iv4 : iv v4 (-134217728) 134217727 := iv_eq ev4 (iv_shr 4 (by decide) (iv_any x0) (by decide) (by decide))
  refine lv_iconst (v := 3) hx hb dX2_two_16 (by decide) ?_
  refine lv_iand hx hb dX2_two_17 ?_
  refine lv_topi (fun v5 ev5 => ?_)
  have iv5 : iv v5 0 3 := iv_eq ev5 (iv_and (x := v4) (iv_w (by decide : iv 3 3 3) (by decide) (by decide) : iv 3 0 3))
  refine lv_istore (lv' := [(4, .int v5), (3, .int v3), (2, .int v1), (0, .ref h0), (1, .int x0)]) hx hb dX2_two_18 hl (by decide) rfl (fun ls hl => ?_)
  refine lv_iload_n hx hb dX2_two_20 rfl (lv_at hl 4 rfl) ?_
  refine lv_bipush (v := 15) hx hb dX2_two_21 (by decide) ?_
  refine lv_iand hx hb dX2_two_23 ?_
  refine lv_topi (fun v6 ev6 => ?_)
  have iv6 : iv v6 0 15 := iv_eq ev6 (iv_and (x := x0) (iv_w (by decide : iv 15 15 15) (by decide) (by decide) : iv 15 0 15))
  refine lv_istore (lv' := [(5, .int v6), (4, .int v5), (3, .int v3), (2, .int v1), (0, .ref h0), (1, .int x0)]) hx hb dX2_two_24 hl (by decide) rfl (fun ls hl => ?_)
  refine lv_iload_n hx hb dX2_two_26 rfl (lv_at hl 5 rfl) ?_
  refine lv_sipush (v := 128) hx hb dX2_two_27 (by decide) ?_
  refine lv_iand hx hb dX2_two_30 ?_
  refine lv_topi (fun v7 ev7 => ?_)
  have iv7 : iv v7 0 128 := iv_eq ev7 (iv_and (x := x0) (iv_w (by decide : iv 128 128 128) (by decide) (by decide) : iv 128 0 128))
  refine jcut (a := ∀ (b10 : Int32) (ib10 : iv b10 0 1) (H : Heap) (locs : List Loc) (hK : va_K (dC, dI) vwCl [(y0, .int), (y1, .int), (y2, .int), (y3, .int)] s) (hP : va_P (dC, dI) vwCl [(h0, .inr (2, [.ref h1, .ref h2, .ref h3, .int x1, .int x2, .int x3, .int x4, .int x5])), (h1, .inl (y0, 16, .inl f0)), (h3, .inr (1, [.ref h4, .ref h5, .ref h6, .ref h7])), (h4, .inl (y1, 32768, .inl f1)), (h7, .inr (9, [.ref h8, .ref h9, .int x6, .int x7, .int x8, .int x9])), (h9, .inl (y2, 3, .inl f2)), (h8, .inl (y3, 3, .inl f3)), (h6, .inr (5, [.int x10, .int x11, .int x12, .int x13, .int x14, .int x15])), (h5, .inr (7, [.int x16, .int x17, .int x18, .int x19, .int x20]))] H) (hD : va_D A [(h0, .inr (2, [.ref h1, .ref h2, .ref h3, .int x1, .int x2, .int x3, .int x4, .int x5])), (h1, .inl (y0, 16, .inl f0)), (h3, .inr (1, [.ref h4, .ref h5, .ref h6, .ref h7])), (h4, .inl (y1, 32768, .inl f1)), (h7, .inr (9, [.ref h8, .ref h9, .int x6, .int x7, .int x8, .int x9])), (h9, .inl (y2, 3, .inl f2)), (h8, .inl (y3, 3, .inl f3)), (h6, .inr (5, [.int x10, .int x11, .int x12, .int x13, .int x14, .int x15])), (h5, .inr (7, [.int x16, .int x17, .int x18, .int x19, .int x20]))]) (hS : va_S A s.heap H locs) (ls : Array Slot) (hl : lv_has ls 11 [(5, .int v6), (4, .int v5), (3, .int v3), (2, .int v1), (0, .ref h0), (1, .int x0)]), W p l e (headSpec (Cond.code yX2_two cX2_two 11 (some .int) :: lw_G) ({ frames := 5, cells := 0, slots := 0, locals := 113 })).room s m ar below meth c H locs 0 0 Q (F0 m 39 ls [.int b10])) ?_ (fun j11 => ?_)
  · skip
    intro b10 ib10 H locs hK hP hD hS ls hl
    refine lv_istore (lv' := [(6, .int b10), (5, .int v6), (4, .int v5), (3, .int v3), (2, .int v1), (0, .ref h0), (1, .int x0)]) hx hb dX2_two_39 hl (by decide) rfl (fun ls hl => ?_)
    refine lv_aload_n hx hb dX2_two_41 rfl (lv_at hl 5 rfl) ?_
    refine lv_iload_n hx hb dX2_two_42 rfl (lv_at hl 6 rfl) ?_
    refine lv_bipush (v := 64) hx hb dX2_two_43 (by decide) ?_
    refine lv_iand hx hb dX2_two_45 ?_
    refine lv_topi (fun v12 ev12 => ?_)
    have iv12 : iv v12 0 64 := iv_eq ev12 (iv_and (x := x0) (iv_w (by decide : iv 64 64 64) (by decide) (by decide) : iv 64 0 64))
    refine jcut (a := ∀ (b15 : Int32) (ib15 : iv b15 0 1) (H : Heap) (locs : List Loc) (hK : va_K (dC, dI) vwCl [(y0, .int), (y1, .int), (y2, .int), (y3, .int)] s) (hP : va_P (dC, dI) vwCl [(h0, .inr (2, [.ref h1, .ref h2, .ref h3, .int x1, .int x2, .int x3, .int x4, .int x5])), (h1, .inl (y0, 16, .inl f0)), (h3, .inr (1, [.ref h4, .ref h5, .ref h6, .ref h7])), (h4, .inl (y1, 32768, .inl f1)), (h7, .inr (9, [.ref h8, .ref h9, .int x6, .int x7, .int x8, .int x9])), (h9, .inl (y2, 3, .inl f2)), (h8, .inl (y3, 3, .inl f3)), (h6, .inr (5, [.int x10, .int x11, .int x12, .int x13, .int x14, .int x15])), (h5, .inr (7, [.int x16, .int x17, .int x18, .int x19, .int x20]))] H) (hD : va_D A [(h0, .inr (2, [.ref h1, .ref h2, .ref h3, .int x1, .int x2, .int x3, .int x4, .int x5])), (h1, .inl (y0, 16, .inl f0)), (h3, .inr (1, [.ref h4, .ref h5, .ref h6, .ref h7])), (h4, .inl (y1, 32768, .inl f1)), (h7, .inr (9, [.ref h8, .ref h9, .int x6, .int x7, .int x8, .int x9])), (h9, .inl (y2, 3, .inl f2)), (h8, .inl (y3, 3, .inl f3)), (h6, .inr (5, [.int x10, .int x11, .int x12, .int x13, .int x14, .int x15])), (h5, .inr (7, [.int x16, .int x17, .int x18, .int x19, .int x20]))]) (hS : va_S A s.heap H locs) (ls : Array Slot) (hl : lv_has ls 11 [(6, .int b10), (5, .int v6), (4, .int v5), (3, .int v3), (2, .int v1), (0, .ref h0)]), W p l e (headSpec (Cond.code yX2_two cX2_two 11 (some .int) :: lw_G) ({ frames := 5, cells := 0, slots := 0, locals := 113 })).room s m ar below meth c H locs 0 0 Q (F0 m 54 ls [.int b15, .ref h0])) ?_ (fun j16 => ?_)
    · skip
      intro b15 ib15 H locs hK hP hD hS ls hl
      refine va_put (D := (dC, dI)) (ci := 2) (v := .int b15) (ty := .boolean) (C := RX2) (T := TX2) (N := 8) hx hb hG inGX2 tyX2 tyX2_ok nmX2 hown hK hP hD hS 0 rfl rfl 7 (by decide) (hG _ wd_156) (fun _ h9 => h9) rfl (by decide +kernel) (iv_z (iv_w ib15 (by decide) (by decide))).1 (iv_z (iv_w ib15 (by decide) (by decide))).2 (Nat.le_of_ble_eq_true rfl) dX2_two_54 (fun H locs hP hD hS => ?_)
      obtain ⟨hP, hD⟩ := nv_eq (ws' := [(h0, .inr (2, [.ref h1, .ref h2, .ref h3, .int x1, .int x2, .int x3, .int x4, .int b15])), (h1, .inl (y0, 16, .inl f0)), (h3, .inr (1, [.ref h4, .ref h5, .ref h6, .ref h7])), (h4, .inl (y1, 32768, .inl f1)), (h7, .inr (9, [.ref h8, .ref h9, .int x6, .int x7, .int x8, .int x9])), (h9, .inl (y2, 3, .inl f2)), (h8, .inl (y3, 3, .inl f3)), (h6, .inr (5, [.int x10, .int x11, .int x12, .int x13, .int x14, .int x15])), (h5, .inr (7, [.int x16, .int x17, .int x18, .int x19, .int x20]))]) hP hD rfl
      refine lv_aload_n hx hb dX2_two_57 rfl (lv_at hl 5 rfl) ?_
      refine lv_iload hx hb dX2_two_58 (lv_at hl 2 rfl) ?_
      refine lv_iload_n hx hb dX2_two_60 rfl (lv_at hl 3 rfl) ?_
      obtain ⟨hPc, hDc, hFc⟩ := nv_sub3 (wc := [(h0, .inr (2, [.ref h1, .ref h2, .ref h3, .int x1, .int x2, .int x3, .int x4, .int b15])), (h1, .inl (y0, 16, .inl f0)), (h3, .inr (1, [.ref h4, .ref h5, .ref h6, .ref h7])), (h4, .inl (y1, 32768, .inl f1)), (h7, .inr (9, [.ref h8, .ref h9, .int x6, .int x7, .int x8, .int x9])), (h9, .inl (y2, 3, .inl f2)), (h8, .inl (y3, 3, .inl f3)), (h6, .inr (5, [.int x10, .int x11, .int x12, .int x13, .int x14, .int x15])), (h5, .inr (7, [.int x16, .int x17, .int x18, .int x19, .int x20]))]) hP hD hS hA [0, 1, 2, 3, 4, 5, 6, 7, 8] (by decide) rfl
      have hKc := hK.sub (tys' := [(y0, .int), (y1, .int), (y2, .int), (y3, .int)]) [0, 1, 2, 3] rfl
      refine va_calli (va_runV (As := [.int v5, .int v3]) (rest := []) ⟨hx, hb, hml, hown, hG⟩ (cX2_operand_1 l dC dI h0 h1 h2 h3 h4 h5 h6 h7 h8 h9 y0 y1 y2 y3 H.size v5 v3 x1 x2 x3 x4 b15 x6 x7 x8 x9 x10 x11 x12 x13 x14 x15 x16 x17 x18 x19 x20 f0 f1 f2 f3 iv5 iv3 ib15 ix9) (cwV 2 hG (gV wd_1016 wd_1018 wp_36 wd_6 wd_1019) rfl rfl rfl (by decide +kernel) ⟨Nat.le_of_ble_eq_true rfl, Nat.le_of_ble_eq_true rfl⟩) ⟨fun a U g mk q => by obtain ⟨q0, q1, qP, qK, qD⟩ := q; exact ⟨q0, q1, qP, va_K.moved (u := U) (U := U.calling g mk a) (Vm.Alike.refl U.vm) qK, qD⟩, va_recv hKc hPc (ci := 2) (q0 := 0) rfl rfl, fun U hU hW => ⟨rfl, by rw [hU], by rw [hU]; exact hPc, va_K.moved hW.alike hKc, hDc.weaken (fun _ _ _ _ => trivial)⟩⟩ rfl rfl hl.1 rfl (lv_room (Nat.le_of_ble_eq_true rfl)) dX2_two_61 ⟨by decide, by decide⟩) hS (fun q _ h => hFc q h) hFc (fun r17 u18 t H1 locs ht hvm hw hB hz1 hk1 hS => ?_)
      obtain ⟨u18_0, u18_1, u18_2, u18_3, u18_4⟩ := u18
      have hw : iv u18_1 0 1 ∧ True := hw
      obtain ⟨iu18_1, -⟩ := hw
      obtain ⟨hP1, hK1, hD1⟩ := hB
      rw [ht] at hP1
      have hK1 := va_K.moved hvm.symm hK1
      obtain ⟨hP, hD⟩ := nv_join (wf := [(h0, .inr (2, [.ref h1, .ref h2, .ref h3, .int x1, .int x2, .int x3, .int u18_0, .int u18_1])), (h1, .inl (y0, 16, .inl u18_2)), (h3, .inr (1, [.ref h4, .ref h5, .ref h6, .ref h7])), (h4, .inl (y1, 32768, .inl f1)), (h7, .inr (9, [.ref h8, .ref h9, .int u18_3, .int x7, .int x8, .int x9])), (h9, .inl (y2, 3, .inl f2)), (h8, .inl (y3, 3, .inl u18_4)), (h6, .inr (5, [.int x10, .int x11, .int x12, .int x13, .int x14, .int x15])), (h5, .inr (7, [.int x16, .int x17, .int x18, .int x19, .int x20]))]) hP hD [0, 1, 2, 3, 4, 5, 6, 7, 8] [] rfl rfl (by decide) (by decide) hk1 hFc hP1 hD1 rfl
      have hK := (hK.sub (tys' := []) [] rfl).app hK1
      generalize H1 = H at hP hS ⊢
      have hK : va_K (dC, dI) vwCl [(y0, .int), (y1, .int), (y2, .int), (y3, .int)] s := hK
      refine lv_istore (lv' := [(7, .int r17), (6, .int b10), (5, .int v6), (4, .int v5), (3, .int v3), (2, .int v1), (0, .ref h0)]) hx hb dX2_two_64 hl (by decide) rfl (fun ls hl => ?_)
      refine lv_aload_n hx hb dX2_two_66 rfl (lv_at hl 6 rfl) ?_
      refine lv_iload hx hb dX2_two_67 (lv_at hl 1 rfl) ?_
      refine jcut (a := ∀ (b24 : Int32) (b25 : Int32) (b26 : Nat → Int32) (b27 : Int32) (b28 : Nat → Int32) (ib25 : iv b25 0 1) (H : Heap) (locs : List Loc) (hK : va_K (dC, dI) vwCl [(y0, .int), (y1, .int), (y2, .int), (y3, .int)] s) (hP : va_P (dC, dI) vwCl [(h0, .inr (2, [.ref h1, .ref h2, .ref h3, .int x1, .int x2, .int x3, .int u18_0, .int u18_1])), (h1, .inl (y0, 16, .inl b26)), (h3, .inr (1, [.ref h4, .ref h5, .ref h6, .ref h7])), (h4, .inl (y1, 32768, .inl f1)), (h7, .inr (9, [.ref h8, .ref h9, .int b27, .int x7, .int x8, .int x9])), (h9, .inl (y2, 3, .inl f2)), (h8, .inl (y3, 3, .inl b28)), (h6, .inr (5, [.int x10, .int x11, .int x12, .int x13, .int x14, .int x15])), (h5, .inr (7, [.int x16, .int x17, .int x18, .int x19, .int x20]))] H) (hD : va_D A [(h0, .inr (2, [.ref h1, .ref h2, .ref h3, .int x1, .int x2, .int x3, .int u18_0, .int u18_1])), (h1, .inl (y0, 16, .inl b26)), (h3, .inr (1, [.ref h4, .ref h5, .ref h6, .ref h7])), (h4, .inl (y1, 32768, .inl f1)), (h7, .inr (9, [.ref h8, .ref h9, .int b27, .int x7, .int x8, .int x9])), (h9, .inl (y2, 3, .inl f2)), (h8, .inl (y3, 3, .inl b28)), (h6, .inr (5, [.int x10, .int x11, .int x12, .int x13, .int x14, .int x15])), (h5, .inr (7, [.int x16, .int x17, .int x18, .int x19, .int x20]))]) (hS : va_S A s.heap H locs) (ls : Array Slot) (hl : lv_has ls 11 [(7, .int r17), (6, .int b25), (5, .int v6), (4, .int v5), (3, .int v3), (2, .int v1), (0, .ref h0)]), W p l e (headSpec (Cond.code yX2_two cX2_two 11 (some .int) :: lw_G) ({ frames := 5, cells := 0, slots := 0, locals := 113 })).room s m ar below meth c H locs 0 0 Q (F0 m 86 ls [.int b24, .ref h0])) ?_ (fun j29 => ?_)
      · skip
        intro b24 b25 b26 b27 b28 ib25 H locs hK hP hD hS ls hl
        refine va_put (D := (dC, dI)) (ci := 2) (v := .int b24) (ty := .int) (C := RX2) (T := TX2) (N := 8) hx hb hG inGX2 tyX2 tyX2_ok nmX2 hown hK hP hD hS 0 rfl rfl 6 (by decide) (hG _ wd_155) (fun _ h9 => h9) rfl (by decide +kernel) rfl rfl (Nat.le_of_ble_eq_true rfl) dX2_two_86 (fun H locs hP hD hS => ?_)
        obtain ⟨hP, hD⟩ := nv_eq (ws' := [(h0, .inr (2, [.ref h1, .ref h2, .ref h3, .int x1, .int x2, .int x3, .int b24, .int u18_1])), (h1, .inl (y0, 16, .inl b26)), (h3, .inr (1, [.ref h4, .ref h5, .ref h6, .ref h7])), (h4, .inl (y1, 32768, .inl f1)), (h7, .inr (9, [.ref h8, .ref h9, .int b27, .int x7, .int x8, .int x9])), (h9, .inl (y2, 3, .inl f2)), (h8, .inl (y3, 3, .inl b28)), (h6, .inr (5, [.int x10, .int x11, .int x12, .int x13, .int x14, .int x15])), (h5, .inr (7, [.int x16, .int x17, .int x18, .int x19, .int x20]))]) hP hD rfl
        refine lv_iload_n hx hb dX2_two_89 rfl (lv_at hl 5 rfl) ?_
        refine lv_iconst (v := 4) hx hb dX2_two_90 (by decide) ?_
        refine jcut (a := ∀ (b33 : Int32) (b34 : Int32) (b35 : Int32) (b36 : Int32) (b37 : Nat → Int32) (ib34 : iv b34 (-524288) 524287) (ib35 : iv b35 0 1) (H : Heap) (locs : List Loc) (hK : va_K (dC, dI) vwCl [(y1, .int), (y2, .int), (y3, .int), (y0, .int)] s) (hP : va_P (dC, dI) vwCl [(h0, .inr (2, [.ref h1, .ref h2, .ref h3, .int x1, .int x2, .int x3, .int b24, .int b35])), (h3, .inr (1, [.ref h4, .ref h5, .ref h6, .ref h7])), (h4, .inl (y1, 32768, .inl f1)), (h7, .inr (9, [.ref h8, .ref h9, .int b36, .int x7, .int x8, .int x9])), (h9, .inl (y2, 3, .inl f2)), (h8, .inl (y3, 3, .inl b37)), (h6, .inr (5, [.int x10, .int x11, .int x12, .int x13, .int x14, .int x15])), (h5, .inr (7, [.int x16, .int x17, .int x18, .int x19, .int x20])), (h1, .inl (y0, 16, .inl b26))] H) (hD : va_D A [(h0, .inr (2, [.ref h1, .ref h2, .ref h3, .int x1, .int x2, .int x3, .int b24, .int b35])), (h3, .inr (1, [.ref h4, .ref h5, .ref h6, .ref h7])), (h4, .inl (y1, 32768, .inl f1)), (h7, .inr (9, [.ref h8, .ref h9, .int b36, .int x7, .int x8, .int x9])), (h9, .inl (y2, 3, .inl f2)), (h8, .inl (y3, 3, .inl b37)), (h6, .inr (5, [.int x10, .int x11, .int x12, .int x13, .int x14, .int x15])), (h5, .inr (7, [.int x16, .int x17, .int x18, .int x19, .int x20])), (h1, .inl (y0, 16, .inl b26))]) (hS : va_S A s.heap H locs) (ls : Array Slot) (hl : lv_has ls 11 [(7, .int r17), (6, .int b25), (5, .int v6), (4, .int v5), (3, .int v3), (2, .int b34), (0, .ref h0)]), W p l e (headSpec (Cond.code yX2_two cX2_two 11 (some .int) :: lw_G) ({ frames := 5, cells := 0, slots := 0, locals := 113 })).room s m ar below meth c H locs 0 0 Q (F0 m 102 ls [.int b33])) ?_ (fun j38 => ?_)
        · skip
          intro b33 b34 b35 b36 b37 ib34 ib35 H locs hK hP hD hS ls hl
          refine lv_istore (lv' := [(8, .int b33), (7, .int r17), (6, .int b25), (5, .int v6), (4, .int v5), (3, .int v3), (2, .int b34), (0, .ref h0)]) hx hb dX2_two_102 hl (by decide) rfl (fun ls hl => ?_)
          refine lv_aload_n hx hb dX2_two_104 rfl (lv_at hl 7 rfl) ?_
          refine lv_iload_n hx hb dX2_two_105 rfl (lv_at hl 6 rfl) ?_
          refine lv_iload hx hb dX2_two_106 (lv_at hl 1 rfl) ?_
          refine lv_iload hx hb dX2_two_108 (lv_at hl 0 rfl) ?_
          obtain ⟨hPc, hDc, hFc⟩ := nv_sub3 (wc := [(h0, .inr (2, [.ref h1, .ref h2, .ref h3, .int x1, .int x2, .int x3, .int b24, .int b35])), (h1, .inl (y0, 16, .inl b26))]) hP hD hS hA [0, 8] (by decide) rfl
          have hKc := hK.sub (tys' := [(y0, .int)]) [3] rfl
          refine va_calli (va_runV (As := [.int b34, .int r17, .int b33]) (rest := []) ⟨hx, hb, hml, hown, hG⟩ (cX2_compute_1 l dC dI h0 h1 h2 h3 y0 H.size b34 r17 b33 x1 x2 x3 b24 b35 b26 ib35) (cwV 3 hG (gV wd_1039 wd_1041 wp_39 wd_6 wd_1042) rfl rfl rfl (by decide +kernel) ⟨Nat.le_of_ble_eq_true rfl, Nat.le_of_ble_eq_true rfl⟩) ⟨fun a U g mk q => by obtain ⟨q0, q1, qP, qK, qD⟩ := q; exact ⟨q0, q1, qP, va_K.moved (u := U) (U := U.calling g mk a) (Vm.Alike.refl U.vm) qK, qD⟩, va_recv hKc hPc (ci := 2) (q0 := 0) rfl rfl, fun U hU hW => ⟨rfl, by rw [hU], by rw [hU]; exact hPc, va_K.moved hW.alike hKc, hDc.weaken (fun _ _ _ _ => trivial)⟩⟩ rfl rfl hl.1 rfl (lv_room (Nat.le_of_ble_eq_true rfl)) dX2_two_110 ⟨by decide, by decide⟩) hS (fun q _ h => hFc q h) hFc (fun r39 u40 t H1 locs ht hvm hw hB hz1 hk1 hS => ?_)
          obtain ⟨u40_0, u40_1⟩ := u40
          have hw : iv u40_0 0 1 ∧ True := hw
          obtain ⟨iu40_0, -⟩ := hw
          obtain ⟨hP1, hK1, hD1⟩ := hB
          rw [ht] at hP1
          have hK1 := va_K.moved hvm.symm hK1
          obtain ⟨hP, hD⟩ := nv_join (wf := [(h3, .inr (1, [.ref h4, .ref h5, .ref h6, .ref h7])), (h4, .inl (y1, 32768, .inl f1)), (h7, .inr (9, [.ref h8, .ref h9, .int b36, .int x7, .int x8, .int x9])), (h9, .inl (y2, 3, .inl f2)), (h8, .inl (y3, 3, .inl b37)), (h6, .inr (5, [.int x10, .int x11, .int x12, .int x13, .int x14, .int x15])), (h5, .inr (7, [.int x16, .int x17, .int x18, .int x19, .int x20])), (h0, .inr (2, [.ref h1, .ref h2, .ref h3, .int x1, .int x2, .int x3, .int b24, .int u40_0])), (h1, .inl (y0, 16, .inl u40_1))]) hP hD [0, 8] [1, 2, 3, 4, 5, 6, 7] rfl rfl (by decide) (by decide) hk1 hFc hP1 hD1 rfl
          have hK := (hK.sub (tys' := [(y1, .int), (y2, .int), (y3, .int)]) [0, 1, 2] rfl).app hK1
          generalize H1 = H at hP hS ⊢
          have hK : va_K (dC, dI) vwCl [(y1, .int), (y2, .int), (y3, .int), (y0, .int)] s := hK
          refine lv_istore (lv' := [(9, .int r39), (8, .int b33), (7, .int r17), (6, .int b25), (5, .int v6), (4, .int v5), (3, .int v3), (2, .int b34), (0, .ref h0)]) hx hb dX2_two_113 hl (by decide) rfl (fun ls hl => ?_)
          refine lv_iload_n hx hb dX2_two_115 rfl (lv_at hl 7 rfl) ?_
          refine lv_bipush (v := 9) hx hb dX2_two_116 (by decide) ?_
          refine jcut (a := ∀ (b45 : Nat → Int32) (b46 : Int32) (b47 : Int32) (b48 : Int32) (b49 : Int32) (b50 : Nat → Int32) (b51 : Nat → Int32) (b52 : Int32) (b53 : Int32) (b54 : Int32) (b55 : Int32) (b56 : Int32) (b57 : Int32) (b58 : Int32) (b59 : Int32) (b60 : Int32) (b61 : Int32) (b62 : Int32) (b63 : Int32) (b64 : Nat → Int32) (ib49 : iv b49 0 1) (ib63 : iv b63 0 1) (H : Heap) (locs : List Loc) (hK : va_K (dC, dI) vwCl [(y1, .int), (y2, .int), (y3, .int), (y0, .int)] s) (hP : va_P (dC, dI) vwCl [(h3, .inr (1, [.ref h4, .ref h5, .ref h6, .ref h7])), (h4, .inl (y1, 32768, .inl b45)), (h7, .inr (9, [.ref h8, .ref h9, .int b46, .int b47, .int b48, .int b49])), (h9, .inl (y2, 3, .inl b50)), (h8, .inl (y3, 3, .inl b51)), (h6, .inr (5, [.int b52, .int b53, .int b54, .int b55, .int b56, .int b57])), (h5, .inr (7, [.int x16, .int b58, .int b59, .int b60, .int b61])), (h0, .inr (2, [.ref h1, .ref h2, .ref h3, .int x1, .int x2, .int x3, .int b62, .int b63])), (h1, .inl (y0, 16, .inl b64))] H) (hD : va_D A [(h3, .inr (1, [.ref h4, .ref h5, .ref h6, .ref h7])), (h4, .inl (y1, 32768, .inl b45)), (h7, .inr (9, [.ref h8, .ref h9, .int b46, .int b47, .int b48, .int b49])), (h9, .inl (y2, 3, .inl b50)), (h8, .inl (y3, 3, .inl b51)), (h6, .inr (5, [.int b52, .int b53, .int b54, .int b55, .int b56, .int b57])), (h5, .inr (7, [.int x16, .int b58, .int b59, .int b60, .int b61])), (h0, .inr (2, [.ref h1, .ref h2, .ref h3, .int x1, .int x2, .int x3, .int b62, .int b63])), (h1, .inl (y0, 16, .inl b64))]) (hS : va_S A s.heap H locs) (ls : Array Slot) (hl : lv_has ls 11 [(6, .int b25), (5, .int v6), (4, .int v5), (3, .int v3)]), W p l e (headSpec (Cond.code yX2_two cX2_two 11 (some .int) :: lw_G) ({ frames := 5, cells := 0, slots := 0, locals := 113 })).room s m ar below meth c H locs 0 0 Q (F0 m 133 ls [])) ?_ (fun j65 => ?_)
          · skip
            intro b45 b46 b47 b48 b49 b50 b51 b52 b53 b54 b55 b56 b57 b58 b59 b60 b61 b62 b63 b64 ib49 ib63 H locs hK hP hD hS ls hl
            refine lv_iload hx hb dX2_two_133 (lv_at hl 2 rfl) ?_
            refine jcut (a := ∀ (b74 : Int32) (b75 : Int32) (ib74 : iv b74 1 3) (ib75 : iv b75 0 3) (H : Heap) (locs : List Loc) (hK : va_K (dC, dI) vwCl [(y1, .int), (y2, .int), (y3, .int), (y0, .int)] s) (hP : va_P (dC, dI) vwCl [(h3, .inr (1, [.ref h4, .ref h5, .ref h6, .ref h7])), (h4, .inl (y1, 32768, .inl b45)), (h7, .inr (9, [.ref h8, .ref h9, .int b46, .int b47, .int b48, .int b49])), (h9, .inl (y2, 3, .inl b50)), (h8, .inl (y3, 3, .inl b51)), (h6, .inr (5, [.int b52, .int b53, .int b54, .int b55, .int b56, .int b57])), (h5, .inr (7, [.int x16, .int b58, .int b59, .int b60, .int b61])), (h0, .inr (2, [.ref h1, .ref h2, .ref h3, .int x1, .int x2, .int x3, .int b62, .int b63])), (h1, .inl (y0, 16, .inl b64))] H) (hD : va_D A [(h3, .inr (1, [.ref h4, .ref h5, .ref h6, .ref h7])), (h4, .inl (y1, 32768, .inl b45)), (h7, .inr (9, [.ref h8, .ref h9, .int b46, .int b47, .int b48, .int b49])), (h9, .inl (y2, 3, .inl b50)), (h8, .inl (y3, 3, .inl b51)), (h6, .inr (5, [.int b52, .int b53, .int b54, .int b55, .int b56, .int b57])), (h5, .inr (7, [.int x16, .int b58, .int b59, .int b60, .int b61])), (h0, .inr (2, [.ref h1, .ref h2, .ref h3, .int x1, .int x2, .int x3, .int b62, .int b63])), (h1, .inl (y0, 16, .inl b64))]) (hS : va_S A s.heap H locs) (ls : Array Slot) (hl : lv_has ls 11 [(6, .int b25), (5, .int v6), (4, .int b75)]), W p l e (headSpec (Cond.code yX2_two cX2_two 11 (some .int) :: lw_G) ({ frames := 5, cells := 0, slots := 0, locals := 113 })).room s m ar below meth c H locs 0 0 Q (F0 m 162 ls [.int b74])) ?_ (fun j76 => ?_)
            · skip
              intro b74 b75 ib74 ib75 H locs hK hP hD hS ls hl
              refine lv_istore (lv' := [(10, .int b74), (6, .int b25), (5, .int v6), (4, .int b75)]) hx hb dX2_two_162 hl (by decide) rfl (fun ls hl => ?_)
              refine lv_iload hx hb dX2_two_164 (lv_at hl 1 rfl) ?_
              refine lv_if_eq (tgt := 174) hx hb dX2_two_166 (by decide) (fun c77 => ?_) (fun c77 => ?_)
              · skip
                subst c77
                refine lv_iload hx hb dX2_two_174 (lv_at hl 2 rfl) ?_
                refine jcut (a := ∀ (b85 : Int32) (ib85 : iv b85 1 4) (H : Heap) (locs : List Loc) (hK : va_K (dC, dI) vwCl [(y1, .int), (y2, .int), (y3, .int), (y0, .int)] s) (hP : va_P (dC, dI) vwCl [(h3, .inr (1, [.ref h4, .ref h5, .ref h6, .ref h7])), (h4, .inl (y1, 32768, .inl b45)), (h7, .inr (9, [.ref h8, .ref h9, .int b46, .int b47, .int b48, .int b49])), (h9, .inl (y2, 3, .inl b50)), (h8, .inl (y3, 3, .inl b51)), (h6, .inr (5, [.int b52, .int b53, .int b54, .int b55, .int b56, .int b57])), (h5, .inr (7, [.int x16, .int b58, .int b59, .int b60, .int b61])), (h0, .inr (2, [.ref h1, .ref h2, .ref h3, .int x1, .int x2, .int x3, .int b62, .int b63])), (h1, .inl (y0, 16, .inl b64))] H) (hD : va_D A [(h3, .inr (1, [.ref h4, .ref h5, .ref h6, .ref h7])), (h4, .inl (y1, 32768, .inl b45)), (h7, .inr (9, [.ref h8, .ref h9, .int b46, .int b47, .int b48, .int b49])), (h9, .inl (y2, 3, .inl b50)), (h8, .inl (y3, 3, .inl b51)), (h6, .inr (5, [.int b52, .int b53, .int b54, .int b55, .int b56, .int b57])), (h5, .inr (7, [.int x16, .int b58, .int b59, .int b60, .int b61])), (h0, .inr (2, [.ref h1, .ref h2, .ref h3, .int x1, .int x2, .int x3, .int b62, .int b63])), (h1, .inl (y0, 16, .inl b64))]) (hS : va_S A s.heap H locs) (ls : Array Slot) (hl : lv_has ls 11 []), W p l e (headSpec (Cond.code yX2_two cX2_two 11 (some .int) :: lw_G) ({ frames := 5, cells := 0, slots := 0, locals := 113 })).room s m ar below meth c H locs 0 0 Q (F0 m 200 ls [.int b85])) ?_ (fun j86 => ?_)
                · skip
                  intro b85 ib85 H locs hK hP hD hS ls hl
                  rw [hQ]
                  obtain ⟨hP9, hD9⟩ := nv_sub2 (wc := [(h0, .inr (2, [.ref h1, .ref h2, .ref h3, .int x1, .int x2, .int x3, .int b62, .int b63])), (h1, .inl (y0, 16, .inl b64)), (h3, .inr (1, [.ref h4, .ref h5, .ref h6, .ref h7])), (h4, .inl (y1, 32768, .inl b45)), (h7, .inr (9, [.ref h8, .ref h9, .int b46, .int b47, .int b48, .int b49])), (h9, .inl (y2, 3, .inl b50)), (h8, .inl (y3, 3, .inl b51)), (h6, .inr (5, [.int b52, .int b53, .int b54, .int b55, .int b56, .int b57])), (h5, .inr (7, [.int x16, .int b58, .int b59, .int b60, .int b61]))]) hP hD [7, 8, 0, 1, 2, 3, 4, 5, 6] (by decide) rfl
                  have hK9 := hK.sub (tys' := [(y0, .int), (y1, .int), (y2, .int), (y3, .int)]) [3, 0, 1, 2] rfl
                  exact W.iret (v := b85) hx hb hr (fun t ht hW => ⟨⟨b85, (b62, b63, b64, b45, b46, b47, b48, b49, b50, b51, b52, b53, b54, b55, b56, b57, b58, b59, b60, b61), rfl, ⟨iv_w ib85 (by decide) (by decide), iv_w ib63 (by decide) (by decide), iv_w ib49 (by decide) (by decide), trivial⟩, by rw [ht]; exact hP9, va_K.moved hW.alike hK9, hD9⟩, hS.F ht⟩) hS.2.2 dX2_two_200
                refine lv_if_ne (tgt := 198) hx hb dX2_two_176 (by decide) (fun c78 => ?_) (fun c78 => ?_)
                · skip
                  have j87 : iv v6 1 15 := iv_neLo iv6 (by decide : iv 0 0 0) c78 (by decide)
                  refine lv_iload hx hb dX2_two_198 (lv_at hl 0 rfl) ?_
                  exact j86 b74 (iv_w ib74 (by decide) (by decide)) _ _ hK hP hD hS ls (lv_sub hl [] rfl)
                · skip
                  subst c78
                  refine lv_iload hx hb dX2_two_179 (lv_at hl 0 rfl) ?_
                  refine lv_iconst (v := 1) hx hb dX2_two_181 (by decide) ?_
                  refine lv_icmp_eq (tgt := 191) hx hb dX2_two_182 (by decide) (fun c88 => ?_) (fun c88 => ?_)
                  · skip
                    subst c88
                    refine lv_iload hx hb dX2_two_191 (lv_at hl 0 rfl) ?_
                    refine lv_iconst (v := 1) hx hb dX2_two_193 (by decide) ?_
                    refine lv_iadd hx hb dX2_two_194 ?_
                    refine lv_val (y := 2) (by decide +kernel) ?_
                    refine lv_goto (tgt := 200) hx hb dX2_two_195 (by decide) ?_
                    exact j86 2 (iv_w (by decide : iv 2 2 2) (by decide) (by decide)) _ _ hK hP hD hS ls (lv_sub hl [] rfl)
                  · skip
                    have j89 : iv b74 2 3 := iv_neLo ib74 (by decide : iv 1 1 1) c88 (by decide)
                    refine lv_iload hx hb dX2_two_185 (lv_at hl 3 rfl) ?_
                    refine lv_iconst (v := 3) hx hb dX2_two_187 (by decide) ?_
                    refine lv_icmp_ne (tgt := 198) hx hb dX2_two_188 (by decide) (fun c90 => ?_) (fun c90 => ?_)
                    · skip
                      have j91 : iv b75 0 2 := iv_neHi ib75 (by decide : iv 3 3 3) c90 (by decide)
                      refine lv_iload hx hb dX2_two_198 (lv_at hl 0 rfl) ?_
                      exact j86 b74 (iv_w j89 (by decide) (by decide)) _ _ hK hP hD hS ls (lv_sub hl [] rfl)
                    · skip
                      subst c90
                      refine lv_iload hx hb dX2_two_191 (lv_at hl 0 rfl) ?_
                      refine lv_iconst (v := 1) hx hb dX2_two_193 (by decide) ?_
                      refine lv_iadd hx hb dX2_two_194 ?_
                      refine lv_topi (fun v92 ev92 => ?_)
                      have iv92 : iv v92 3 4 := iv_eq ev92 (iv_add j89 (by decide : iv 1 1 1) (by decide) (by decide))
                      have tv92 : v92.toInt = b74.toInt + 1 := iv_addT ev92 j89 (by decide) (by decide) (by decide)
                      refine lv_goto (tgt := 200) hx hb dX2_two_195 (by decide) ?_
                      exact j86 v92 (iv_w iv92 (by decide) (by decide)) _ _ hK hP hD hS ls (lv_sub hl [] rfl)
              · skip
                have j93 : iv b25 1 1 := iv_neLo ib25 (by decide : iv 0 0 0) c77 (by decide)
                refine lv_iload hx hb dX2_two_169 (lv_at hl 0 rfl) ?_
                refine lv_iconst (v := 3) hx hb dX2_two_171 (by decide) ?_
                refine lv_iadd hx hb dX2_two_172 ?_
                refine lv_topi (fun v94 ev94 => ?_)
                have iv94 : iv v94 4 6 := iv_eq ev94 (iv_add ib74 (by decide : iv 3 3 3) (by decide) (by decide))
                have tv94 : v94.toInt = b74.toInt + 3 := iv_addT ev94 ib74 (by decide) (by decide) (by decide)
                rw [hQ]
                obtain ⟨hP9, hD9⟩ := nv_sub2 (wc := [(h0, .inr (2, [.ref h1, .ref h2, .ref h3, .int x1, .int x2, .int x3, .int b62, .int b63])), (h1, .inl (y0, 16, .inl b64)), (h3, .inr (1, [.ref h4, .ref h5, .ref h6, .ref h7])), (h4, .inl (y1, 32768, .inl b45)), (h7, .inr (9, [.ref h8, .ref h9, .int b46, .int b47, .int b48, .int b49])), (h9, .inl (y2, 3, .inl b50)), (h8, .inl (y3, 3, .inl b51)), (h6, .inr (5, [.int b52, .int b53, .int b54, .int b55, .int b56, .int b57])), (h5, .inr (7, [.int x16, .int b58, .int b59, .int b60, .int b61]))]) hP hD [7, 8, 0, 1, 2, 3, 4, 5, 6] (by decide) rfl
                have hK9 := hK.sub (tys' := [(y0, .int), (y1, .int), (y2, .int), (y3, .int)]) [3, 0, 1, 2] rfl
                exact W.iret (v := v94) hx hb hr (fun t ht hW => ⟨⟨v94, (b62, b63, b64, b45, b46, b47, b48, b49, b50, b51, b52, b53, b54, b55, b56, b57, b58, b59, b60, b61), rfl, ⟨iv_w iv94 (by decide) (by decide), iv_w ib63 (by decide) (by decide), iv_w ib49 (by decide) (by decide), trivial⟩, by rw [ht]; exact hP9, va_K.moved hW.alike hK9, hD9⟩, hS.F ht⟩) hS.2.2 dX2_two_173
            refine lv_if_eq (tgt := 147) hx hb dX2_two_135 (by decide) (fun c66 => ?_) (fun c66 => ?_)
            · skip
              subst c66
              refine lv_iconst (v := 1) hx hb dX2_two_147 (by decide) ?_
              refine lv_goto (tgt := 162) hx hb dX2_two_148 (by decide) ?_
              exact j76 1 0 (iv_w (by decide : iv 1 1 1) (by decide) (by decide)) (iv_w (by decide : iv 0 0 0) (by decide) (by decide)) _ _ hK hP hD hS ls (lv_sub hl [0, 1, 2] rfl)
            · skip
              have j95 : iv v5 1 3 := iv_neLo iv5 (by decide : iv 0 0 0) c66 (by decide)
              refine lv_iload hx hb dX2_two_138 (lv_at hl 2 rfl) ?_
              refine lv_iload_n hx hb dX2_two_140 rfl (lv_at hl 3 rfl) ?_
              obtain ⟨hPc, hDc, hFc⟩ := nv_sub3 (wc := []) hP hD hS hA [] (by decide) rfl
              have hKc := hK.sub (tys' := []) [] rfl
              refine va_calli (va_runS (As := [.int v5, .int v3]) (rest := []) ⟨hx, hb, hml, hown, hG⟩ (cX2_isConstant_1 l dC dI H.size v5 v3) (va_cwS 2 hG (gS wd_1020 wd_1021 wd_6 wd_1022) rfl rfl rfl (by decide +kernel) ⟨Nat.le_of_ble_eq_true rfl, Nat.le_of_ble_eq_true rfl⟩) ⟨fun a U g mk q => by obtain ⟨q0, q1, qP, qK, qD⟩ := q; exact ⟨q0, q1, qP, va_K.moved (u := U) (U := U.calling g mk a) (Vm.Alike.refl U.vm) qK, qD⟩, fun U hU hW => ⟨rfl, by rw [hU], by rw [hU]; exact hPc, va_K.moved hW.alike hKc, hDc.weaken (fun _ _ _ _ => trivial)⟩⟩ rfl rfl hl.1 rfl (lv_room (Nat.le_of_ble_eq_true rfl)) dX2_two_141 ⟨by decide, by decide⟩) hS (fun q _ h => hFc q h) hFc (fun r96 u97 t H1 locs ht hvm hw hB hz1 hk1 hS => ?_)
              have hw : iv r96 0 1 ∧ True := hw
              obtain ⟨ir96, -⟩ := hw
              obtain ⟨hP1, hK1, hD1⟩ := hB
              rw [ht] at hP1
              have hK1 := va_K.moved hvm.symm hK1
              obtain ⟨hP, hD⟩ := nv_join (wf := [(h3, .inr (1, [.ref h4, .ref h5, .ref h6, .ref h7])), (h4, .inl (y1, 32768, .inl b45)), (h7, .inr (9, [.ref h8, .ref h9, .int b46, .int b47, .int b48, .int b49])), (h9, .inl (y2, 3, .inl b50)), (h8, .inl (y3, 3, .inl b51)), (h6, .inr (5, [.int b52, .int b53, .int b54, .int b55, .int b56, .int b57])), (h5, .inr (7, [.int x16, .int b58, .int b59, .int b60, .int b61])), (h0, .inr (2, [.ref h1, .ref h2, .ref h3, .int x1, .int x2, .int x3, .int b62, .int b63])), (h1, .inl (y0, 16, .inl b64))]) hP hD [] [0, 1, 2, 3, 4, 5, 6, 7, 8] rfl rfl (by decide) (by decide) hk1 hFc hP1 hD1 rfl
              have hK := (hK.sub (tys' := [(y1, .int), (y2, .int), (y3, .int), (y0, .int)]) [0, 1, 2, 3] rfl).app hK1
              generalize H1 = H at hP hS ⊢
              have hK : va_K (dC, dI) vwCl [(y1, .int), (y2, .int), (y3, .int), (y0, .int)] s := hK
              refine lv_if_eq (tgt := 151) hx hb dX2_two_144 (by decide) (fun c98 => ?_) (fun c98 => ?_)
              · skip
                subst c98
                refine lv_iload hx hb dX2_two_151 (lv_at hl 2 rfl) ?_
                refine lv_iconst (v := 1) hx hb dX2_two_153 (by decide) ?_
                refine lv_icmp_ne (tgt := 161) hx hb dX2_two_154 (by decide) (fun c99 => ?_) (fun c99 => ?_)
                · skip
                  have j100 : iv v5 2 3 := iv_neLo j95 (by decide : iv 1 1 1) c99 (by decide)
                  refine lv_iconst (v := 2) hx hb dX2_two_161 (by decide) ?_
                  exact j76 2 v5 (iv_w (by decide : iv 2 2 2) (by decide) (by decide)) (iv_w j100 (by decide) (by decide)) _ _ hK hP hD hS ls (lv_sub hl [0, 1, 2] rfl)
                · skip
                  subst c99
                  refine lv_iconst (v := 3) hx hb dX2_two_157 (by decide) ?_
                  refine lv_goto (tgt := 162) hx hb dX2_two_158 (by decide) ?_
                  exact j76 3 1 (iv_w (by decide : iv 3 3 3) (by decide) (by decide)) (iv_w (by decide : iv 1 1 1) (by decide) (by decide)) _ _ hK hP hD hS ls (lv_sub hl [0, 1, 2] rfl)
              · skip
                have j101 : iv r96 1 1 := iv_neLo ir96 (by decide : iv 0 0 0) c98 (by decide)
                refine lv_iconst (v := 1) hx hb dX2_two_147 (by decide) ?_
                refine lv_goto (tgt := 162) hx hb dX2_two_148 (by decide) ?_
                exact j76 1 v5 (iv_w (by decide : iv 1 1 1) (by decide) (by decide)) (iv_w j95 (by decide) (by decide)) _ _ hK hP hD hS ls (lv_sub hl [0, 1, 2] rfl)
          refine lv_icmp_eq (tgt := 133) hx hb dX2_two_118 (by decide) (fun c41 => ?_) (fun c41 => ?_)
          · skip
            subst c41
            exact j65 f1 b36 x7 x8 x9 f2 b37 x10 x11 x12 x13 x14 x15 x17 x18 x19 x20 b24 u40_0 u40_1 ix9 iu40_0 _ _ hK hP hD hS ls (lv_sub hl [3, 4, 5, 6] rfl)
          · skip
            refine lv_iload_n hx hb dX2_two_121 rfl (lv_at hl 7 rfl) ?_
            refine lv_bipush (v := 11) hx hb dX2_two_122 (by decide) ?_
            refine lv_icmp_eq (tgt := 133) hx hb dX2_two_124 (by decide) (fun c102 => ?_) (fun c102 => ?_)
            · skip
              subst c102
              exact j65 f1 b36 x7 x8 x9 f2 b37 x10 x11 x12 x13 x14 x15 x17 x18 x19 x20 b24 u40_0 u40_1 ix9 iu40_0 _ _ hK hP hD hS ls (lv_sub hl [3, 4, 5, 6] rfl)
            · skip
              refine lv_aload_n hx hb dX2_two_127 rfl (lv_at hl 8 rfl) ?_
              refine lv_iload hx hb dX2_two_128 (lv_at hl 0 rfl) ?_
              obtain ⟨hPc, hDc, hFc⟩ := nv_sub3 (wc := [(h0, .inr (2, [.ref h1, .ref h2, .ref h3, .int x1, .int x2, .int x3, .int b24, .int u40_0])), (h3, .inr (1, [.ref h4, .ref h5, .ref h6, .ref h7])), (h5, .inr (7, [.int x16, .int x17, .int x18, .int x19, .int x20])), (h7, .inr (9, [.ref h8, .ref h9, .int b36, .int x7, .int x8, .int x9])), (h9, .inl (y2, 3, .inl f2)), (h8, .inl (y3, 3, .inl b37)), (h6, .inr (5, [.int x10, .int x11, .int x12, .int x13, .int x14, .int x15])), (h4, .inl (y1, 32768, .inl f1)), (h1, .inl (y0, 16, .inl u40_1))]) hP hD hS hA [7, 0, 6, 2, 3, 4, 5, 1, 8] (by decide) rfl
              have hKc := hK.sub (tys' := [(y2, .int), (y3, .int), (y1, .int), (y0, .int)]) [1, 2, 0, 3] rfl
              refine va_callv (va_runV (As := [.int r39]) (rest := []) ⟨hx, hb, hml, hown, hG⟩ (cX2_store_1 l dC dI h0 h1 h2 h3 h4 h5 h6 h7 h8 h9 y2 y3 y1 y0 H.size r39 x1 x2 x3 b24 u40_0 x16 x17 x18 x19 x20 b36 x7 x8 x9 x10 x11 x12 x13 x14 x15 f2 b37 f1 u40_1 iu40_0 ix9) (cwV 1 hG (gV wd_1064 wd_1066 wp_45 wd_6 wd_1067) rfl rfl rfl (by decide +kernel) ⟨Nat.le_of_ble_eq_true rfl, Nat.le_of_ble_eq_true rfl⟩) ⟨fun a U g mk q => by obtain ⟨q0, q1, qP, qK, qD⟩ := q; exact ⟨q0, q1, qP, va_K.moved (u := U) (U := U.calling g mk a) (Vm.Alike.refl U.vm) qK, qD⟩, va_recv hKc hPc (ci := 2) (q0 := 0) rfl rfl, fun U hU hW => ⟨rfl, by rw [hU], by rw [hU]; exact hPc, va_K.moved hW.alike hKc, hDc.weaken (fun _ _ _ _ => trivial)⟩⟩ rfl rfl hl.1 rfl (lv_room (Nat.le_of_ble_eq_true rfl)) dX2_two_130 ⟨by decide, by decide⟩) hS (fun q _ h => hFc q h) hFc (fun u104 t H1 locs ht hvm hw hB hz1 hk1 hS => ?_)
              obtain ⟨u104_0, u104_1, u104_2, u104_3, u104_4, u104_5, u104_6, u104_7, u104_8, u104_9, u104_10, u104_11, u104_12, u104_13, u104_14, u104_15, u104_16, u104_17, u104_18, u104_19⟩ := u104
              have hw : iv u104_1 0 1 ∧ iv u104_9 0 1 ∧ True := hw
              obtain ⟨iu104_1, iu104_9, -⟩ := hw
              obtain ⟨hP1, hK1, hD1⟩ := hB
              rw [ht] at hP1
              have hK1 := va_K.moved hvm.symm hK1
              obtain ⟨hP, hD⟩ := nv_join (wf := [(h0, .inr (2, [.ref h1, .ref h2, .ref h3, .int x1, .int x2, .int x3, .int u104_0, .int u104_1])), (h3, .inr (1, [.ref h4, .ref h5, .ref h6, .ref h7])), (h5, .inr (7, [.int x16, .int u104_2, .int u104_3, .int u104_4, .int u104_5])), (h7, .inr (9, [.ref h8, .ref h9, .int u104_6, .int u104_7, .int u104_8, .int u104_9])), (h9, .inl (y2, 3, .inl u104_10)), (h8, .inl (y3, 3, .inl u104_11)), (h6, .inr (5, [.int u104_12, .int u104_13, .int u104_14, .int u104_15, .int u104_16, .int u104_17])), (h4, .inl (y1, 32768, .inl u104_18)), (h1, .inl (y0, 16, .inl u104_19))]) hP hD [7, 0, 6, 2, 3, 4, 5, 1, 8] [] rfl rfl (by decide) (by decide) hk1 hFc hP1 hD1 rfl
              have hK := (hK.sub (tys' := []) [] rfl).app hK1
              generalize H1 = H at hP hS ⊢
              have hK : va_K (dC, dI) vwCl [(y2, .int), (y3, .int), (y1, .int), (y0, .int)] s := hK
              exact j65 u104_18 u104_6 u104_7 u104_8 u104_9 u104_10 u104_11 u104_12 u104_13 u104_14 u104_15 u104_16 u104_17 u104_2 u104_3 u104_4 u104_5 u104_0 u104_1 u104_19 iu104_9 iu104_1 _ _ (hK.sub (tys' := _) [2, 0, 1, 3] rfl) (hP.sub (ws' := _) [1, 7, 3, 4, 5, 6, 2, 0, 8] rfl) (hD.sub (ws' := _) [1, 7, 3, 4, 5, 6, 2, 0, 8] (by decide) rfl) hS ls (lv_sub hl [3, 4, 5, 6] rfl)
        refine lv_icmp_ne (tgt := 98) hx hb dX2_two_91 (by decide) (fun c30 => ?_) (fun c30 => ?_)
        · skip
          refine lv_aload_n hx hb dX2_two_98 rfl (lv_at hl 6 rfl) ?_
          obtain ⟨hPc, hDc, hFc⟩ := nv_sub3 (wc := [(h0, .inr (2, [.ref h1, .ref h2, .ref h3, .int x1, .int x2, .int x3, .int b24, .int u18_1])), (h3, .inr (1, [.ref h4, .ref h5, .ref h6, .ref h7])), (h4, .inl (y1, 32768, .inl f1)), (h7, .inr (9, [.ref h8, .ref h9, .int b27, .int x7, .int x8, .int x9])), (h9, .inl (y2, 3, .inl f2)), (h8, .inl (y3, 3, .inl b28)), (h6, .inr (5, [.int x10, .int x11, .int x12, .int x13, .int x14, .int x15])), (h5, .inr (7, [.int x16, .int x17, .int x18, .int x19, .int x20])), (h1, .inl (y0, 16, .inl b26))]) hP hD hS hA [0, 2, 3, 4, 5, 6, 7, 8, 1] (by decide) rfl
          have hKc := hK.sub (tys' := [(y1, .int), (y2, .int), (y3, .int), (y0, .int)]) [1, 2, 3, 0] rfl
          refine va_calli (va_runV (As := []) (rest := []) ⟨hx, hb, hml, hown, hG⟩ (cX2_load_1 l dC dI h0 h1 h2 h3 h4 h5 h6 h7 h8 h9 y1 y2 y3 y0 H.size x1 x2 x3 b24 u18_1 b27 x7 x8 x9 x10 x11 x12 x13 x14 x15 x16 x17 x18 x19 x20 f1 f2 b28 b26 iu18_1 ix9) (cwV 0 hG (gV wd_1031 wd_1033 wp_38 wd_6 wd_1034) rfl rfl rfl (by decide +kernel) ⟨Nat.le_of_ble_eq_true rfl, Nat.le_of_ble_eq_true rfl⟩) ⟨fun a U g mk q => by obtain ⟨q0, q1, qP, qK, qD⟩ := q; exact ⟨q0, q1, qP, va_K.moved (u := U) (U := U.calling g mk a) (Vm.Alike.refl U.vm) qK, qD⟩, va_recv hKc hPc (ci := 2) (q0 := 0) rfl rfl, fun U hU hW => ⟨rfl, by rw [hU], by rw [hU]; exact hPc, va_K.moved hW.alike hKc, hDc.weaken (fun _ _ _ _ => trivial)⟩⟩ rfl rfl hl.1 rfl (lv_room (Nat.le_of_ble_eq_true rfl)) dX2_two_99 ⟨by decide, by decide⟩) hS (fun q _ h => hFc q h) hFc (fun r105 u106 t H1 locs ht hvm hw hB hz1 hk1 hS => ?_)
          obtain ⟨u106_0, u106_1, u106_2⟩ := u106
          have hw : iv u106_0 0 1 ∧ True := hw
          obtain ⟨iu106_0, -⟩ := hw
          obtain ⟨hP1, hK1, hD1⟩ := hB
          rw [ht] at hP1
          have hK1 := va_K.moved hvm.symm hK1
          obtain ⟨hP, hD⟩ := nv_join (wf := [(h0, .inr (2, [.ref h1, .ref h2, .ref h3, .int x1, .int x2, .int x3, .int b24, .int u106_0])), (h3, .inr (1, [.ref h4, .ref h5, .ref h6, .ref h7])), (h4, .inl (y1, 32768, .inl f1)), (h7, .inr (9, [.ref h8, .ref h9, .int u106_1, .int x7, .int x8, .int x9])), (h9, .inl (y2, 3, .inl f2)), (h8, .inl (y3, 3, .inl u106_2)), (h6, .inr (5, [.int x10, .int x11, .int x12, .int x13, .int x14, .int x15])), (h5, .inr (7, [.int x16, .int x17, .int x18, .int x19, .int x20])), (h1, .inl (y0, 16, .inl b26))]) hP hD [0, 2, 3, 4, 5, 6, 7, 8, 1] [] rfl rfl (by decide) (by decide) hk1 hFc hP1 hD1 rfl
          have hK := (hK.sub (tys' := []) [] rfl).app hK1
          generalize H1 = H at hP hS ⊢
          have hK : va_K (dC, dI) vwCl [(y1, .int), (y2, .int), (y3, .int), (y0, .int)] s := hK
          exact j38 r105 v1 u106_0 u106_1 u106_2 iv1 iu106_0 _ _ hK hP hD hS ls hl
        · skip
          subst c30
          refine lv_iconst (v := 0) hx hb dX2_two_94 (by decide) ?_
          refine lv_goto (tgt := 102) hx hb dX2_two_95 (by decide) ?_
          exact j38 0 4 u18_1 b27 b28 (iv_w (by decide : iv 4 4 4) (by decide) (by decide)) iu18_1 _ _ (hK.sub (tys' := _) [1, 2, 3, 0] rfl) (hP.sub (ws' := _) [0, 2, 3, 4, 5, 6, 7, 8, 1] rfl) (hD.sub (ws' := _) [0, 2, 3, 4, 5, 6, 7, 8, 1] (by decide) rfl) hS ls hl
      refine lv_if_eq (tgt := 81) hx hb dX2_two_69 (by decide) (fun c19 => ?_) (fun c19 => ?_)
      · skip
        subst c19
        refine lv_ldc hx hb hown (hG _ wd_1026) dX2_two_81 ?_
        refine lv_iload hx hb dX2_two_83 (lv_at hl 2 rfl) ?_
        refine lv_iadd hx hb dX2_two_85 ?_
        refine lv_topi (fun v107 ev107 => ?_)
        have iv107 : iv v107 65536 65551 := iv_eq ev107 (iv_add (by decide : iv 65536 65536 65536) iv6 (by decide) (by decide))
        exact j29 v107 0 u18_2 u18_3 u18_4 (iv_w (by decide : iv 0 0 0) (by decide) (by decide)) _ _ hK hP hD hS ls hl
      · skip
        have j108 : iv b10 1 1 := iv_neLo ib10 (by decide : iv 0 0 0) c19 (by decide)
        refine lv_aload_n hx hb dX2_two_72 rfl (lv_at hl 6 rfl) ?_
        refine lv_iload hx hb dX2_two_73 (lv_at hl 2 rfl) ?_
        obtain ⟨hPc, hDc, hFc⟩ := nv_sub3 (wc := [(h0, .inr (2, [.ref h1, .ref h2, .ref h3, .int x1, .int x2, .int x3, .int u18_0, .int u18_1])), (h1, .inl (y0, 16, .inl u18_2)), (h3, .inr (1, [.ref h4, .ref h5, .ref h6, .ref h7])), (h4, .inl (y1, 32768, .inl f1)), (h7, .inr (9, [.ref h8, .ref h9, .int u18_3, .int x7, .int x8, .int x9])), (h9, .inl (y2, 3, .inl f2)), (h8, .inl (y3, 3, .inl u18_4)), (h6, .inr (5, [.int x10, .int x11, .int x12, .int x13, .int x14, .int x15])), (h5, .inr (7, [.int x16, .int x17, .int x18, .int x19, .int x20]))]) hP hD hS hA [0, 1, 2, 3, 4, 5, 6, 7, 8] (by decide) rfl
        have hKc := hK.sub (tys' := [(y0, .int), (y1, .int), (y2, .int), (y3, .int)]) [0, 1, 2, 3] rfl
        refine va_calli (va_runV (As := [.int v6]) (rest := [.ref h0]) ⟨hx, hb, hml, hown, hG⟩ (cX2_indexed_1 l dC dI h0 h1 h2 h3 h4 h5 h6 h7 h8 h9 y0 y1 y2 y3 H.size v6 x1 x2 x3 u18_0 u18_1 u18_3 x7 x8 x9 x10 x11 x12 x13 x14 x15 x16 x17 x18 x19 x20 u18_2 f1 f2 u18_4 iv6 iu18_1 ix9) (cwV 1 hG (gV wd_1027 wd_1029 wp_37 wd_6 wd_1030) rfl rfl rfl (by decide +kernel) ⟨Nat.le_of_ble_eq_true rfl, Nat.le_of_ble_eq_true rfl⟩) ⟨fun a U g mk q => by obtain ⟨q0, q1, qP, qK, qD⟩ := q; exact ⟨q0, q1, qP, va_K.moved (u := U) (U := U.calling g mk a) (Vm.Alike.refl U.vm) qK, qD⟩, va_recv hKc hPc (ci := 2) (q0 := 0) rfl rfl, fun U hU hW => ⟨rfl, by rw [hU], by rw [hU]; exact hPc, va_K.moved hW.alike hKc, hDc.weaken (fun _ _ _ _ => trivial)⟩⟩ rfl rfl hl.1 rfl (lv_room (Nat.le_of_ble_eq_true rfl)) dX2_two_75 ⟨by decide, by decide⟩) hS (fun q _ h => hFc q h) hFc (fun r109 u110 t H1 locs ht hvm hw hB hz1 hk1 hS => ?_)
        obtain ⟨u110_0, u110_1, u110_2⟩ := u110
        obtain ⟨hP1, hK1, hD1⟩ := hB
        rw [ht] at hP1
        have hK1 := va_K.moved hvm.symm hK1
        obtain ⟨hP, hD⟩ := nv_join (wf := [(h0, .inr (2, [.ref h1, .ref h2, .ref h3, .int x1, .int x2, .int x3, .int u18_0, .int u18_1])), (h1, .inl (y0, 16, .inl u110_0)), (h3, .inr (1, [.ref h4, .ref h5, .ref h6, .ref h7])), (h4, .inl (y1, 32768, .inl f1)), (h7, .inr (9, [.ref h8, .ref h9, .int u110_1, .int x7, .int x8, .int x9])), (h9, .inl (y2, 3, .inl f2)), (h8, .inl (y3, 3, .inl u110_2)), (h6, .inr (5, [.int x10, .int x11, .int x12, .int x13, .int x14, .int x15])), (h5, .inr (7, [.int x16, .int x17, .int x18, .int x19, .int x20]))]) hP hD [0, 1, 2, 3, 4, 5, 6, 7, 8] [] rfl rfl (by decide) (by decide) hk1 hFc hP1 hD1 rfl
        have hK := (hK.sub (tys' := []) [] rfl).app hK1
        generalize H1 = H at hP hS ⊢
        have hK : va_K (dC, dI) vwCl [(y0, .int), (y1, .int), (y2, .int), (y3, .int)] s := hK
        refine lv_goto (tgt := 86) hx hb dX2_two_78 (by decide) ?_
        exact j29 r109 b10 u110_0 u110_1 u110_2 (iv_w j108 (by decide) (by decide)) _ _ hK hP hD hS ls hl
    refine lv_if_eq (tgt := 53) hx hb dX2_two_46 (by decide) (fun c13 => ?_) (fun c13 => ?_)
    · skip
      subst c13
      refine lv_iconst (v := 0) hx hb dX2_two_53 (by decide) ?_
      exact j16 0 (iv_w (by decide : iv 0 0 0) (by decide) (by decide)) _ _ hK hP hD hS ls (lv_sub hl [0, 1, 2, 3, 4, 5] rfl)
    · skip
      have j111 : iv v12 1 64 := iv_neLo iv12 (by decide : iv 0 0 0) c13 (by decide)
      refine lv_iconst (v := 1) hx hb dX2_two_49 (by decide) ?_
      refine lv_goto (tgt := 54) hx hb dX2_two_50 (by decide) ?_
      exact j16 1 (iv_w (by decide : iv 1 1 1) (by decide) (by decide)) _ _ hK hP hD hS ls (lv_sub hl [0, 1, 2, 3, 4, 5] rfl)
  refine lv_if_eq (tgt := 38) hx hb dX2_two_31 (by decide) (fun c8 => ?_) (fun c8 => ?_)
  · skip
    subst c8
    refine lv_iconst (v := 0) hx hb dX2_two_38 (by decide) ?_
    exact j11 0 (iv_w (by decide : iv 0 0 0) (by decide) (by decide)) _ _ hK hP hD hS ls hl
  · skip
    have j112 : iv v7 1 128 := iv_neLo iv7 (by decide : iv 0 0 0) c8 (by decide)
    refine lv_iconst (v := 1) hx hb dX2_two_34 (by decide) ?_
    refine lv_goto (tgt := 39) hx hb dX2_two_35 (by decide) ?_
    exact j11 1 (iv_w (by decide : iv 1 1 1) (by decide) (by decide)) _ _ hK hP hD hS ls hl
set_option maxHeartbeats 100000000 in
set_option maxRecDepth 100000 in
theorem cX9_raiseFlags_1 (l : Launch) (dC : Nat → ClassId) (dI : Nat → Nat → Nat) (h0 h1 h2 : Nat) (y0 y1 : ClassId) (sz : Nat) (x0 x1 x2 x3 : Int32) (f0 f1 : Nat → Int32) (ix3 : iv x3 0 1) : Met l yX9_raiseFlags (Cond.code yX9_raiseFlags cX9_raiseFlags 2 none :: lw_G) ({ frames := 0, cells := 0, slots := 0, locals := 0 }) (va_Pc [.ref h0] (fun U => U.heap.size = sz ∧ va_P (dC, dI) vwCl [(h0, .inr (9, [.ref h1, .ref h2, .int x0, .int x1, .int x2, .int x3])), (h2, .inl (y0, 3, .inl f0)), (h1, .inl (y1, 3, .inl f1))] U.heap ∧ va_K (dC, dI) vwCl [(y0, .int), (y1, .int)] U ∧ va_D (fun _ => True) [(h0, .inr (9, [.ref h1, .ref h2, .int x0, .int x1, .int x2, .int x3])), (h2, .inl (y0, 3, .inl f0)), (h1, .inl (y1, 3, .inl f1))])) (va_Qv (fun (u : Int32 × Int32 × (Nat → Int32)) => True) (fun (u : Int32 × Int32 × (Nat → Int32)) (t : State) => va_P (dC, dI) vwCl [(h0, .inr (9, [.ref h1, .ref h2, .int u.1, .int u.2.1, .int x2, .int x3])), (h2, .inl (y0, 3, .inl f0)), (h1, .inl (y1, 3, .inl u.2.2))] t.heap ∧ va_K (dC, dI) vwCl [(y0, .int), (y1, .int)] t ∧ va_D (va_A [(h0, .inr (9, [.ref h1, .ref h2, .int x0, .int x1, .int x2, .int x3])), (h2, .inl (y0, 3, .inl f0)), (h1, .inl (y1, 3, .inl f1))] sz) [(h0, .inr (9, [.ref h1, .ref h2, .int u.1, .int u.2.1, .int x2, .int x3])), (h2, .inl (y0, 3, .inl f0)), (h1, .inl (y1, 3, .inl u.2.2))]) (va_A [(h0, .inr (9, [.ref h1, .ref h2, .int x0, .int x1, .int x2, .int x3])), (h2, .inl (y0, 3, .inl f0)), (h1, .inl (y1, 3, .inl f1))] sz)) 0 0 (va_A [(h0, .inr (9, [.ref h1, .ref h2, .int x0, .int x1, .int x2, .int x3])), (h2, .inl (y0, 3, .inl f0)), (h1, .inl (y1, 3, .inl f1))] sz) := by
  refine Met.ofW (cc := cX9_raiseFlags) (maxL := 2) (ret := none) (by decide) rfl ?_
  intro p e s m args below meth c s₁ B hml hv
  obtain ⟨rfl, hsz, hP, hK, hD0⟩ := hv
  have hx := B.exec
  have hb := B.bytes
  have hr := B.returns
  have hts0 := atoms_spec (ws := Cond.code yX9_raiseFlags cX9_raiseFlags 2 none :: lw_G) B.pre
  have hG : ∀ w ∈ lw_G, w.before _ s = true := fun w h => hts0 w (List.mem_cons_of_mem _ h)
  have hown : s.vm.findClass RX9 = some m.cls := findClass_of_methodNamed B.named
  have hlocks := B.notSynchronized
  subst hsz
  have hD := hD0.self (sz := s.heap.size)
  generalize hAe : va_A [(h0, .inr (9, [.ref h1, .ref h2, .int x0, .int x1, .int x2, .int x3])), (h2, .inl (y0, 3, .inl f0)), (h1, .inl (y1, 3, .inl f1))] s.heap.size = A at hD ⊢
  have hA : ∀ q : Nat, s.heap.size ≤ q → A q := fun q h => by rw [← hAe]; exact Or.inr h
  have hS : va_S A s.heap s.heap [] := va_S.rf
  have hP : va_P (dC, dI) vwCl [(h0, .inr (9, [.ref h1, .ref h2, .int x0, .int x1, .int x2, .int x3])), (h2, .inl (y0, 3, .inl f0)), (h1, .inl (y1, 3, .inl f1))] s.heap := hP
  have hl := lv_entry ([.ref h0]) (n := 2) (Nat.le_of_ble_eq_true rfl)
  rw [lg_entry_eq]
  generalize (lg_sl ([.ref h0]) ++ List.replicate (2 - (lg_sl ([.ref h0])).length) Slot.unset).toArray = ls at hl ⊢
  have hl : lv_has ls 2 [(0, .ref h0)] := hl
  generalize ([.ref h0] : List Value).toArray = ar at hG ⊢
  refine wq (fun Q hQ => ?_)
  refine lv_iconst (v := 0) hx hb dX9_raiseFlags_0 (by decide) ?_
  refine lv_istore_n (lv' := [(1, .int 0), (0, .ref h0)]) hx hb dX9_raiseFlags_1 rfl hl (by decide) rfl (fun ls hl => ?_)
  refine lv_iload_n hx hb dX9_raiseFlags_2 rfl (lv_at hl 0 rfl) ?_
  refine lv_iconst (v := 3) hx hb dX9_raiseFlags_3 (by decide) ?_
  refine lv_icmp_ge (tgt := 36) hx hb dX9_raiseFlags_4 (by decide) (fun c => absurd c (by decide)) (fun _ => ?_)
  refine lv_aload_n hx hb dX9_raiseFlags_7 rfl (lv_at hl 1 rfl) ?_
  refine va_get (D := (dC, dI)) (ci := 9) (v := .int x1) (C := RX9) (T := TX9) (N := 6) hx hb hG inGX9 hown hK hP 0 rfl rfl 3 (by decide) (hG _ wd_98) (fun _ h9 => h9) rfl dX9_raiseFlags_8 ?_
  refine lv_aload_n hx hb dX9_raiseFlags_11 rfl (lv_at hl 1 rfl) ?_
  refine va_get (D := (dC, dI)) (ci := 9) (v := .ref h2) (C := RX9) (T := TX9) (N := 6) hx hb hG inGX9 hown hK hP 0 rfl rfl 1 (by decide) (hG _ wd_96) (fun _ h9 => h9) rfl dX9_raiseFlags_12 ?_
  refine lv_iload_n hx hb dX9_raiseFlags_15 rfl (lv_at hl 0 rfl) ?_
  refine va_iald hx hb hK hP 1 0 rfl rfl (iv_in (by decide : iv 0 0 0) (by decide) (by decide) : vp_in 0 3) dX9_raiseFlags_16 ?_
  refine lv_topi (fun v1 ev1 => ?_)
  refine jcut (a := ∀ (b6 : Nat → Int32) (H : Heap) (locs : List Loc) (hK : va_K (dC, dI) vwCl [(y0, .int), (y1, .int)] s) (hP : va_P (dC, dI) vwCl [(h0, .inr (9, [.ref h1, .ref h2, .int x0, .int x1, .int x2, .int x3])), (h2, .inl (y0, 3, .inl f0)), (h1, .inl (y1, 3, .inl b6))] H) (hD : va_D A [(h0, .inr (9, [.ref h1, .ref h2, .int x0, .int x1, .int x2, .int x3])), (h2, .inl (y0, 3, .inl f0)), (h1, .inl (y1, 3, .inl b6))]) (hS : va_S A s.heap H locs) (ls : Array Slot) (hl : lv_has ls 2 [(1, .int 0), (0, .ref h0)]), W p l e (headSpec (Cond.code yX9_raiseFlags cX9_raiseFlags 2 none :: lw_G) ({ frames := 0, cells := 0, slots := 0, locals := 0 })).room s m ar below meth c H locs 0 0 Q (F0 m 30 ls [])) ?_ (fun j7 => ?_)
  · skip
    intro b6 H locs hK hP hD hS ls hl
    refine lv_iinc (v := 1) (lv' := [(1, .int 1), (0, .ref h0)]) hx hb dX9_raiseFlags_30 hl (k := 0) rfl (by decide) (by decide) rfl (fun ls hl => ?_)
    refine lv_goto (tgt := 2) hx hb dX9_raiseFlags_33 (by decide) ?_
    refine lv_iload_n hx hb dX9_raiseFlags_2 rfl (lv_at hl 0 rfl) ?_
    refine lv_iconst (v := 3) hx hb dX9_raiseFlags_3 (by decide) ?_
    refine lv_icmp_ge (tgt := 36) hx hb dX9_raiseFlags_4 (by decide) (fun c => absurd c (by decide)) (fun _ => ?_)
    refine lv_aload_n hx hb dX9_raiseFlags_7 rfl (lv_at hl 1 rfl) ?_
    refine va_get (D := (dC, dI)) (ci := 9) (v := .int x1) (C := RX9) (T := TX9) (N := 6) hx hb hG inGX9 hown hK hP 0 rfl rfl 3 (by decide) (hG _ wd_98) (fun _ h9 => h9) rfl dX9_raiseFlags_8 ?_
    refine lv_aload_n hx hb dX9_raiseFlags_11 rfl (lv_at hl 1 rfl) ?_
    refine va_get (D := (dC, dI)) (ci := 9) (v := .ref h2) (C := RX9) (T := TX9) (N := 6) hx hb hG inGX9 hown hK hP 0 rfl rfl 1 (by decide) (hG _ wd_96) (fun _ h9 => h9) rfl dX9_raiseFlags_12 ?_
    refine lv_iload_n hx hb dX9_raiseFlags_15 rfl (lv_at hl 0 rfl) ?_
    refine va_iald hx hb hK hP 1 0 rfl rfl (iv_in (by decide : iv 1 1 1) (by decide) (by decide) : vp_in 1 3) dX9_raiseFlags_16 ?_
    refine lv_topi (fun v8 ev8 => ?_)
    refine jcut (a := ∀ (b13 : Nat → Int32) (H : Heap) (locs : List Loc) (hK : va_K (dC, dI) vwCl [(y0, .int), (y1, .int)] s) (hP : va_P (dC, dI) vwCl [(h0, .inr (9, [.ref h1, .ref h2, .int x0, .int x1, .int x2, .int x3])), (h2, .inl (y0, 3, .inl f0)), (h1, .inl (y1, 3, .inl b13))] H) (hD : va_D A [(h0, .inr (9, [.ref h1, .ref h2, .int x0, .int x1, .int x2, .int x3])), (h2, .inl (y0, 3, .inl f0)), (h1, .inl (y1, 3, .inl b13))]) (hS : va_S A s.heap H locs) (ls : Array Slot) (hl : lv_has ls 2 [(1, .int 1), (0, .ref h0)]), W p l e (headSpec (Cond.code yX9_raiseFlags cX9_raiseFlags 2 none :: lw_G) ({ frames := 0, cells := 0, slots := 0, locals := 0 })).room s m ar below meth c H locs 0 0 Q (F0 m 30 ls [])) ?_ (fun j14 => ?_)
    · skip
      intro b13 H locs hK hP hD hS ls hl
      refine lv_iinc (v := 2) (lv' := [(1, .int 2), (0, .ref h0)]) hx hb dX9_raiseFlags_30 hl (k := 0) rfl (by decide) (by decide) rfl (fun ls hl => ?_)
      refine lv_goto (tgt := 2) hx hb dX9_raiseFlags_33 (by decide) ?_
      refine lv_iload_n hx hb dX9_raiseFlags_2 rfl (lv_at hl 0 rfl) ?_
      refine lv_iconst (v := 3) hx hb dX9_raiseFlags_3 (by decide) ?_
      refine lv_icmp_ge (tgt := 36) hx hb dX9_raiseFlags_4 (by decide) (fun c => absurd c (by decide)) (fun _ => ?_)
      refine lv_aload_n hx hb dX9_raiseFlags_7 rfl (lv_at hl 1 rfl) ?_
      refine va_get (D := (dC, dI)) (ci := 9) (v := .int x1) (C := RX9) (T := TX9) (N := 6) hx hb hG inGX9 hown hK hP 0 rfl rfl 3 (by decide) (hG _ wd_98) (fun _ h9 => h9) rfl dX9_raiseFlags_8 ?_
      refine lv_aload_n hx hb dX9_raiseFlags_11 rfl (lv_at hl 1 rfl) ?_
      refine va_get (D := (dC, dI)) (ci := 9) (v := .ref h2) (C := RX9) (T := TX9) (N := 6) hx hb hG inGX9 hown hK hP 0 rfl rfl 1 (by decide) (hG _ wd_96) (fun _ h9 => h9) rfl dX9_raiseFlags_12 ?_
      refine lv_iload_n hx hb dX9_raiseFlags_15 rfl (lv_at hl 0 rfl) ?_
      refine va_iald hx hb hK hP 1 0 rfl rfl (iv_in (by decide : iv 2 2 2) (by decide) (by decide) : vp_in 2 3) dX9_raiseFlags_16 ?_
      refine lv_topi (fun v15 ev15 => ?_)
      refine jcut (a := ∀ (b20 : Nat → Int32) (H : Heap) (locs : List Loc) (hK : va_K (dC, dI) vwCl [(y0, .int), (y1, .int)] s) (hP : va_P (dC, dI) vwCl [(h0, .inr (9, [.ref h1, .ref h2, .int x0, .int x1, .int x2, .int x3])), (h2, .inl (y0, 3, .inl f0)), (h1, .inl (y1, 3, .inl b20))] H) (hD : va_D A [(h0, .inr (9, [.ref h1, .ref h2, .int x0, .int x1, .int x2, .int x3])), (h2, .inl (y0, 3, .inl f0)), (h1, .inl (y1, 3, .inl b20))]) (hS : va_S A s.heap H locs) (ls : Array Slot) (hl : lv_has ls 2 [(1, .int 2), (0, .ref h0)]), W p l e (headSpec (Cond.code yX9_raiseFlags cX9_raiseFlags 2 none :: lw_G) ({ frames := 0, cells := 0, slots := 0, locals := 0 })).room s m ar below meth c H locs 0 0 Q (F0 m 30 ls [])) ?_ (fun j21 => ?_)
      · skip
        intro b20 H locs hK hP hD hS ls hl
        refine lv_iinc (v := 3) (lv' := [(1, .int 3), (0, .ref h0)]) hx hb dX9_raiseFlags_30 hl (k := 0) rfl (by decide) (by decide) rfl (fun ls hl => ?_)
        refine lv_goto (tgt := 2) hx hb dX9_raiseFlags_33 (by decide) ?_
        refine lv_iload_n hx hb dX9_raiseFlags_2 rfl (lv_at hl 0 rfl) ?_
        refine lv_iconst (v := 3) hx hb dX9_raiseFlags_3 (by decide) ?_
        refine lv_icmp_ge (tgt := 36) hx hb dX9_raiseFlags_4 (by decide) (fun _ => ?_) (fun c => absurd (by decide) c)
        refine lv_aload_n hx hb dX9_raiseFlags_36 rfl (lv_at hl 1 rfl) ?_
        refine va_get (D := (dC, dI)) (ci := 9) (v := .int x1) (C := RX9) (T := TX9) (N := 6) hx hb hG inGX9 hown hK hP 0 rfl rfl 3 (by decide) (hG _ wd_98) (fun _ h9 => h9) rfl dX9_raiseFlags_37 ?_
        refine jcut (a := ∀ (b24 : Int32) (b25 : Int32) (H : Heap) (locs : List Loc) (hK : va_K (dC, dI) vwCl [(y0, .int), (y1, .int)] s) (hP : va_P (dC, dI) vwCl [(h0, .inr (9, [.ref h1, .ref h2, .int b24, .int b25, .int x2, .int x3])), (h2, .inl (y0, 3, .inl f0)), (h1, .inl (y1, 3, .inl b20))] H) (hD : va_D A [(h0, .inr (9, [.ref h1, .ref h2, .int b24, .int b25, .int x2, .int x3])), (h2, .inl (y0, 3, .inl f0)), (h1, .inl (y1, 3, .inl b20))]) (hS : va_S A s.heap H locs) (ls : Array Slot) (hl : lv_has ls 2 []), W p l e (headSpec (Cond.code yX9_raiseFlags cX9_raiseFlags 2 none :: lw_G) ({ frames := 0, cells := 0, slots := 0, locals := 0 })).room s m ar below meth c H locs 0 0 Q (F0 m 53 ls [])) ?_ (fun j26 => ?_)
        · skip
          intro b24 b25 H locs hK hP hD hS ls hl
          rw [hQ]
          obtain ⟨hP9, hD9⟩ := nv_sub2 (wc := [(h0, .inr (9, [.ref h1, .ref h2, .int b24, .int b25, .int x2, .int x3])), (h2, .inl (y0, 3, .inl f0)), (h1, .inl (y1, 3, .inl b20))]) hP hD [0, 1, 2] (by decide) rfl
          have hK9 := hK.sub (tys' := [(y0, .int), (y1, .int)]) [0, 1] rfl
          exact W.vret hx hb hr (fun t ht hW => ⟨⟨(b24, b25, b20), rfl, trivial, by rw [ht]; exact hP9, va_K.moved hW.alike hK9, hD9⟩, hS.F ht⟩) hS.2.2 dX9_raiseFlags_53
        refine lv_if_ne (tgt := 53) hx hb dX9_raiseFlags_40 (by decide) (fun c22 => ?_) (fun c22 => ?_)
        · skip
          exact j26 x0 x1 _ _ hK hP hD hS ls (lv_sub hl [] rfl)
        · skip
          subst c22
          refine lv_aload_n hx hb dX9_raiseFlags_43 rfl (lv_at hl 1 rfl) ?_
          refine lv_dup hx hb dX9_raiseFlags_44 rfl ?_
          refine va_get (D := (dC, dI)) (ci := 9) (v := .int x0) (C := RX9) (T := TX9) (N := 6) hx hb hG inGX9 hown hK hP 0 rfl rfl 2 (by decide) (hG _ wd_97) (fun _ h9 => h9) rfl dX9_raiseFlags_45 ?_
          refine lv_iconst (v := 1) hx hb dX9_raiseFlags_48 (by decide) ?_
          refine lv_ior hx hb dX9_raiseFlags_49 ?_
          refine lv_topi (fun v27 ev27 => ?_)
          refine va_put (D := (dC, dI)) (ci := 9) (v := .int v27) (ty := .int) (C := RX9) (T := TX9) (N := 6) hx hb hG inGX9 tyX9 tyX9_ok nmX9 hown hK hP hD hS 0 rfl rfl 2 (by decide) (hG _ wd_97) (fun _ h9 => h9) rfl (by decide +kernel) rfl rfl (Nat.le_of_ble_eq_true rfl) dX9_raiseFlags_50 (fun H locs hP hD hS => ?_)
          obtain ⟨hP, hD⟩ := nv_eq (ws' := [(h0, .inr (9, [.ref h1, .ref h2, .int v27, .int 0, .int x2, .int x3])), (h2, .inl (y0, 3, .inl f0)), (h1, .inl (y1, 3, .inl b20))]) hP hD rfl
          exact j26 v27 0 _ _ hK hP hD hS ls (lv_sub hl [] rfl)
      refine lv_icmp_ne (tgt := 30) hx hb dX9_raiseFlags_17 (by decide) (fun c16 => ?_) (fun c16 => ?_)
      · skip
        exact j21 b13 _ _ hK hP hD hS ls hl
      · skip
        refine lv_aload_n hx hb dX9_raiseFlags_20 rfl (lv_at hl 1 rfl) ?_
        refine va_get (D := (dC, dI)) (ci := 9) (v := .ref h1) (C := RX9) (T := TX9) (N := 6) hx hb hG inGX9 hown hK hP 0 rfl rfl 0 (by decide) (hG _ wd_95) (fun _ h9 => h9) rfl dX9_raiseFlags_21 ?_
        refine lv_iload_n hx hb dX9_raiseFlags_24 rfl (lv_at hl 0 rfl) ?_
        refine lv_dup2_11 hx hb dX9_raiseFlags_25 rfl rfl ?_
        refine va_iald hx hb hK hP 2 1 rfl rfl (iv_in (by decide : iv 2 2 2) (by decide) (by decide) : vp_in 2 3) dX9_raiseFlags_26 ?_
        refine lv_topi (fun v28 ev28 => ?_)
        refine lv_iconst (v := 1) hx hb dX9_raiseFlags_27 (by decide) ?_
        refine lv_ior hx hb dX9_raiseFlags_28 ?_
        refine lv_topi (fun v29 ev29 => ?_)
        refine va_iast hx hb hK hP hD hS 2 1 rfl rfl (iv_in (by decide : iv 2 2 2) (by decide) (by decide) : vp_in 2 3) dX9_raiseFlags_29 (fun H locs hP hD hS => ?_)
        obtain ⟨nf30, enf30⟩ : ∃ z, z = upd b13 (2 : Int32).toNatClampNeg v29 := ⟨_, rfl⟩
        obtain ⟨hP, hD⟩ := nv_eq (ws' := [(h0, .inr (9, [.ref h1, .ref h2, .int x0, .int x1, .int x2, .int x3])), (h2, .inl (y0, 3, .inl f0)), (h1, .inl (y1, 3, .inl nf30))]) hP hD (by subst enf30; rfl)
        exact j21 nf30 _ _ hK hP hD hS ls hl
    refine lv_icmp_ne (tgt := 30) hx hb dX9_raiseFlags_17 (by decide) (fun c9 => ?_) (fun c9 => ?_)
    · skip
      exact j14 b6 _ _ hK hP hD hS ls hl
    · skip
      refine lv_aload_n hx hb dX9_raiseFlags_20 rfl (lv_at hl 1 rfl) ?_
      refine va_get (D := (dC, dI)) (ci := 9) (v := .ref h1) (C := RX9) (T := TX9) (N := 6) hx hb hG inGX9 hown hK hP 0 rfl rfl 0 (by decide) (hG _ wd_95) (fun _ h9 => h9) rfl dX9_raiseFlags_21 ?_
      refine lv_iload_n hx hb dX9_raiseFlags_24 rfl (lv_at hl 0 rfl) ?_
      refine lv_dup2_11 hx hb dX9_raiseFlags_25 rfl rfl ?_
      refine va_iald hx hb hK hP 2 1 rfl rfl (iv_in (by decide : iv 1 1 1) (by decide) (by decide) : vp_in 1 3) dX9_raiseFlags_26 ?_
      refine lv_topi (fun v31 ev31 => ?_)
      refine lv_iconst (v := 1) hx hb dX9_raiseFlags_27 (by decide) ?_
      refine lv_ior hx hb dX9_raiseFlags_28 ?_
      refine lv_topi (fun v32 ev32 => ?_)
      refine va_iast hx hb hK hP hD hS 2 1 rfl rfl (iv_in (by decide : iv 1 1 1) (by decide) (by decide) : vp_in 1 3) dX9_raiseFlags_29 (fun H locs hP hD hS => ?_)
      obtain ⟨nf33, enf33⟩ : ∃ z, z = upd b6 (1 : Int32).toNatClampNeg v32 := ⟨_, rfl⟩
      obtain ⟨hP, hD⟩ := nv_eq (ws' := [(h0, .inr (9, [.ref h1, .ref h2, .int x0, .int x1, .int x2, .int x3])), (h2, .inl (y0, 3, .inl f0)), (h1, .inl (y1, 3, .inl nf33))]) hP hD (by subst enf33; rfl)
      exact j14 nf33 _ _ hK hP hD hS ls hl
  refine lv_icmp_ne (tgt := 30) hx hb dX9_raiseFlags_17 (by decide) (fun c2 => ?_) (fun c2 => ?_)
  · skip
    exact j7 f1 _ _ hK hP hD hS ls hl
  · skip
    refine lv_aload_n hx hb dX9_raiseFlags_20 rfl (lv_at hl 1 rfl) ?_
    refine va_get (D := (dC, dI)) (ci := 9) (v := .ref h1) (C := RX9) (T := TX9) (N := 6) hx hb hG inGX9 hown hK hP 0 rfl rfl 0 (by decide) (hG _ wd_95) (fun _ h9 => h9) rfl dX9_raiseFlags_21 ?_
    refine lv_iload_n hx hb dX9_raiseFlags_24 rfl (lv_at hl 0 rfl) ?_
    refine lv_dup2_11 hx hb dX9_raiseFlags_25 rfl rfl ?_
    refine va_iald hx hb hK hP 2 1 rfl rfl (iv_in (by decide : iv 0 0 0) (by decide) (by decide) : vp_in 0 3) dX9_raiseFlags_26 ?_
    refine lv_topi (fun v34 ev34 => ?_)
    refine lv_iconst (v := 1) hx hb dX9_raiseFlags_27 (by decide) ?_
    refine lv_ior hx hb dX9_raiseFlags_28 ?_
    refine lv_topi (fun v35 ev35 => ?_)
    refine va_iast hx hb hK hP hD hS 2 1 rfl rfl (iv_in (by decide : iv 0 0 0) (by decide) (by decide) : vp_in 0 3) dX9_raiseFlags_29 (fun H locs hP hD hS => ?_)
    obtain ⟨nf36, enf36⟩ : ∃ z, z = upd f1 (0 : Int32).toNatClampNeg v35 := ⟨_, rfl⟩
    obtain ⟨hP, hD⟩ := nv_eq (ws' := [(h0, .inr (9, [.ref h1, .ref h2, .int x0, .int x1, .int x2, .int x3])), (h2, .inl (y0, 3, .inl f0)), (h1, .inl (y1, 3, .inl nf36))]) hP hD (by subst enf36; rfl)
    exact j7 nf36 _ _ hK hP hD hS ls hl
set_option maxHeartbeats 100000000 in
set_option maxRecDepth 100000 in
theorem cX9_swing_1 (l : Launch) (dC : Nat → ClassId) (dI : Nat → Nat → Nat) (h0 h1 h2 : Nat) (y0 : ClassId) (sz : Nat) (x0 x1 x2 x3 : Int32) (f0 : Nat → Int32) (ix3 : iv x3 0 1) : Met l yX9_swing (Cond.code yX9_swing cX9_swing 1 none :: lw_G) ({ frames := 0, cells := 0, slots := 0, locals := 0 }) (va_Pc [.ref h0] (fun U => U.heap.size = sz ∧ va_P (dC, dI) vwCl [(h0, .inr (9, [.ref h1, .ref h2, .int x0, .int x1, .int x2, .int x3])), (h2, .inl (y0, 3, .inl f0))] U.heap ∧ va_K (dC, dI) vwCl [(y0, .int)] U ∧ va_D (fun _ => True) [(h0, .inr (9, [.ref h1, .ref h2, .int x0, .int x1, .int x2, .int x3])), (h2, .inl (y0, 3, .inl f0))])) (va_Qv (fun (u : Int32 × Int32) => iv u.2 0 1 ∧ True) (fun (u : Int32 × Int32) (t : State) => va_P (dC, dI) vwCl [(h0, .inr (9, [.ref h1, .ref h2, .int x0, .int u.1, .int x2, .int u.2])), (h2, .inl (y0, 3, .inl f0))] t.heap ∧ va_K (dC, dI) vwCl [(y0, .int)] t ∧ va_D (va_A [(h0, .inr (9, [.ref h1, .ref h2, .int x0, .int x1, .int x2, .int x3])), (h2, .inl (y0, 3, .inl f0))] sz) [(h0, .inr (9, [.ref h1, .ref h2, .int x0, .int u.1, .int x2, .int u.2])), (h2, .inl (y0, 3, .inl f0))]) (va_A [(h0, .inr (9, [.ref h1, .ref h2, .int x0, .int x1, .int x2, .int x3])), (h2, .inl (y0, 3, .inl f0))] sz)) 0 0 (va_A [(h0, .inr (9, [.ref h1, .ref h2, .int x0, .int x1, .int x2, .int x3])), (h2, .inl (y0, 3, .inl f0))] sz) := by
  refine Met.ofW (cc := cX9_swing) (maxL := 1) (ret := none) (by decide) rfl ?_
  intro p e s m args below meth c s₁ B hml hv
  obtain ⟨rfl, hsz, hP, hK, hD0⟩ := hv
  have hx := B.exec
  have hb := B.bytes
  have hr := B.returns
  have hts0 := atoms_spec (ws := Cond.code yX9_swing cX9_swing 1 none :: lw_G) B.pre
  have hG : ∀ w ∈ lw_G, w.before _ s = true := fun w h => hts0 w (List.mem_cons_of_mem _ h)
  have hown : s.vm.findClass RX9 = some m.cls := findClass_of_methodNamed B.named
  have hlocks := B.notSynchronized
  subst hsz
  have hD := hD0.self (sz := s.heap.size)
  generalize hAe : va_A [(h0, .inr (9, [.ref h1, .ref h2, .int x0, .int x1, .int x2, .int x3])), (h2, .inl (y0, 3, .inl f0))] s.heap.size = A at hD ⊢
  have hA : ∀ q : Nat, s.heap.size ≤ q → A q := fun q h => by rw [← hAe]; exact Or.inr h
  have hS : va_S A s.heap s.heap [] := va_S.rf
  have hP : va_P (dC, dI) vwCl [(h0, .inr (9, [.ref h1, .ref h2, .int x0, .int x1, .int x2, .int x3])), (h2, .inl (y0, 3, .inl f0))] s.heap := hP
  have hl := lv_entry ([.ref h0]) (n := 1) (Nat.le_of_ble_eq_true rfl)
  rw [lg_entry_eq]
  generalize (lg_sl ([.ref h0]) ++ List.replicate (1 - (lg_sl ([.ref h0])).length) Slot.unset).toArray = ls at hl ⊢
  have hl : lv_has ls 1 [(0, .ref h0)] := hl
  generalize ([.ref h0] : List Value).toArray = ar at hG ⊢
  refine wq (fun Q hQ => ?_)
  refine lv_aload_n hx hb dX9_swing_0 rfl (lv_at hl 0 rfl) ?_
  refine va_get (D := (dC, dI)) (ci := 9) (v := .int x1) (C := RX9) (T := TX9) (N := 6) hx hb hG inGX9 hown hK hP 0 rfl rfl 3 (by decide) (hG _ wd_98) (fun _ h9 => h9) rfl dX9_swing_1 ?_
  refine lv_aload_n hx hb dX9_swing_4 rfl (lv_at hl 0 rfl) ?_
  refine va_get (D := (dC, dI)) (ci := 9) (v := .ref h2) (C := RX9) (T := TX9) (N := 6) hx hb hG inGX9 hown hK hP 0 rfl rfl 1 (by decide) (hG _ wd_96) (fun _ h9 => h9) rfl dX9_swing_5 ?_
  refine lv_iconst (v := 0) hx hb dX9_swing_8 (by decide) ?_
  refine va_iald hx hb hK hP 1 0 rfl rfl (iv_in (by decide : iv 0 0 0) (by decide) (by decide) : vp_in 0 3) dX9_swing_9 ?_
  refine lv_topi (fun v1 ev1 => ?_)
  refine jcut (a := ∀ (b8 : Int32) (b9 : Int32) (ib9 : iv b9 0 1) (H : Heap) (locs : List Loc) (hK : va_K (dC, dI) vwCl [(y0, .int)] s) (hP : va_P (dC, dI) vwCl [(h0, .inr (9, [.ref h1, .ref h2, .int x0, .int b8, .int x2, .int b9])), (h2, .inl (y0, 3, .inl f0))] H) (hD : va_D A [(h0, .inr (9, [.ref h1, .ref h2, .int x0, .int b8, .int x2, .int b9])), (h2, .inl (y0, 3, .inl f0))]) (hS : va_S A s.heap H locs) (ls : Array Slot) (hl : lv_has ls 1 [(0, .ref h0)]), W p l e (headSpec (Cond.code yX9_swing cX9_swing 1 none :: lw_G) ({ frames := 0, cells := 0, slots := 0, locals := 0 })).room s m ar below meth c H locs 0 0 Q (F0 m 33 ls [])) ?_ (fun j10 => ?_)
  · skip
    intro b8 b9 ib9 H locs hK hP hD hS ls hl
    refine lv_aload_n hx hb dX9_swing_33 rfl (lv_at hl 0 rfl) ?_
    refine lv_dup hx hb dX9_swing_34 rfl ?_
    refine va_get (D := (dC, dI)) (ci := 9) (v := .int b8) (C := RX9) (T := TX9) (N := 6) hx hb hG inGX9 hown hK hP 0 rfl rfl 3 (by decide) (hG _ wd_98) (fun _ h9 => h9) rfl dX9_swing_35 ?_
    refine lv_aload_n hx hb dX9_swing_38 rfl (lv_at hl 0 rfl) ?_
    refine va_get (D := (dC, dI)) (ci := 9) (v := .int b9) (C := RX9) (T := TX9) (N := 6) hx hb hG inGX9 hown hK hP 0 rfl rfl 5 (by decide) (hG _ wd_100) (fun _ h9 => h9) rfl dX9_swing_39 ?_
    refine jcut (a := ∀ (b13 : Int32) (b14 : Int32) (ib13 : iv b13 (-1) 1) (ib14 : iv b14 0 1) (H : Heap) (locs : List Loc) (hK : va_K (dC, dI) vwCl [(y0, .int)] s) (hP : va_P (dC, dI) vwCl [(h0, .inr (9, [.ref h1, .ref h2, .int x0, .int b8, .int x2, .int b14])), (h2, .inl (y0, 3, .inl f0))] H) (hD : va_D A [(h0, .inr (9, [.ref h1, .ref h2, .int x0, .int b8, .int x2, .int b14])), (h2, .inl (y0, 3, .inl f0))]) (hS : va_S A s.heap H locs) (ls : Array Slot) (hl : lv_has ls 1 []), W p l e (headSpec (Cond.code yX9_swing cX9_swing 1 none :: lw_G) ({ frames := 0, cells := 0, slots := 0, locals := 0 })).room s m ar below meth c H locs 0 0 Q (F0 m 50 ls [.int b13, .int b8, .ref h0])) ?_ (fun j15 => ?_)
    · skip
      intro b13 b14 ib13 ib14 H locs hK hP hD hS ls hl
      refine lv_iadd hx hb dX9_swing_50 ?_
      refine lv_topi (fun v16 ev16 => ?_)
      refine va_put (D := (dC, dI)) (ci := 9) (v := .int v16) (ty := .int) (C := RX9) (T := TX9) (N := 6) hx hb hG inGX9 tyX9 tyX9_ok nmX9 hown hK hP hD hS 0 rfl rfl 3 (by decide) (hG _ wd_98) (fun _ h9 => h9) rfl (by decide +kernel) rfl rfl (Nat.le_of_ble_eq_true rfl) dX9_swing_51 (fun H locs hP hD hS => ?_)
      obtain ⟨hP, hD⟩ := nv_eq (ws' := [(h0, .inr (9, [.ref h1, .ref h2, .int x0, .int v16, .int x2, .int b14])), (h2, .inl (y0, 3, .inl f0))]) hP hD rfl
      rw [hQ]
      obtain ⟨hP9, hD9⟩ := nv_sub2 (wc := [(h0, .inr (9, [.ref h1, .ref h2, .int x0, .int v16, .int x2, .int b14])), (h2, .inl (y0, 3, .inl f0))]) hP hD [0, 1] (by decide) rfl
      have hK9 := hK.sub (tys' := [(y0, .int)]) [0] rfl
      exact W.vret hx hb hr (fun t ht hW => ⟨⟨(v16, b14), rfl, ⟨iv_w ib14 (by decide) (by decide), trivial⟩, by rw [ht]; exact hP9, va_K.moved hW.alike hK9, hD9⟩, hS.F ht⟩) hS.2.2 dX9_swing_54
    refine lv_if_eq (tgt := 49) hx hb dX9_swing_42 (by decide) (fun c11 => ?_) (fun c11 => ?_)
    · skip
      subst c11
      refine lv_iconst (v := 1) hx hb dX9_swing_49 (by decide) ?_
      exact j15 1 0 (iv_w (by decide : iv 1 1 1) (by decide) (by decide)) (iv_w (by decide : iv 0 0 0) (by decide) (by decide)) _ _ hK hP hD hS ls (lv_sub hl [] rfl)
    · skip
      have j17 : iv b9 1 1 := iv_neLo ib9 (by decide : iv 0 0 0) c11 (by decide)
      refine lv_iconst (v := (-1)) hx hb dX9_swing_45 (by decide) ?_
      refine lv_goto (tgt := 50) hx hb dX9_swing_46 (by decide) ?_
      exact j15 (-1) b9 (iv_w (by decide : iv (-1) (-1) (-1)) (by decide) (by decide)) (iv_w j17 (by decide) (by decide)) _ _ hK hP hD hS ls (lv_sub hl [] rfl)
  refine lv_icmp_lt (tgt := 21) hx hb dX9_swing_10 (by decide) (fun c2 => ?_) (fun c2 => ?_)
  · skip
    have rl18 : x1.toInt < v1.toInt := Int32.lt_iff_toInt_lt.mp c2
    have j19 : iv x1 (-2147483648) 2147483646 := iv_ltL (iv_any x1) (iv_any v1) c2 (by decide)
    have j20 : iv v1 (-2147483647) 2147483647 := iv_ltR (iv_any x1) (iv_any v1) c2 (by decide)
    refine lv_aload_n hx hb dX9_swing_21 rfl (lv_at hl 0 rfl) ?_
    refine va_get (D := (dC, dI)) (ci := 9) (v := .int x1) (C := RX9) (T := TX9) (N := 6) hx hb hG inGX9 hown hK hP 0 rfl rfl 3 (by decide) (hG _ wd_98) (fun _ h9 => h9) rfl dX9_swing_22 ?_
    refine lv_if_ne (tgt := 33) hx hb dX9_swing_25 (by decide) (fun c21 => ?_) (fun c21 => ?_)
    · skip
      exact j10 x1 x3 ix3 _ _ hK hP hD hS ls hl
    · skip
      subst c21
      refine lv_aload_n hx hb dX9_swing_28 rfl (lv_at hl 0 rfl) ?_
      refine lv_iconst (v := 0) hx hb dX9_swing_29 (by decide) ?_
      refine va_put (D := (dC, dI)) (ci := 9) (v := .int 0) (ty := .boolean) (C := RX9) (T := TX9) (N := 6) hx hb hG inGX9 tyX9 tyX9_ok nmX9 hown hK hP hD hS 0 rfl rfl 5 (by decide) (hG _ wd_100) (fun _ h9 => h9) rfl (by decide +kernel) rfl rfl (Nat.le_of_ble_eq_true rfl) dX9_swing_30 (fun H locs hP hD hS => ?_)
      obtain ⟨hP, hD⟩ := nv_eq (ws' := [(h0, .inr (9, [.ref h1, .ref h2, .int x0, .int 0, .int x2, .int 0])), (h2, .inl (y0, 3, .inl f0))]) hP hD rfl
      exact j10 0 0 (iv_w (by decide : iv 0 0 0) (by decide) (by decide)) _ _ hK hP hD hS ls hl
  · skip
    have rl22 : v1.toInt ≤ x1.toInt := iv_nlt2 c2
    refine lv_aload_n hx hb dX9_swing_13 rfl (lv_at hl 0 rfl) ?_
    refine lv_iconst (v := 1) hx hb dX9_swing_14 (by decide) ?_
    refine va_put (D := (dC, dI)) (ci := 9) (v := .int 1) (ty := .boolean) (C := RX9) (T := TX9) (N := 6) hx hb hG inGX9 tyX9 tyX9_ok nmX9 hown hK hP hD hS 0 rfl rfl 5 (by decide) (hG _ wd_100) (fun _ h9 => h9) rfl (by decide +kernel) rfl rfl (Nat.le_of_ble_eq_true rfl) dX9_swing_15 (fun H locs hP hD hS => ?_)
    obtain ⟨hP, hD⟩ := nv_eq (ws' := [(h0, .inr (9, [.ref h1, .ref h2, .int x0, .int x1, .int x2, .int 1])), (h2, .inl (y0, 3, .inl f0))]) hP hD rfl
    refine lv_goto (tgt := 33) hx hb dX9_swing_18 (by decide) ?_
    exact j10 x1 1 (iv_w (by decide : iv 1 1 1) (by decide) (by decide)) _ _ hK hP hD hS ls hl
set_option maxHeartbeats 100000000 in
set_option maxRecDepth 100000 in
theorem cX9_advance_1 (l : Launch) (dC : Nat → ClassId) (dI : Nat → Nat → Nat) (h0 h1 h2 : Nat) (y0 y1 : ClassId) (sz : Nat) (x0 x1 x2 x3 : Int32) (f0 f1 : Nat → Int32) (ix3 : iv x3 0 1) : Met l yX9_advance (Cond.code yX9_advance cX9_advance 2 none :: lw_G) ({ frames := 1, cells := 0, slots := 0, locals := 21 }) (va_Pc [.ref h0] (fun U => U.heap.size = sz ∧ va_P (dC, dI) vwCl [(h0, .inr (9, [.ref h1, .ref h2, .int x0, .int x1, .int x2, .int x3])), (h2, .inl (y0, 3, .inl f0)), (h1, .inl (y1, 3, .inl f1))] U.heap ∧ va_K (dC, dI) vwCl [(y0, .int), (y1, .int)] U ∧ va_D (fun _ => True) [(h0, .inr (9, [.ref h1, .ref h2, .int x0, .int x1, .int x2, .int x3])), (h2, .inl (y0, 3, .inl f0)), (h1, .inl (y1, 3, .inl f1))])) (va_Qv (fun (u : Int32 × Int32 × Int32 × (Nat → Int32)) => iv u.2.2.1 0 1 ∧ True) (fun (u : Int32 × Int32 × Int32 × (Nat → Int32)) (t : State) => va_P (dC, dI) vwCl [(h0, .inr (9, [.ref h1, .ref h2, .int u.1, .int u.2.1, .int x2, .int u.2.2.1])), (h2, .inl (y0, 3, .inl f0)), (h1, .inl (y1, 3, .inl u.2.2.2))] t.heap ∧ va_K (dC, dI) vwCl [(y0, .int), (y1, .int)] t ∧ va_D (va_A [(h0, .inr (9, [.ref h1, .ref h2, .int x0, .int x1, .int x2, .int x3])), (h2, .inl (y0, 3, .inl f0)), (h1, .inl (y1, 3, .inl f1))] sz) [(h0, .inr (9, [.ref h1, .ref h2, .int u.1, .int u.2.1, .int x2, .int u.2.2.1])), (h2, .inl (y0, 3, .inl f0)), (h1, .inl (y1, 3, .inl u.2.2.2))]) (va_A [(h0, .inr (9, [.ref h1, .ref h2, .int x0, .int x1, .int x2, .int x3])), (h2, .inl (y0, 3, .inl f0)), (h1, .inl (y1, 3, .inl f1))] sz)) 0 0 (va_A [(h0, .inr (9, [.ref h1, .ref h2, .int x0, .int x1, .int x2, .int x3])), (h2, .inl (y0, 3, .inl f0)), (h1, .inl (y1, 3, .inl f1))] sz) := by
  refine Met.ofW (cc := cX9_advance) (maxL := 2) (ret := none) (by decide) rfl ?_
  intro p e s m args below meth c s₁ B hml hv
  obtain ⟨rfl, hsz, hP, hK, hD0⟩ := hv
  have hx := B.exec
  have hb := B.bytes
  have hr := B.returns
  have hts0 := atoms_spec (ws := Cond.code yX9_advance cX9_advance 2 none :: lw_G) B.pre
  have hG : ∀ w ∈ lw_G, w.before _ s = true := fun w h => hts0 w (List.mem_cons_of_mem _ h)
  have hown : s.vm.findClass RX9 = some m.cls := findClass_of_methodNamed B.named
  have hlocks := B.notSynchronized
  subst hsz
  have hD := hD0.self (sz := s.heap.size)
  generalize hAe : va_A [(h0, .inr (9, [.ref h1, .ref h2, .int x0, .int x1, .int x2, .int x3])), (h2, .inl (y0, 3, .inl f0)), (h1, .inl (y1, 3, .inl f1))] s.heap.size = A at hD ⊢
  have hA : ∀ q : Nat, s.heap.size ≤ q → A q := fun q h => by rw [← hAe]; exact Or.inr h
  have hS : va_S A s.heap s.heap [] := va_S.rf
  have hP : va_P (dC, dI) vwCl [(h0, .inr (9, [.ref h1, .ref h2, .int x0, .int x1, .int x2, .int x3])), (h2, .inl (y0, 3, .inl f0)), (h1, .inl (y1, 3, .inl f1))] s.heap := hP
  have hl := lv_entry ([.ref h0]) (n := 2) (Nat.le_of_ble_eq_true rfl)
  rw [lg_entry_eq]
  generalize (lg_sl ([.ref h0]) ++ List.replicate (2 - (lg_sl ([.ref h0])).length) Slot.unset).toArray = ls at hl ⊢
  have hl : lv_has ls 2 [(0, .ref h0)] := hl
  generalize ([.ref h0] : List Value).toArray = ar at hG ⊢
  refine wq (fun Q hQ => ?_)
  refine lv_aload_n hx hb dX9_advance_0 rfl (lv_at hl 0 rfl) ?_
  refine va_get (D := (dC, dI)) (ci := 9) (v := .int x0) (C := RX9) (T := TX9) (N := 6) hx hb hG inGX9 hown hK hP 0 rfl rfl 2 (by decide) (hG _ wd_97) (fun _ h9 => h9) rfl dX9_advance_1 ?_
  refine lv_iconst (v := 4) hx hb dX9_advance_4 (by decide) ?_
  refine lv_ishr hx hb dX9_advance_5 ?_
  refine lv_topi (fun v1 ev1 => ?_)
  have iv1 : iv v1 (-134217728) 134217727 := iv_eq ev1 (iv_shr 4 (by decide) (iv_any x0) (by decide) (by decide))
  refine lv_iconst (v := 3) hx hb dX9_advance_6 (by decide) ?_
  refine lv_iand hx hb dX9_advance_7 ?_
  refine lv_topi (fun v2 ev2 => ?_)
  have iv2 : iv v2 0 3 := iv_eq ev2 (iv_and (x := v1) (iv_w (by decide : iv 3 3 3) (by decide) (by decide) : iv 3 0 3))
  refine lv_istore_n (lv' := [(1, .int v2), (0, .ref h0)]) hx hb dX9_advance_8 rfl hl (by decide) rfl (fun ls hl => ?_)
  refine lv_iload_n hx hb dX9_advance_9 rfl (lv_at hl 0 rfl) ?_
  refine lv_if_eq (tgt := 27) hx hb dX9_advance_10 (by decide) (fun c3 => ?_) (fun c3 => ?_)
  · skip
    subst c3
    rw [hQ]
    obtain ⟨hP9, hD9⟩ := nv_sub2 (wc := [(h0, .inr (9, [.ref h1, .ref h2, .int x0, .int x1, .int x2, .int x3])), (h2, .inl (y0, 3, .inl f0)), (h1, .inl (y1, 3, .inl f1))]) hP hD [0, 1, 2] (by decide) rfl
    have hK9 := hK.sub (tys' := [(y0, .int), (y1, .int)]) [0, 1] rfl
    exact W.vret hx hb hr (fun t ht hW => ⟨⟨(x0, x1, x3, f1), rfl, ⟨iv_w ix3 (by decide) (by decide), trivial⟩, by rw [ht]; exact hP9, va_K.moved hW.alike hK9, hD9⟩, hS.F ht⟩) hS.2.2 dX9_advance_27
  · skip
    have j4 : iv v2 1 3 := iv_neLo iv2 (by decide : iv 0 0 0) c3 (by decide)
    refine lv_iload_n hx hb dX9_advance_13 rfl (lv_at hl 0 rfl) ?_
    refine lv_iconst (v := 2) hx hb dX9_advance_14 (by decide) ?_
    refine lv_icmp_eq (tgt := 28) hx hb dX9_advance_15 (by decide) (fun c5 => ?_) (fun c5 => ?_)
    · skip
      subst c5
      refine lv_iload_n hx hb dX9_advance_28 rfl (lv_at hl 0 rfl) ?_
      refine lv_iconst (v := 1) hx hb dX9_advance_29 (by decide) ?_
      refine lv_icmp_ne (tgt := 63) hx hb dX9_advance_30 (by decide) (fun _ => ?_) (fun c => absurd c (by decide))
      refine lv_iload_n hx hb dX9_advance_63 rfl (lv_at hl 0 rfl) ?_
      refine lv_iconst (v := 2) hx hb dX9_advance_64 (by decide) ?_
      refine lv_icmp_ne (tgt := 84) hx hb dX9_advance_65 (by decide) (fun c => absurd (by decide) c) (fun _ => ?_)
      refine lv_aload_n hx hb dX9_advance_68 rfl (lv_at hl 1 rfl) ?_
      refine lv_aload_n hx hb dX9_advance_69 rfl (lv_at hl 1 rfl) ?_
      refine va_get (D := (dC, dI)) (ci := 9) (v := .int x1) (C := RX9) (T := TX9) (N := 6) hx hb hG inGX9 hown hK hP 0 rfl rfl 3 (by decide) (hG _ wd_98) (fun _ h9 => h9) rfl dX9_advance_70 ?_
      refine lv_iconst (v := 1) hx hb dX9_advance_73 (by decide) ?_
      refine lv_iadd hx hb dX9_advance_74 ?_
      refine lv_topi (fun v6 ev6 => ?_)
      refine lv_ldc hx hb hown (hG _ wd_1101) dX9_advance_75 ?_
      refine lv_iand hx hb dX9_advance_77 ?_
      refine lv_topi (fun v7 ev7 => ?_)
      have iv7 : iv v7 0 65535 := iv_eq ev7 (iv_and (x := v6) (iv_w (by decide : iv 65535 65535 65535) (by decide) (by decide) : iv 65535 0 65535))
      refine va_put (D := (dC, dI)) (ci := 9) (v := .int v7) (ty := .int) (C := RX9) (T := TX9) (N := 6) hx hb hG inGX9 tyX9 tyX9_ok nmX9 hown hK hP hD hS 0 rfl rfl 3 (by decide) (hG _ wd_98) (fun _ h9 => h9) rfl (by decide +kernel) rfl rfl (Nat.le_of_ble_eq_true rfl) dX9_advance_78 (fun H locs hP hD hS => ?_)
      obtain ⟨hP, hD⟩ := nv_eq (ws' := [(h0, .inr (9, [.ref h1, .ref h2, .int x0, .int v7, .int x2, .int x3])), (h2, .inl (y0, 3, .inl f0)), (h1, .inl (y1, 3, .inl f1))]) hP hD rfl
      refine lv_goto (tgt := 88) hx hb dX9_advance_81 (by decide) ?_
      refine lv_aload_n hx hb dX9_advance_88 rfl (lv_at hl 1 rfl) ?_
      obtain ⟨hPc, hDc, hFc⟩ := nv_sub3 (wc := [(h0, .inr (9, [.ref h1, .ref h2, .int x0, .int v7, .int x2, .int x3])), (h2, .inl (y0, 3, .inl f0)), (h1, .inl (y1, 3, .inl f1))]) hP hD hS hA [0, 1, 2] (by decide) rfl
      have hKc := hK.sub (tys' := [(y0, .int), (y1, .int)]) [0, 1] rfl
      refine va_callv (va_runV (As := []) (rest := []) ⟨hx, hb, hml, hown, hG⟩ (cX9_raiseFlags_1 l dC dI h0 h1 h2 y0 y1 H.size x0 v7 x2 x3 f0 f1 ix3) (cwV 0 hG (gV wd_1106 wd_1108 wp_54 wd_5 wd_1109) rfl rfl rfl (by decide +kernel) ⟨Nat.le_of_ble_eq_true rfl, Nat.le_of_ble_eq_true rfl⟩) ⟨fun a U g mk q => by obtain ⟨q0, q1, qP, qK, qD⟩ := q; exact ⟨q0, q1, qP, va_K.moved (u := U) (U := U.calling g mk a) (Vm.Alike.refl U.vm) qK, qD⟩, va_recv hKc hPc (ci := 9) (q0 := 0) rfl rfl, fun U hU hW => ⟨rfl, by rw [hU], by rw [hU]; exact hPc, va_K.moved hW.alike hKc, hDc.weaken (fun _ _ _ _ => trivial)⟩⟩ rfl rfl hl.1 rfl (lv_room (Nat.le_of_ble_eq_true rfl)) dX9_advance_89 ⟨by decide, by decide⟩) hS (fun q _ h => hFc q h) hFc (fun u9 t H1 locs ht hvm hw hB hz1 hk1 hS => ?_)
      obtain ⟨u9_0, u9_1, u9_2⟩ := u9
      obtain ⟨hP1, hK1, hD1⟩ := hB
      rw [ht] at hP1
      have hK1 := va_K.moved hvm.symm hK1
      obtain ⟨hP, hD⟩ := nv_join (wf := [(h0, .inr (9, [.ref h1, .ref h2, .int u9_0, .int u9_1, .int x2, .int x3])), (h2, .inl (y0, 3, .inl f0)), (h1, .inl (y1, 3, .inl u9_2))]) hP hD [0, 1, 2] [] rfl rfl (by decide) (by decide) hk1 hFc hP1 hD1 rfl
      have hK := (hK.sub (tys' := []) [] rfl).app hK1
      generalize H1 = H at hP hS ⊢
      have hK : va_K (dC, dI) vwCl [(y0, .int), (y1, .int)] s := hK
      rw [hQ]
      obtain ⟨hP9, hD9⟩ := nv_sub2 (wc := [(h0, .inr (9, [.ref h1, .ref h2, .int u9_0, .int u9_1, .int x2, .int x3])), (h2, .inl (y0, 3, .inl f0)), (h1, .inl (y1, 3, .inl u9_2))]) hP hD [0, 1, 2] (by decide) rfl
      have hK9 := hK.sub (tys' := [(y0, .int), (y1, .int)]) [0, 1] rfl
      exact W.vret hx hb hr (fun t ht hW => ⟨⟨(u9_0, u9_1, x3, u9_2), rfl, ⟨iv_w ix3 (by decide) (by decide), trivial⟩, by rw [ht]; exact hP9, va_K.moved hW.alike hK9, hD9⟩, hS.F ht⟩) hS.2.2 dX9_advance_92
    · skip
      refine lv_aload_n hx hb dX9_advance_18 rfl (lv_at hl 1 rfl) ?_
      refine va_get (D := (dC, dI)) (ci := 9) (v := .ref h2) (C := RX9) (T := TX9) (N := 6) hx hb hG inGX9 hown hK hP 0 rfl rfl 1 (by decide) (hG _ wd_96) (fun _ h9 => h9) rfl dX9_advance_19 ?_
      refine lv_iconst (v := 0) hx hb dX9_advance_22 (by decide) ?_
      refine va_iald hx hb hK hP 1 0 rfl rfl (iv_in (by decide : iv 0 0 0) (by decide) (by decide) : vp_in 0 3) dX9_advance_23 ?_
      refine lv_topi (fun v10 ev10 => ?_)
      refine lv_if_ne (tgt := 28) hx hb dX9_advance_24 (by decide) (fun c11 => ?_) (fun c11 => ?_)
      · skip
        refine lv_iload_n hx hb dX9_advance_28 rfl (lv_at hl 0 rfl) ?_
        refine lv_iconst (v := 1) hx hb dX9_advance_29 (by decide) ?_
        refine jcut (a := ∀ (b24 : Int32) (b25 : Int32) (ib25 : iv b25 0 1) (H : Heap) (locs : List Loc) (hK : va_K (dC, dI) vwCl [(y1, .int), (y0, .int)] s) (hP : va_P (dC, dI) vwCl [(h1, .inl (y1, 3, .inl f1)), (h0, .inr (9, [.ref h1, .ref h2, .int x0, .int b24, .int x2, .int b25])), (h2, .inl (y0, 3, .inl f0))] H) (hD : va_D A [(h1, .inl (y1, 3, .inl f1)), (h0, .inr (9, [.ref h1, .ref h2, .int x0, .int b24, .int x2, .int b25])), (h2, .inl (y0, 3, .inl f0))]) (hS : va_S A s.heap H locs) (ls : Array Slot) (hl : lv_has ls 2 [(0, .ref h0)]), W p l e (headSpec (Cond.code yX9_advance cX9_advance 2 none :: lw_G) ({ frames := 1, cells := 0, slots := 0, locals := 21 })).room s m ar below meth c H locs 0 0 Q (F0 m 88 ls [])) ?_ (fun j26 => ?_)
        · skip
          intro b24 b25 ib25 H locs hK hP hD hS ls hl
          refine lv_aload_n hx hb dX9_advance_88 rfl (lv_at hl 0 rfl) ?_
          obtain ⟨hPc, hDc, hFc⟩ := nv_sub3 (wc := [(h0, .inr (9, [.ref h1, .ref h2, .int x0, .int b24, .int x2, .int b25])), (h2, .inl (y0, 3, .inl f0)), (h1, .inl (y1, 3, .inl f1))]) hP hD hS hA [1, 2, 0] (by decide) rfl
          have hKc := hK.sub (tys' := [(y0, .int), (y1, .int)]) [1, 0] rfl
          refine va_callv (va_runV (As := []) (rest := []) ⟨hx, hb, hml, hown, hG⟩ (cX9_raiseFlags_1 l dC dI h0 h1 h2 y0 y1 H.size x0 b24 x2 b25 f0 f1 ib25) (cwV 0 hG (gV wd_1106 wd_1108 wp_54 wd_5 wd_1109) rfl rfl rfl (by decide +kernel) ⟨Nat.le_of_ble_eq_true rfl, Nat.le_of_ble_eq_true rfl⟩) ⟨fun a U g mk q => by obtain ⟨q0, q1, qP, qK, qD⟩ := q; exact ⟨q0, q1, qP, va_K.moved (u := U) (U := U.calling g mk a) (Vm.Alike.refl U.vm) qK, qD⟩, va_recv hKc hPc (ci := 9) (q0 := 0) rfl rfl, fun U hU hW => ⟨rfl, by rw [hU], by rw [hU]; exact hPc, va_K.moved hW.alike hKc, hDc.weaken (fun _ _ _ _ => trivial)⟩⟩ rfl rfl hl.1 rfl (lv_room (Nat.le_of_ble_eq_true rfl)) dX9_advance_89 ⟨by decide, by decide⟩) hS (fun q _ h => hFc q h) hFc (fun u28 t H1 locs ht hvm hw hB hz1 hk1 hS => ?_)
          obtain ⟨u28_0, u28_1, u28_2⟩ := u28
          obtain ⟨hP1, hK1, hD1⟩ := hB
          rw [ht] at hP1
          have hK1 := va_K.moved hvm.symm hK1
          obtain ⟨hP, hD⟩ := nv_join (wf := [(h0, .inr (9, [.ref h1, .ref h2, .int u28_0, .int u28_1, .int x2, .int b25])), (h2, .inl (y0, 3, .inl f0)), (h1, .inl (y1, 3, .inl u28_2))]) hP hD [1, 2, 0] [] rfl rfl (by decide) (by decide) hk1 hFc hP1 hD1 rfl
          have hK := (hK.sub (tys' := []) [] rfl).app hK1
          generalize H1 = H at hP hS ⊢
          have hK : va_K (dC, dI) vwCl [(y0, .int), (y1, .int)] s := hK
          rw [hQ]
          obtain ⟨hP9, hD9⟩ := nv_sub2 (wc := [(h0, .inr (9, [.ref h1, .ref h2, .int u28_0, .int u28_1, .int x2, .int b25])), (h2, .inl (y0, 3, .inl f0)), (h1, .inl (y1, 3, .inl u28_2))]) hP hD [0, 1, 2] (by decide) rfl
          have hK9 := hK.sub (tys' := [(y0, .int), (y1, .int)]) [0, 1] rfl
          exact W.vret hx hb hr (fun t ht hW => ⟨⟨(u28_0, u28_1, b25, u28_2), rfl, ⟨iv_w ib25 (by decide) (by decide), trivial⟩, by rw [ht]; exact hP9, va_K.moved hW.alike hK9, hD9⟩, hS.F ht⟩) hS.2.2 dX9_advance_92
        refine lv_icmp_ne (tgt := 63) hx hb dX9_advance_30 (by decide) (fun c12 => ?_) (fun c12 => ?_)
        · skip
          have j29 : iv v2 2 3 := iv_neLo j4 (by decide : iv 1 1 1) c12 (by decide)
          refine lv_iload_n hx hb dX9_advance_63 rfl (lv_at hl 0 rfl) ?_
          refine lv_iconst (v := 2) hx hb dX9_advance_64 (by decide) ?_
          refine lv_icmp_ne (tgt := 84) hx hb dX9_advance_65 (by decide) (fun _ => ?_) (fun c => absurd c c5)
          refine lv_aload_n hx hb dX9_advance_84 rfl (lv_at hl 1 rfl) ?_
          obtain ⟨hPc, hDc, hFc⟩ := nv_sub3 (wc := [(h0, .inr (9, [.ref h1, .ref h2, .int x0, .int x1, .int x2, .int x3])), (h2, .inl (y0, 3, .inl f0))]) hP hD hS hA [0, 1] (by decide) rfl
          have hKc := hK.sub (tys' := [(y0, .int)]) [0] rfl
          refine va_callv (va_runV (As := []) (rest := []) ⟨hx, hb, hml, hown, hG⟩ (cX9_swing_1 l dC dI h0 h1 h2 y0 s.heap.size x0 x1 x2 x3 f0 ix3) (cwV 0 hG (gV wd_1102 wd_1104 wp_53 wd_5 wd_1105) rfl rfl rfl (by decide +kernel) ⟨Nat.le_of_ble_eq_true rfl, Nat.le_of_ble_eq_true rfl⟩) ⟨fun a U g mk q => by obtain ⟨q0, q1, qP, qK, qD⟩ := q; exact ⟨q0, q1, qP, va_K.moved (u := U) (U := U.calling g mk a) (Vm.Alike.refl U.vm) qK, qD⟩, va_recv hKc hPc (ci := 9) (q0 := 0) rfl rfl, fun U hU hW => ⟨rfl, by rw [hU], by rw [hU]; exact hPc, va_K.moved hW.alike hKc, hDc.weaken (fun _ _ _ _ => trivial)⟩⟩ rfl rfl hl.1 rfl (lv_room (Nat.le_of_ble_eq_true rfl)) dX9_advance_85 ⟨by decide, by decide⟩) hS (fun q _ h => hFc q h) hFc (fun u31 t H1 locs ht hvm hw hB hz1 hk1 hS => ?_)
          obtain ⟨u31_0, u31_1⟩ := u31
          have hw : iv u31_1 0 1 ∧ True := hw
          obtain ⟨iu31_1, -⟩ := hw
          obtain ⟨hP1, hK1, hD1⟩ := hB
          rw [ht] at hP1
          have hK1 := va_K.moved hvm.symm hK1
          obtain ⟨hP, hD⟩ := nv_join (wf := [(h1, .inl (y1, 3, .inl f1)), (h0, .inr (9, [.ref h1, .ref h2, .int x0, .int u31_0, .int x2, .int u31_1])), (h2, .inl (y0, 3, .inl f0))]) hP hD [0, 1] [2] rfl rfl (by decide) (by decide) hk1 hFc hP1 hD1 rfl
          have hK := (hK.sub (tys' := [(y1, .int)]) [1] rfl).app hK1
          generalize H1 = H at hP hS ⊢
          have hK : va_K (dC, dI) vwCl [(y1, .int), (y0, .int)] s := hK
          exact j26 u31_0 u31_1 iu31_1 _ _ hK hP hD hS ls (lv_sub hl [1] rfl)
        · skip
          subst c12
          refine lv_aload_n hx hb dX9_advance_33 rfl (lv_at hl 1 rfl) ?_
          refine lv_aload_n hx hb dX9_advance_34 rfl (lv_at hl 1 rfl) ?_
          refine va_get (D := (dC, dI)) (ci := 9) (v := .int x1) (C := RX9) (T := TX9) (N := 6) hx hb hG inGX9 hown hK hP 0 rfl rfl 3 (by decide) (hG _ wd_98) (fun _ h9 => h9) rfl dX9_advance_35 ?_
          refine lv_aload_n hx hb dX9_advance_38 rfl (lv_at hl 1 rfl) ?_
          refine va_get (D := (dC, dI)) (ci := 9) (v := .ref h2) (C := RX9) (T := TX9) (N := 6) hx hb hG inGX9 hown hK hP 0 rfl rfl 1 (by decide) (hG _ wd_96) (fun _ h9 => h9) rfl dX9_advance_39 ?_
          refine lv_iconst (v := 0) hx hb dX9_advance_42 (by decide) ?_
          refine va_iald hx hb hK hP 1 0 rfl rfl (iv_in (by decide : iv 0 0 0) (by decide) (by decide) : vp_in 0 3) dX9_advance_43 ?_
          refine lv_topi (fun v32 ev32 => ?_)
          refine jcut (a := ∀ (b39 : Int32) (ib39 : iv b39 (-2147483647) 2147483647) (H : Heap) (locs : List Loc) (hK : va_K (dC, dI) vwCl [(y0, .int), (y1, .int)] s) (hP : va_P (dC, dI) vwCl [(h0, .inr (9, [.ref h1, .ref h2, .int x0, .int x1, .int x2, .int x3])), (h2, .inl (y0, 3, .inl f0)), (h1, .inl (y1, 3, .inl f1))] H) (hD : va_D A [(h0, .inr (9, [.ref h1, .ref h2, .int x0, .int x1, .int x2, .int x3])), (h2, .inl (y0, 3, .inl f0)), (h1, .inl (y1, 3, .inl f1))]) (hS : va_S A s.heap H locs) (ls : Array Slot) (hl : lv_has ls 2 [(0, .ref h0)]), W p l e (headSpec (Cond.code yX9_advance cX9_advance 2 none :: lw_G) ({ frames := 1, cells := 0, slots := 0, locals := 21 })).room s m ar below meth c H locs 0 0 Q (F0 m 57 ls [.int b39, .ref h0])) ?_ (fun j40 => ?_)
          · skip
            intro b39 ib39 H locs hK hP hD hS ls hl
            refine va_put (D := (dC, dI)) (ci := 9) (v := .int b39) (ty := .int) (C := RX9) (T := TX9) (N := 6) hx hb hG inGX9 tyX9 tyX9_ok nmX9 hown hK hP hD hS 0 rfl rfl 3 (by decide) (hG _ wd_98) (fun _ h9 => h9) rfl (by decide +kernel) rfl rfl (Nat.le_of_ble_eq_true rfl) dX9_advance_57 (fun H locs hP hD hS => ?_)
            obtain ⟨hP, hD⟩ := nv_eq (ws' := [(h0, .inr (9, [.ref h1, .ref h2, .int x0, .int b39, .int x2, .int x3])), (h2, .inl (y0, 3, .inl f0)), (h1, .inl (y1, 3, .inl f1))]) hP hD rfl
            refine lv_goto (tgt := 88) hx hb dX9_advance_60 (by decide) ?_
            exact j26 b39 x3 ix3 _ _ (hK.sub (tys' := _) [1, 0] rfl) (hP.sub (ws' := _) [2, 0, 1] rfl) (hD.sub (ws' := _) [2, 0, 1] (by decide) rfl) hS ls hl
          refine lv_icmp_lt (tgt := 51) hx hb dX9_advance_44 (by decide) (fun c33 => ?_) (fun c33 => ?_)
          · skip
            have rl41 : x1.toInt < v32.toInt := Int32.lt_iff_toInt_lt.mp c33
            have j42 : iv x1 (-2147483648) 2147483646 := iv_ltL (iv_any x1) (iv_any v32) c33 (by decide)
            have j43 : iv v32 (-2147483647) 2147483647 := iv_ltR (iv_any x1) (iv_any v32) c33 (by decide)
            refine lv_aload_n hx hb dX9_advance_51 rfl (lv_at hl 1 rfl) ?_
            refine va_get (D := (dC, dI)) (ci := 9) (v := .int x1) (C := RX9) (T := TX9) (N := 6) hx hb hG inGX9 hown hK hP 0 rfl rfl 3 (by decide) (hG _ wd_98) (fun _ h9 => h9) rfl dX9_advance_52 ?_
            refine lv_iconst (v := 1) hx hb dX9_advance_55 (by decide) ?_
            refine lv_iadd hx hb dX9_advance_56 ?_
            refine lv_topi (fun v44 ev44 => ?_)
            have iv44 : iv v44 (-2147483647) 2147483647 := iv_eq ev44 (iv_add j42 (by decide : iv 1 1 1) (by decide) (by decide))
            have tv44 : v44.toInt = x1.toInt + 1 := iv_addT ev44 j42 (by decide) (by decide) (by decide)
            exact j40 v44 iv44 _ _ hK hP hD hS ls (lv_sub hl [1] rfl)
          · skip
            have rl45 : v32.toInt ≤ x1.toInt := iv_nlt2 c33
            refine lv_iconst (v := 0) hx hb dX9_advance_47 (by decide) ?_
            refine lv_goto (tgt := 57) hx hb dX9_advance_48 (by decide) ?_
            exact j40 0 (iv_w (by decide : iv 0 0 0) (by decide) (by decide)) _ _ hK hP hD hS ls (lv_sub hl [1] rfl)
      · skip
        subst c11
        rw [hQ]
        obtain ⟨hP9, hD9⟩ := nv_sub2 (wc := [(h0, .inr (9, [.ref h1, .ref h2, .int x0, .int x1, .int x2, .int x3])), (h2, .inl (y0, 3, .inl f0)), (h1, .inl (y1, 3, .inl f1))]) hP hD [0, 1, 2] (by decide) rfl
        have hK9 := hK.sub (tys' := [(y0, .int), (y1, .int)]) [0, 1] rfl
        exact W.vret hx hb hr (fun t ht hW => ⟨⟨(x0, x1, x3, f1), rfl, ⟨iv_w ix3 (by decide) (by decide), trivial⟩, by rw [ht]; exact hP9, va_K.moved hW.alike hK9, hD9⟩, hS.F ht⟩) hS.2.2 dX9_advance_27
set_option maxHeartbeats 100000000 in
set_option maxRecDepth 100000 in
theorem cX9_beat_1 (l : Launch) (dC : Nat → ClassId) (dI : Nat → Nat → Nat) (h0 h1 h2 : Nat) (y0 y1 : ClassId) (sz : Nat) (x0 x1 x2 x3 : Int32) (f0 f1 : Nat → Int32) (ix3 : iv x3 0 1) : Met l yX9_beat (Cond.code yX9_beat cX9_beat 1 none :: lw_G) ({ frames := 2, cells := 0, slots := 0, locals := 42 }) (va_Pc [.ref h0] (fun U => U.heap.size = sz ∧ va_P (dC, dI) vwCl [(h0, .inr (9, [.ref h1, .ref h2, .int x0, .int x1, .int x2, .int x3])), (h2, .inl (y0, 3, .inl f0)), (h1, .inl (y1, 3, .inl f1))] U.heap ∧ va_K (dC, dI) vwCl [(y0, .int), (y1, .int)] U ∧ va_D (fun _ => True) [(h0, .inr (9, [.ref h1, .ref h2, .int x0, .int x1, .int x2, .int x3])), (h2, .inl (y0, 3, .inl f0)), (h1, .inl (y1, 3, .inl f1))])) (va_Qv (fun (u : Int32 × Int32 × Int32 × Int32 × (Nat → Int32)) => iv u.2.2.1 (-2147483648) 2147483646 ∧ iv u.2.2.2.1 0 1 ∧ True) (fun (u : Int32 × Int32 × Int32 × Int32 × (Nat → Int32)) (t : State) => va_P (dC, dI) vwCl [(h0, .inr (9, [.ref h1, .ref h2, .int u.1, .int u.2.1, .int u.2.2.1, .int u.2.2.2.1])), (h2, .inl (y0, 3, .inl f0)), (h1, .inl (y1, 3, .inl u.2.2.2.2))] t.heap ∧ va_K (dC, dI) vwCl [(y0, .int), (y1, .int)] t ∧ va_D (va_A [(h0, .inr (9, [.ref h1, .ref h2, .int x0, .int x1, .int x2, .int x3])), (h2, .inl (y0, 3, .inl f0)), (h1, .inl (y1, 3, .inl f1))] sz) [(h0, .inr (9, [.ref h1, .ref h2, .int u.1, .int u.2.1, .int u.2.2.1, .int u.2.2.2.1])), (h2, .inl (y0, 3, .inl f0)), (h1, .inl (y1, 3, .inl u.2.2.2.2))]) (va_A [(h0, .inr (9, [.ref h1, .ref h2, .int x0, .int x1, .int x2, .int x3])), (h2, .inl (y0, 3, .inl f0)), (h1, .inl (y1, 3, .inl f1))] sz)) 0 0 (va_A [(h0, .inr (9, [.ref h1, .ref h2, .int x0, .int x1, .int x2, .int x3])), (h2, .inl (y0, 3, .inl f0)), (h1, .inl (y1, 3, .inl f1))] sz) := by
  refine Met.ofW (cc := cX9_beat) (maxL := 1) (ret := none) (by decide) rfl ?_
  intro p e s m args below meth c s₁ B hml hv
  obtain ⟨rfl, hsz, hP, hK, hD0⟩ := hv
  have hx := B.exec
  have hb := B.bytes
  have hr := B.returns
  have hts0 := atoms_spec (ws := Cond.code yX9_beat cX9_beat 1 none :: lw_G) B.pre
  have hG : ∀ w ∈ lw_G, w.before _ s = true := fun w h => hts0 w (List.mem_cons_of_mem _ h)
  have hown : s.vm.findClass RX9 = some m.cls := findClass_of_methodNamed B.named
  have hlocks := B.notSynchronized
  subst hsz
  have hD := hD0.self (sz := s.heap.size)
  generalize hAe : va_A [(h0, .inr (9, [.ref h1, .ref h2, .int x0, .int x1, .int x2, .int x3])), (h2, .inl (y0, 3, .inl f0)), (h1, .inl (y1, 3, .inl f1))] s.heap.size = A at hD ⊢
  have hA : ∀ q : Nat, s.heap.size ≤ q → A q := fun q h => by rw [← hAe]; exact Or.inr h
  have hS : va_S A s.heap s.heap [] := va_S.rf
  have hP : va_P (dC, dI) vwCl [(h0, .inr (9, [.ref h1, .ref h2, .int x0, .int x1, .int x2, .int x3])), (h2, .inl (y0, 3, .inl f0)), (h1, .inl (y1, 3, .inl f1))] s.heap := hP
  have hl := lv_entry ([.ref h0]) (n := 1) (Nat.le_of_ble_eq_true rfl)
  rw [lg_entry_eq]
  generalize (lg_sl ([.ref h0]) ++ List.replicate (1 - (lg_sl ([.ref h0])).length) Slot.unset).toArray = ls at hl ⊢
  have hl : lv_has ls 1 [(0, .ref h0)] := hl
  generalize ([.ref h0] : List Value).toArray = ar at hG ⊢
  refine wq (fun Q hQ => ?_)
  refine lv_aload_n hx hb dX9_beat_0 rfl (lv_at hl 0 rfl) ?_
  refine lv_dup hx hb dX9_beat_1 rfl ?_
  refine va_get (D := (dC, dI)) (ci := 9) (v := .int x2) (C := RX9) (T := TX9) (N := 6) hx hb hG inGX9 hown hK hP 0 rfl rfl 4 (by decide) (hG _ wd_99) (fun _ h9 => h9) rfl dX9_beat_2 ?_
  refine lv_iconst (v := 1) hx hb dX9_beat_5 (by decide) ?_
  refine lv_iadd hx hb dX9_beat_6 ?_
  refine lv_topi (fun v1 ev1 => ?_)
  refine va_put (D := (dC, dI)) (ci := 9) (v := .int v1) (ty := .int) (C := RX9) (T := TX9) (N := 6) hx hb hG inGX9 tyX9 tyX9_ok nmX9 hown hK hP hD hS 0 rfl rfl 4 (by decide) (hG _ wd_99) (fun _ h9 => h9) rfl (by decide +kernel) rfl rfl (Nat.le_of_ble_eq_true rfl) dX9_beat_7 (fun H locs hP hD hS => ?_)
  obtain ⟨hP, hD⟩ := nv_eq (ws' := [(h0, .inr (9, [.ref h1, .ref h2, .int x0, .int x1, .int v1, .int x3])), (h2, .inl (y0, 3, .inl f0)), (h1, .inl (y1, 3, .inl f1))]) hP hD rfl
  refine lv_aload_n hx hb dX9_beat_10 rfl (lv_at hl 0 rfl) ?_
  refine va_get (D := (dC, dI)) (ci := 9) (v := .int v1) (C := RX9) (T := TX9) (N := 6) hx hb hG inGX9 hown hK hP 0 rfl rfl 4 (by decide) (hG _ wd_99) (fun _ h9 => h9) rfl dX9_beat_11 ?_
  refine lv_iconst (v := 1) hx hb dX9_beat_14 (by decide) ?_
  refine lv_aload_n hx hb dX9_beat_15 rfl (lv_at hl 0 rfl) ?_
  refine va_get (D := (dC, dI)) (ci := 9) (v := .int x0) (C := RX9) (T := TX9) (N := 6) hx hb hG inGX9 hown hK hP 0 rfl rfl 2 (by decide) (hG _ wd_97) (fun _ h9 => h9) rfl dX9_beat_16 ?_
  refine lv_bipush (v := 6) hx hb dX9_beat_19 (by decide) ?_
  refine lv_ishr hx hb dX9_beat_21 ?_
  refine lv_topi (fun v2 ev2 => ?_)
  have iv2 : iv v2 (-33554432) 33554431 := iv_eq ev2 (iv_shr 6 (by decide) (iv_any x0) (by decide) (by decide))
  refine lv_iconst (v := 3) hx hb dX9_beat_22 (by decide) ?_
  refine lv_iand hx hb dX9_beat_23 ?_
  refine lv_topi (fun v3 ev3 => ?_)
  have iv3 : iv v3 0 3 := iv_eq ev3 (iv_and (x := v2) (iv_w (by decide : iv 3 3 3) (by decide) (by decide) : iv 3 0 3))
  refine lv_ishl hx hb dX9_beat_24 ?_
  refine lv_topi (fun v4 ev4 => ?_)
  refine jcut (a := ∀ (b12 : Int32) (b13 : Int32) (b14 : Int32) (b15 : Int32) (b16 : Nat → Int32) (ib14 : iv b14 (-2147483648) 2147483646) (ib15 : iv b15 0 1) (H : Heap) (locs : List Loc) (hK : va_K (dC, dI) vwCl [(y0, .int), (y1, .int)] s) (hP : va_P (dC, dI) vwCl [(h0, .inr (9, [.ref h1, .ref h2, .int b12, .int b13, .int b14, .int b15])), (h2, .inl (y0, 3, .inl f0)), (h1, .inl (y1, 3, .inl b16))] H) (hD : va_D A [(h0, .inr (9, [.ref h1, .ref h2, .int b12, .int b13, .int b14, .int b15])), (h2, .inl (y0, 3, .inl f0)), (h1, .inl (y1, 3, .inl b16))]) (hS : va_S A s.heap H locs) (ls : Array Slot) (hl : lv_has ls 1 []), W p l e (headSpec (Cond.code yX9_beat cX9_beat 1 none :: lw_G) ({ frames := 2, cells := 0, slots := 0, locals := 42 })).room s m ar below meth c H locs 0 0 Q (F0 m 37 ls [])) ?_ (fun j17 => ?_)
  · skip
    intro b12 b13 b14 b15 b16 ib14 ib15 H locs hK hP hD hS ls hl
    rw [hQ]
    obtain ⟨hP9, hD9⟩ := nv_sub2 (wc := [(h0, .inr (9, [.ref h1, .ref h2, .int b12, .int b13, .int b14, .int b15])), (h2, .inl (y0, 3, .inl f0)), (h1, .inl (y1, 3, .inl b16))]) hP hD [0, 1, 2] (by decide) rfl
    have hK9 := hK.sub (tys' := [(y0, .int), (y1, .int)]) [0, 1] rfl
    exact W.vret hx hb hr (fun t ht hW => ⟨⟨(b12, b13, b14, b15, b16), rfl, ⟨iv_w ib14 (by decide) (by decide), iv_w ib15 (by decide) (by decide), trivial⟩, by rw [ht]; exact hP9, va_K.moved hW.alike hK9, hD9⟩, hS.F ht⟩) hS.2.2 dX9_beat_37
  refine lv_icmp_lt (tgt := 37) hx hb dX9_beat_25 (by decide) (fun c5 => ?_) (fun c5 => ?_)
  · skip
    have rl18 : v1.toInt < v4.toInt := Int32.lt_iff_toInt_lt.mp c5
    have j19 : iv v1 (-2147483648) 2147483646 := iv_ltL (iv_any v1) (iv_any v4) c5 (by decide)
    have j20 : iv v4 (-2147483647) 2147483647 := iv_ltR (iv_any v1) (iv_any v4) c5 (by decide)
    exact j17 x0 x1 v1 x3 f1 j19 ix3 _ _ hK hP hD hS ls (lv_sub hl [] rfl)
  · skip
    have rl21 : v4.toInt ≤ v1.toInt := iv_nlt2 c5
    refine lv_aload_n hx hb dX9_beat_28 rfl (lv_at hl 0 rfl) ?_
    refine lv_iconst (v := 0) hx hb dX9_beat_29 (by decide) ?_
    refine va_put (D := (dC, dI)) (ci := 9) (v := .int 0) (ty := .int) (C := RX9) (T := TX9) (N := 6) hx hb hG inGX9 tyX9 tyX9_ok nmX9 hown hK hP hD hS 0 rfl rfl 4 (by decide) (hG _ wd_99) (fun _ h9 => h9) rfl (by decide +kernel) rfl rfl (Nat.le_of_ble_eq_true rfl) dX9_beat_30 (fun H locs hP hD hS => ?_)
    obtain ⟨hP, hD⟩ := nv_eq (ws' := [(h0, .inr (9, [.ref h1, .ref h2, .int x0, .int x1, .int 0, .int x3])), (h2, .inl (y0, 3, .inl f0)), (h1, .inl (y1, 3, .inl f1))]) hP hD rfl
    refine lv_aload_n hx hb dX9_beat_33 rfl (lv_at hl 0 rfl) ?_
    obtain ⟨hPc, hDc, hFc⟩ := nv_sub3 (wc := [(h0, .inr (9, [.ref h1, .ref h2, .int x0, .int x1, .int 0, .int x3])), (h2, .inl (y0, 3, .inl f0)), (h1, .inl (y1, 3, .inl f1))]) hP hD hS hA [0, 1, 2] (by decide) rfl
    have hKc := hK.sub (tys' := [(y0, .int), (y1, .int)]) [0, 1] rfl
    refine va_callv (va_runV (As := []) (rest := []) ⟨hx, hb, hml, hown, hG⟩ (cX9_advance_1 l dC dI h0 h1 h2 y0 y1 H.size x0 x1 0 x3 f0 f1 ix3) (cwV 0 hG (gV wd_1097 wd_1099 wp_52 wd_5 wd_1100) rfl rfl rfl (by decide +kernel) ⟨Nat.le_of_ble_eq_true rfl, Nat.le_of_ble_eq_true rfl⟩) ⟨fun a U g mk q => by obtain ⟨q0, q1, qP, qK, qD⟩ := q; exact ⟨q0, q1, qP, va_K.moved (u := U) (U := U.calling g mk a) (Vm.Alike.refl U.vm) qK, qD⟩, va_recv hKc hPc (ci := 9) (q0 := 0) rfl rfl, fun U hU hW => ⟨rfl, by rw [hU], by rw [hU]; exact hPc, va_K.moved hW.alike hKc, hDc.weaken (fun _ _ _ _ => trivial)⟩⟩ rfl rfl hl.1 rfl (lv_room (Nat.le_of_ble_eq_true rfl)) dX9_beat_34 ⟨by decide, by decide⟩) hS (fun q _ h => hFc q h) hFc (fun u23 t H1 locs ht hvm hw hB hz1 hk1 hS => ?_)
    obtain ⟨u23_0, u23_1, u23_2, u23_3⟩ := u23
    have hw : iv u23_2 0 1 ∧ True := hw
    obtain ⟨iu23_2, -⟩ := hw
    obtain ⟨hP1, hK1, hD1⟩ := hB
    rw [ht] at hP1
    have hK1 := va_K.moved hvm.symm hK1
    obtain ⟨hP, hD⟩ := nv_join (wf := [(h0, .inr (9, [.ref h1, .ref h2, .int u23_0, .int u23_1, .int 0, .int u23_2])), (h2, .inl (y0, 3, .inl f0)), (h1, .inl (y1, 3, .inl u23_3))]) hP hD [0, 1, 2] [] rfl rfl (by decide) (by decide) hk1 hFc hP1 hD1 rfl
    have hK := (hK.sub (tys' := []) [] rfl).app hK1
    generalize H1 = H at hP hS ⊢
    have hK : va_K (dC, dI) vwCl [(y0, .int), (y1, .int)] s := hK
    exact j17 u23_0 u23_1 0 u23_2 u23_3 (iv_w (by decide : iv 0 0 0) (by decide) (by decide)) iu23_2 _ _ hK hP hD hS ls (lv_sub hl [] rfl)
