set_option maxHeartbeats 100000000 in
set_option maxRecDepth 100000 in
theorem cX8_tellOne_1 (l : Launch) (dC : Nat → ClassId) (dI : Nat → Nat → Nat) (adK adV : Nat → Nat) (h0 h1 h2 h3 h4 h5 h6 h7 h8 : Nat) (y0 y1 y2 y3 : ClassId) (sz : Nat) (x0 x1 x2 x3 x4 x5 x6 x7 x8 x9 x10 x11 x12 x13 x14 x15 x16 x17 x18 : Int32) (f0 f1 f2 f3 : Nat → Int32) (ix1 : iv x1 0 64) (ix7 : iv x7 0 1) : Met l yX8_tellOne (Cond.code yX8_tellOne cX8_tellOne 3 (some .boolean) :: lw_G) ({ frames := 6, cells := 0, slots := 0, locals := 130 }) (va_Pc [.ref h0, .int x0] (fun U => U.heap.size = sz ∧ va_P (dC, dI) vwCl [(h0, .inr (8, [.ref h1, .ref h2, .int x1, .int x2, .int x3])), (h1, .inl (y0, 64, .inl f0)), (h2, .inr (1, [.ref h3, .ref h4, .ref h5, .ref h6])), (h3, .inl (y1, 32768, .inl f1)), (h6, .inr (9, [.ref h7, .ref h8, .int x4, .int x5, .int x6, .int x7])), (h8, .inl (y2, 3, .inl f2)), (h7, .inl (y3, 3, .inl f3)), (h5, .inr (5, [.int x8, .int x9, .int x10, .int x11, .int x12, .int x13])), (h4, .inr (7, [.int x14, .int x15, .int x16, .int x17, .int x18]))] U.heap ∧ va_K (dC, dI) vwCl [(y0, .int), (y1, .int), (y2, .int), (y3, .int)] U ∧ va_D (fun _ => True) [(h0, .inr (8, [.ref h1, .ref h2, .int x1, .int x2, .int x3])), (h1, .inl (y0, 64, .inl f0)), (h2, .inr (1, [.ref h3, .ref h4, .ref h5, .ref h6])), (h3, .inl (y1, 32768, .inl f1)), (h6, .inr (9, [.ref h7, .ref h8, .int x4, .int x5, .int x6, .int x7])), (h8, .inl (y2, 3, .inl f2)), (h7, .inl (y3, 3, .inl f3)), (h5, .inr (5, [.int x8, .int x9, .int x10, .int x11, .int x12, .int x13])), (h4, .inr (7, [.int x14, .int x15, .int x16, .int x17, .int x18]))] ∧ ev adK adV (va_A [(h0, .inr (8, [.ref h1, .ref h2, .int x1, .int x2, .int x3])), (h1, .inl (y0, 64, .inl f0)), (h2, .inr (1, [.ref h3, .ref h4, .ref h5, .ref h6])), (h3, .inl (y1, 32768, .inl f1)), (h6, .inr (9, [.ref h7, .ref h8, .int x4, .int x5, .int x6, .int x7])), (h8, .inl (y2, 3, .inl f2)), (h7, .inl (y3, 3, .inl f3)), (h5, .inr (5, [.int x8, .int x9, .int x10, .int x11, .int x12, .int x13])), (h4, .inr (7, [.int x14, .int x15, .int x16, .int x17, .int x18]))] sz) U U.heap)) (va_Qi (fun (r : Int32) (u : Int32 × Int32 × (Nat → Int32)) => iv r 0 1 ∧ iv u.1 0 64 ∧ True) (fun (u : Int32 × Int32 × (Nat → Int32)) (t : State) => va_P (dC, dI) vwCl [(h0, .inr (8, [.ref h1, .ref h2, .int u.1, .int x2, .int u.2.1])), (h1, .inl (y0, 64, .inl u.2.2)), (h2, .inr (1, [.ref h3, .ref h4, .ref h5, .ref h6])), (h3, .inl (y1, 32768, .inl f1)), (h6, .inr (9, [.ref h7, .ref h8, .int x4, .int x5, .int x6, .int x7])), (h8, .inl (y2, 3, .inl f2)), (h7, .inl (y3, 3, .inl f3)), (h5, .inr (5, [.int x8, .int x9, .int x10, .int x11, .int x12, .int x13])), (h4, .inr (7, [.int x14, .int x15, .int x16, .int x17, .int x18]))] t.heap ∧ va_K (dC, dI) vwCl [(y0, .int), (y1, .int), (y2, .int), (y3, .int)] t ∧ va_D (va_A [(h0, .inr (8, [.ref h1, .ref h2, .int x1, .int x2, .int x3])), (h1, .inl (y0, 64, .inl f0)), (h2, .inr (1, [.ref h3, .ref h4, .ref h5, .ref h6])), (h3, .inl (y1, 32768, .inl f1)), (h6, .inr (9, [.ref h7, .ref h8, .int x4, .int x5, .int x6, .int x7])), (h8, .inl (y2, 3, .inl f2)), (h7, .inl (y3, 3, .inl f3)), (h5, .inr (5, [.int x8, .int x9, .int x10, .int x11, .int x12, .int x13])), (h4, .inr (7, [.int x14, .int x15, .int x16, .int x17, .int x18]))] sz) [(h0, .inr (8, [.ref h1, .ref h2, .int u.1, .int x2, .int u.2.1])), (h1, .inl (y0, 64, .inl u.2.2)), (h2, .inr (1, [.ref h3, .ref h4, .ref h5, .ref h6])), (h3, .inl (y1, 32768, .inl f1)), (h6, .inr (9, [.ref h7, .ref h8, .int x4, .int x5, .int x6, .int x7])), (h8, .inl (y2, 3, .inl f2)), (h7, .inl (y3, 3, .inl f3)), (h5, .inr (5, [.int x8, .int x9, .int x10, .int x11, .int x12, .int x13])), (h4, .inr (7, [.int x14, .int x15, .int x16, .int x17, .int x18]))]) (va_A [(h0, .inr (8, [.ref h1, .ref h2, .int x1, .int x2, .int x3])), (h1, .inl (y0, 64, .inl f0)), (h2, .inr (1, [.ref h3, .ref h4, .ref h5, .ref h6])), (h3, .inl (y1, 32768, .inl f1)), (h6, .inr (9, [.ref h7, .ref h8, .int x4, .int x5, .int x6, .int x7])), (h8, .inl (y2, 3, .inl f2)), (h7, .inl (y3, 3, .inl f3)), (h5, .inr (5, [.int x8, .int x9, .int x10, .int x11, .int x12, .int x13])), (h4, .inr (7, [.int x14, .int x15, .int x16, .int x17, .int x18]))] sz)) 0 0 (va_A [(h0, .inr (8, [.ref h1, .ref h2, .int x1, .int x2, .int x3])), (h1, .inl (y0, 64, .inl f0)), (h2, .inr (1, [.ref h3, .ref h4, .ref h5, .ref h6])), (h3, .inl (y1, 32768, .inl f1)), (h6, .inr (9, [.ref h7, .ref h8, .int x4, .int x5, .int x6, .int x7])), (h8, .inl (y2, 3, .inl f2)), (h7, .inl (y3, 3, .inl f3)), (h5, .inr (5, [.int x8, .int x9, .int x10, .int x11, .int x12, .int x13])), (h4, .inr (7, [.int x14, .int x15, .int x16, .int x17, .int x18]))] sz) := by
  refine Met.ofW (cc := cX8_tellOne) (maxL := 3) (ret := (some .boolean)) (by decide) rfl ?_
  intro p e s m args below meth c s₁ B hml hv
  obtain ⟨rfl, hsz, hP, hK, hD0, hE⟩ := hv
  have hx := B.exec
  have hb := B.bytes
  have hr := B.returns
  have hts0 := atoms_spec (ws := Cond.code yX8_tellOne cX8_tellOne 3 (some .boolean) :: lw_G) B.pre
  have hG : ∀ w ∈ lw_G, w.before _ s = true := fun w h => hts0 w (List.mem_cons_of_mem _ h)
  have hown : s.vm.findClass RX8 = some m.cls := findClass_of_methodNamed B.named
  have hlocks := B.notSynchronized
  subst hsz
  have hD := hD0.self (sz := s.heap.size)
  generalize hAe : va_A [(h0, .inr (8, [.ref h1, .ref h2, .int x1, .int x2, .int x3])), (h1, .inl (y0, 64, .inl f0)), (h2, .inr (1, [.ref h3, .ref h4, .ref h5, .ref h6])), (h3, .inl (y1, 32768, .inl f1)), (h6, .inr (9, [.ref h7, .ref h8, .int x4, .int x5, .int x6, .int x7])), (h8, .inl (y2, 3, .inl f2)), (h7, .inl (y3, 3, .inl f3)), (h5, .inr (5, [.int x8, .int x9, .int x10, .int x11, .int x12, .int x13])), (h4, .inr (7, [.int x14, .int x15, .int x16, .int x17, .int x18]))] s.heap.size = A at hD hE ⊢
  have hA : ∀ q : Nat, s.heap.size ≤ q → A q := fun q h => by rw [← hAe]; exact Or.inr h
  have hS : va_S A s.heap s.heap [] := va_S.rf
  have hP : va_P (dC, dI) vwCl [(h0, .inr (8, [.ref h1, .ref h2, .int x1, .int x2, .int x3])), (h1, .inl (y0, 64, .inl f0)), (h2, .inr (1, [.ref h3, .ref h4, .ref h5, .ref h6])), (h3, .inl (y1, 32768, .inl f1)), (h6, .inr (9, [.ref h7, .ref h8, .int x4, .int x5, .int x6, .int x7])), (h8, .inl (y2, 3, .inl f2)), (h7, .inl (y3, 3, .inl f3)), (h5, .inr (5, [.int x8, .int x9, .int x10, .int x11, .int x12, .int x13])), (h4, .inr (7, [.int x14, .int x15, .int x16, .int x17, .int x18]))] s.heap := hP
  have hl := lv_entry ([.ref h0, .int x0]) (n := 3) (Nat.le_of_ble_eq_true rfl)
  rw [lg_entry_eq]
  generalize (lg_sl ([.ref h0, .int x0]) ++ List.replicate (3 - (lg_sl ([.ref h0, .int x0])).length) Slot.unset).toArray = ls at hl ⊢
  have hl : lv_has ls 3 [(0, .ref h0), (1, .int x0)] := hl
  generalize ([.ref h0, .int x0] : List Value).toArray = ar at hG ⊢
  refine wq (fun Q hQ => ?_)
  refine lv_iload_n hx hb dX8_tellOne_0 rfl (lv_at hl 1 rfl) ?_
  refine lv_bipush (v := 7) hx hb dX8_tellOne_1 (by decide) ?_
  refine lv_ishr hx hb dX8_tellOne_3 ?_
  refine lv_topi (fun v1 ev1 => ?_)
  have iv1 : iv v1 (-16777216) 16777215 := iv_eq ev1 (iv_shr 7 (by decide) (iv_any x0) (by decide) (by decide))
  refine lv_bipush (v := 7) hx hb dX8_tellOne_4 (by decide) ?_
  refine lv_iand hx hb dX8_tellOne_6 ?_
  refine lv_topi (fun v2 ev2 => ?_)
  have iv2 : iv v2 0 7 := iv_eq ev2 (iv_and (x := v1) (iv_w (by decide : iv 7 7 7) (by decide) (by decide) : iv 7 0 7))
  refine lv_istore_n (lv' := [(2, .int v2), (0, .ref h0), (1, .int x0)]) hx hb dX8_tellOne_7 rfl hl (by decide) rfl (fun ls hl => ?_)
  refine lv_iload_n hx hb dX8_tellOne_8 rfl (lv_at hl 0 rfl) ?_
  refine lv_bipush (v := 6) hx hb dX8_tellOne_9 (by decide) ?_
  refine lv_icmp_ne (tgt := 23) hx hb dX8_tellOne_11 (by decide) (fun c3 => ?_) (fun c3 => ?_)
  · skip
    refine lv_aload_n hx hb dX8_tellOne_23 rfl (lv_at hl 1 rfl) ?_
    refine lv_bipush (v := 12) hx hb dX8_tellOne_24 (by decide) ?_
    refine lv_iload_n hx hb dX8_tellOne_26 rfl (lv_at hl 0 rfl) ?_
    refine lv_iadd hx hb dX8_tellOne_27 ?_
    refine lv_topi (fun v4 ev4 => ?_)
    have iv4 : iv v4 12 19 := iv_eq ev4 (iv_add (by decide : iv 12 12 12) iv2 (by decide) (by decide))
    refine lv_iload_n hx hb dX8_tellOne_28 rfl (lv_at hl 2 rfl) ?_
    refine lv_bipush (v := 64) hx hb dX8_tellOne_29 (by decide) ?_
    refine lv_iand hx hb dX8_tellOne_31 ?_
    refine lv_topi (fun v5 ev5 => ?_)
    have iv5 : iv v5 0 64 := iv_eq ev5 (iv_and (x := x0) (iv_w (by decide : iv 64 64 64) (by decide) (by decide) : iv 64 0 64))
    obtain ⟨hPc, hDc, hFc⟩ := nv_sub3 (wc := [(h0, .inr (8, [.ref h1, .ref h2, .int x1, .int x2, .int x3])), (h1, .inl (y0, 64, .inl f0))]) hP hD hS hA [0, 1] (by decide) rfl
    have hKc := hK.sub (tys' := [(y0, .int)]) [0] rfl
    refine va_callv (va_runV (As := [.int v4, .int v5]) (rest := []) ⟨hx, hb, hml, hown, hG⟩ (cX8_putName_1 l dC dI adK adV h0 h1 h2 y0 s.heap.size v4 v5 x1 x2 x3 f0 ix1) (cwV 2 hG (gV wd_1189 wd_1191 wp_56 wd_16 wd_1192) rfl rfl rfl (by decide +kernel) ⟨Nat.le_of_ble_eq_true rfl, Nat.le_of_ble_eq_true rfl⟩) ⟨fun a U g mk q => by obtain ⟨q0, q1, qP, qK, qD, qE⟩ := q; exact ⟨q0, q1, qP, va_K.moved (u := U) (U := U.calling g mk a) (Vm.Alike.refl U.vm) qK, qD, qE.same rfl⟩, va_recv hKc hPc (ci := 8) (q0 := 0) rfl rfl, fun U hU hW => ⟨rfl, by rw [hU], by rw [hU]; exact hPc, va_K.moved hW.alike hKc, hDc.weaken (fun _ _ _ _ => trivial), by rw [hU]; exact ((hE.kept hS.2.1).narrow hFc).warm hW⟩⟩ rfl rfl hl.1 rfl (lv_room (Nat.le_of_ble_eq_true rfl)) dX8_tellOne_32 ⟨by decide, by decide⟩) hS (fun q _ h => hFc q h) hFc (fun u7 t H1 locs ht hvm hw hB hz1 hk1 hS => ?_)
    obtain ⟨u7_0, u7_1⟩ := u7
    have hw : iv u7_0 1 64 ∧ True := hw
    obtain ⟨iu7_0, -⟩ := hw
    obtain ⟨hP1, hK1, hD1⟩ := hB
    rw [ht] at hP1
    have hK1 := va_K.moved hvm.symm hK1
    obtain ⟨hP, hD⟩ := nv_join (wf := [(h2, .inr (1, [.ref h3, .ref h4, .ref h5, .ref h6])), (h3, .inl (y1, 32768, .inl f1)), (h6, .inr (9, [.ref h7, .ref h8, .int x4, .int x5, .int x6, .int x7])), (h8, .inl (y2, 3, .inl f2)), (h7, .inl (y3, 3, .inl f3)), (h5, .inr (5, [.int x8, .int x9, .int x10, .int x11, .int x12, .int x13])), (h4, .inr (7, [.int x14, .int x15, .int x16, .int x17, .int x18])), (h0, .inr (8, [.ref h1, .ref h2, .int u7_0, .int x2, .int x3])), (h1, .inl (y0, 64, .inl u7_1))]) hP hD [0, 1] [2, 3, 4, 5, 6, 7, 8] rfl rfl (by decide) (by decide) hk1 hFc hP1 hD1 rfl
    have hK := (hK.sub (tys' := [(y1, .int), (y2, .int), (y3, .int)]) [1, 2, 3] rfl).app hK1
    generalize H1 = H at hP hS ⊢
    have hK : va_K (dC, dI) vwCl [(y1, .int), (y2, .int), (y3, .int), (y0, .int)] s := hK
    refine lv_iload_n hx hb dX8_tellOne_35 rfl (lv_at hl 0 rfl) ?_
    refine lv_bipush (v := 6) hx hb dX8_tellOne_36 (by decide) ?_
    refine lv_icmp_ne (tgt := 53) hx hb dX8_tellOne_38 (by decide) (fun _ => ?_) (fun c => absurd c c3)
    refine lv_aload_n hx hb dX8_tellOne_53 rfl (lv_at hl 1 rfl) ?_
    refine lv_iload_n hx hb dX8_tellOne_54 rfl (lv_at hl 2 rfl) ?_
    refine lv_iconst (v := 4) hx hb dX8_tellOne_55 (by decide) ?_
    refine lv_ishr hx hb dX8_tellOne_56 ?_
    refine lv_topi (fun v8 ev8 => ?_)
    have iv8 : iv v8 (-134217728) 134217727 := iv_eq ev8 (iv_shr 4 (by decide) (iv_any x0) (by decide) (by decide))
    refine lv_iconst (v := 3) hx hb dX8_tellOne_57 (by decide) ?_
    refine lv_iand hx hb dX8_tellOne_58 ?_
    refine lv_topi (fun v9 ev9 => ?_)
    have iv9 : iv v9 0 3 := iv_eq ev9 (iv_and (x := v8) (iv_w (by decide : iv 3 3 3) (by decide) (by decide) : iv 3 0 3))
    refine lv_iload_n hx hb dX8_tellOne_59 rfl (lv_at hl 2 rfl) ?_
    refine lv_bipush (v := 15) hx hb dX8_tellOne_60 (by decide) ?_
    refine lv_iand hx hb dX8_tellOne_62 ?_
    refine lv_topi (fun v10 ev10 => ?_)
    have iv10 : iv v10 0 15 := iv_eq ev10 (iv_and (x := x0) (iv_w (by decide : iv 15 15 15) (by decide) (by decide) : iv 15 0 15))
    refine lv_iload_n hx hb dX8_tellOne_63 rfl (lv_at hl 0 rfl) ?_
    refine lv_iconst (v := 4) hx hb dX8_tellOne_64 (by decide) ?_
    refine jcut (a := ∀ (b14 : Int32) (ib14 : iv b14 0 1) (H : Heap) (locs : List Loc) (hK : va_K (dC, dI) vwCl [(y1, .int), (y2, .int), (y3, .int), (y0, .int)] s) (hP : va_P (dC, dI) vwCl [(h2, .inr (1, [.ref h3, .ref h4, .ref h5, .ref h6])), (h3, .inl (y1, 32768, .inl f1)), (h6, .inr (9, [.ref h7, .ref h8, .int x4, .int x5, .int x6, .int x7])), (h8, .inl (y2, 3, .inl f2)), (h7, .inl (y3, 3, .inl f3)), (h5, .inr (5, [.int x8, .int x9, .int x10, .int x11, .int x12, .int x13])), (h4, .inr (7, [.int x14, .int x15, .int x16, .int x17, .int x18])), (h0, .inr (8, [.ref h1, .ref h2, .int u7_0, .int x2, .int x3])), (h1, .inl (y0, 64, .inl u7_1))] H) (hD : va_D A [(h2, .inr (1, [.ref h3, .ref h4, .ref h5, .ref h6])), (h3, .inl (y1, 32768, .inl f1)), (h6, .inr (9, [.ref h7, .ref h8, .int x4, .int x5, .int x6, .int x7])), (h8, .inl (y2, 3, .inl f2)), (h7, .inl (y3, 3, .inl f3)), (h5, .inr (5, [.int x8, .int x9, .int x10, .int x11, .int x12, .int x13])), (h4, .inr (7, [.int x14, .int x15, .int x16, .int x17, .int x18])), (h0, .inr (8, [.ref h1, .ref h2, .int u7_0, .int x2, .int x3])), (h1, .inl (y0, 64, .inl u7_1))]) (hS : va_S A s.heap H locs) (ls : Array Slot) (hl : lv_has ls 3 []), W p l e (headSpec (Cond.code yX8_tellOne cX8_tellOne 3 (some .boolean) :: lw_G) ({ frames := 6, cells := 0, slots := 0, locals := 130 })).room s m ar below meth c H locs 0 0 Q (F0 m 73 ls [.int b14, .int v10, .int v9, .ref h0])) ?_ (fun j15 => ?_)
    · skip
      intro b14 ib14 H locs hK hP hD hS ls hl
      obtain ⟨hPc, hDc, hFc⟩ := nv_sub3 (wc := [(h0, .inr (8, [.ref h1, .ref h2, .int u7_0, .int x2, .int x3])), (h1, .inl (y0, 64, .inl u7_1)), (h2, .inr (1, [.ref h3, .ref h4, .ref h5, .ref h6])), (h3, .inl (y1, 32768, .inl f1)), (h6, .inr (9, [.ref h7, .ref h8, .int x4, .int x5, .int x6, .int x7])), (h8, .inl (y2, 3, .inl f2)), (h7, .inl (y3, 3, .inl f3)), (h5, .inr (5, [.int x8, .int x9, .int x10, .int x11, .int x12, .int x13])), (h4, .inr (7, [.int x14, .int x15, .int x16, .int x17, .int x18]))]) hP hD hS hA [7, 8, 0, 1, 2, 3, 4, 5, 6] (by decide) rfl
      have hKc := hK.sub (tys' := [(y0, .int), (y1, .int), (y2, .int), (y3, .int)]) [3, 0, 1, 2] rfl
      refine va_calli (va_runV (As := [.int v9, .int v10, .int b14]) (rest := []) ⟨hx, hb, hml, hown, hG⟩ (cX8_tellSource_1 l dC dI h0 h1 h2 h3 h4 h5 h6 h7 h8 y0 y1 y2 y3 H.size v9 v10 b14 u7_0 x2 x3 x4 x5 x6 x7 x8 x9 x10 x11 x12 x13 x14 x15 x16 x17 x18 u7_1 f1 f2 f3 ib14 (iv_w iu7_0 (by decide) (by decide)) ix7) (cwV 3 hG (gV wd_1198 wd_1200 wp_58 wd_16 wd_1201) rfl rfl rfl (by decide +kernel) ⟨Nat.le_of_ble_eq_true rfl, Nat.le_of_ble_eq_true rfl⟩) ⟨fun a U g mk q => by obtain ⟨q0, q1, qP, qK, qD⟩ := q; exact ⟨q0, q1, qP, va_K.moved (u := U) (U := U.calling g mk a) (Vm.Alike.refl U.vm) qK, qD⟩, va_recv hKc hPc (ci := 8) (q0 := 0) rfl rfl, fun U hU hW => ⟨rfl, by rw [hU], by rw [hU]; exact hPc, va_K.moved hW.alike hKc, hDc.weaken (fun _ _ _ _ => trivial)⟩⟩ rfl rfl hl.1 rfl (lv_room (Nat.le_of_ble_eq_true rfl)) dX8_tellOne_73 ⟨by decide, by decide⟩) hS (fun q _ h => hFc q h) hFc (fun r16 u17 t H1 locs ht hvm hw hB hz1 hk1 hS => ?_)
      obtain ⟨u17_0, u17_1, u17_2⟩ := u17
      have hw : iv r16 0 1 ∧ iv u17_0 0 64 ∧ True := hw
      obtain ⟨ir16, iu17_0, -⟩ := hw
      obtain ⟨hP1, hK1, hD1⟩ := hB
      rw [ht] at hP1
      have hK1 := va_K.moved hvm.symm hK1
      obtain ⟨hP, hD⟩ := nv_join (wf := [(h0, .inr (8, [.ref h1, .ref h2, .int u17_0, .int x2, .int u17_1])), (h1, .inl (y0, 64, .inl u17_2)), (h2, .inr (1, [.ref h3, .ref h4, .ref h5, .ref h6])), (h3, .inl (y1, 32768, .inl f1)), (h6, .inr (9, [.ref h7, .ref h8, .int x4, .int x5, .int x6, .int x7])), (h8, .inl (y2, 3, .inl f2)), (h7, .inl (y3, 3, .inl f3)), (h5, .inr (5, [.int x8, .int x9, .int x10, .int x11, .int x12, .int x13])), (h4, .inr (7, [.int x14, .int x15, .int x16, .int x17, .int x18]))]) hP hD [7, 8, 0, 1, 2, 3, 4, 5, 6] [] rfl rfl (by decide) (by decide) hk1 hFc hP1 hD1 rfl
      have hK := (hK.sub (tys' := []) [] rfl).app hK1
      generalize H1 = H at hP hS ⊢
      have hK : va_K (dC, dI) vwCl [(y0, .int), (y1, .int), (y2, .int), (y3, .int)] s := hK
      rw [hQ]
      obtain ⟨hP9, hD9⟩ := nv_sub2 (wc := [(h0, .inr (8, [.ref h1, .ref h2, .int u17_0, .int x2, .int u17_1])), (h1, .inl (y0, 64, .inl u17_2)), (h2, .inr (1, [.ref h3, .ref h4, .ref h5, .ref h6])), (h3, .inl (y1, 32768, .inl f1)), (h6, .inr (9, [.ref h7, .ref h8, .int x4, .int x5, .int x6, .int x7])), (h8, .inl (y2, 3, .inl f2)), (h7, .inl (y3, 3, .inl f3)), (h5, .inr (5, [.int x8, .int x9, .int x10, .int x11, .int x12, .int x13])), (h4, .inr (7, [.int x14, .int x15, .int x16, .int x17, .int x18]))]) hP hD [0, 1, 2, 3, 4, 5, 6, 7, 8] (by decide) rfl
      have hK9 := hK.sub (tys' := [(y0, .int), (y1, .int), (y2, .int), (y3, .int)]) [0, 1, 2, 3] rfl
      exact W.zret (v := r16) hx hb hr (iv_z (iv_w ir16 (by decide) (by decide))).1 (fun t ht hW => ⟨⟨r16, (u17_0, u17_1, u17_2), rfl, ⟨iv_w ir16 (by decide) (by decide), iv_w iu17_0 (by decide) (by decide), trivial⟩, by rw [ht]; exact hP9, va_K.moved hW.alike hK9, hD9⟩, hS.F ht⟩) hS.2.2 dX8_tellOne_76
    refine lv_icmp_ge (tgt := 72) hx hb dX8_tellOne_65 (by decide) (fun c11 => ?_) (fun c11 => ?_)
    · skip
      have j18 : iv v2 4 7 := iv_leR (by decide : iv 4 4 4) iv2 c11 (by decide)
      refine lv_iconst (v := 0) hx hb dX8_tellOne_72 (by decide) ?_
      exact j15 0 (iv_w (by decide : iv 0 0 0) (by decide) (by decide)) _ _ hK hP hD hS ls (lv_sub hl [] rfl)
    · skip
      have j19 : iv v2 0 3 := iv_nleR (by decide : iv 4 4 4) iv2 c11 (by decide)
      refine lv_iconst (v := 1) hx hb dX8_tellOne_68 (by decide) ?_
      refine lv_goto (tgt := 73) hx hb dX8_tellOne_69 (by decide) ?_
      exact j15 1 (iv_w (by decide : iv 1 1 1) (by decide) (by decide)) _ _ hK hP hD hS ls (lv_sub hl [] rfl)
  · skip
    subst c3
    refine lv_iload_n hx hb dX8_tellOne_14 rfl (lv_at hl 2 rfl) ?_
    refine lv_sipush (v := 4864) hx hb dX8_tellOne_15 (by decide) ?_
    refine lv_icmp_eq (tgt := 23) hx hb dX8_tellOne_18 (by decide) (fun c20 => ?_) (fun c20 => ?_)
    · skip
      subst c20
      refine lv_aload_n hx hb dX8_tellOne_23 rfl (lv_at hl 1 rfl) ?_
      refine lv_bipush (v := 12) hx hb dX8_tellOne_24 (by decide) ?_
      refine lv_iload_n hx hb dX8_tellOne_26 rfl (lv_at hl 0 rfl) ?_
      refine lv_iadd hx hb dX8_tellOne_27 ?_
      refine lv_val (y := 18) (by decide +kernel) ?_
      refine lv_iload_n hx hb dX8_tellOne_28 rfl (lv_at hl 2 rfl) ?_
      refine lv_bipush (v := 64) hx hb dX8_tellOne_29 (by decide) ?_
      refine lv_iand hx hb dX8_tellOne_31 ?_
      refine lv_val (y := 0) (by decide +kernel) ?_
      obtain ⟨hPc, hDc, hFc⟩ := nv_sub3 (wc := [(h0, .inr (8, [.ref h1, .ref h2, .int x1, .int x2, .int x3])), (h1, .inl (y0, 64, .inl f0))]) hP hD hS hA [0, 1] (by decide) rfl
      have hKc := hK.sub (tys' := [(y0, .int)]) [0] rfl
      refine va_callv (va_runV (As := [.int 18, .int 0]) (rest := []) ⟨hx, hb, hml, hown, hG⟩ (cX8_putName_1 l dC dI adK adV h0 h1 h2 y0 s.heap.size 18 0 x1 x2 x3 f0 ix1) (cwV 2 hG (gV wd_1189 wd_1191 wp_56 wd_16 wd_1192) rfl rfl rfl (by decide +kernel) ⟨Nat.le_of_ble_eq_true rfl, Nat.le_of_ble_eq_true rfl⟩) ⟨fun a U g mk q => by obtain ⟨q0, q1, qP, qK, qD, qE⟩ := q; exact ⟨q0, q1, qP, va_K.moved (u := U) (U := U.calling g mk a) (Vm.Alike.refl U.vm) qK, qD, qE.same rfl⟩, va_recv hKc hPc (ci := 8) (q0 := 0) rfl rfl, fun U hU hW => ⟨rfl, by rw [hU], by rw [hU]; exact hPc, va_K.moved hW.alike hKc, hDc.weaken (fun _ _ _ _ => trivial), by rw [hU]; exact ((hE.kept hS.2.1).narrow hFc).warm hW⟩⟩ rfl rfl hl.1 rfl (lv_room (Nat.le_of_ble_eq_true rfl)) dX8_tellOne_32 ⟨by decide, by decide⟩) hS (fun q _ h => hFc q h) hFc (fun u22 t H1 locs ht hvm hw hB hz1 hk1 hS => ?_)
      obtain ⟨u22_0, u22_1⟩ := u22
      have hw : iv u22_0 1 64 ∧ True := hw
      obtain ⟨iu22_0, -⟩ := hw
      obtain ⟨hP1, hK1, hD1⟩ := hB
      rw [ht] at hP1
      have hK1 := va_K.moved hvm.symm hK1
      obtain ⟨hP, hD⟩ := nv_join (wf := [(h2, .inr (1, [.ref h3, .ref h4, .ref h5, .ref h6])), (h3, .inl (y1, 32768, .inl f1)), (h6, .inr (9, [.ref h7, .ref h8, .int x4, .int x5, .int x6, .int x7])), (h8, .inl (y2, 3, .inl f2)), (h7, .inl (y3, 3, .inl f3)), (h5, .inr (5, [.int x8, .int x9, .int x10, .int x11, .int x12, .int x13])), (h4, .inr (7, [.int x14, .int x15, .int x16, .int x17, .int x18])), (h0, .inr (8, [.ref h1, .ref h2, .int u22_0, .int x2, .int x3])), (h1, .inl (y0, 64, .inl u22_1))]) hP hD [0, 1] [2, 3, 4, 5, 6, 7, 8] rfl rfl (by decide) (by decide) hk1 hFc hP1 hD1 rfl
      have hK := (hK.sub (tys' := [(y1, .int), (y2, .int), (y3, .int)]) [1, 2, 3] rfl).app hK1
      generalize H1 = H at hP hS ⊢
      have hK : va_K (dC, dI) vwCl [(y1, .int), (y2, .int), (y3, .int), (y0, .int)] s := hK
      refine lv_iload_n hx hb dX8_tellOne_35 rfl (lv_at hl 0 rfl) ?_
      refine lv_bipush (v := 6) hx hb dX8_tellOne_36 (by decide) ?_
      refine lv_icmp_ne (tgt := 53) hx hb dX8_tellOne_38 (by decide) (fun c => absurd (by decide) c) (fun _ => ?_)
      refine lv_aload_n hx hb dX8_tellOne_41 rfl (lv_at hl 1 rfl) ?_
      refine lv_dup hx hb dX8_tellOne_42 rfl ?_
      refine va_get (D := (dC, dI)) (ci := 8) (v := .int u22_0) (C := RX8) (T := TX8) (N := 5) hx hb hG inGX8 hown hK hP 7 rfl rfl 2 (by decide) (hG _ wd_381) (fun _ h9 => h9) rfl dX8_tellOne_43 ?_
      refine lv_iconst (v := 1) hx hb dX8_tellOne_46 (by decide) ?_
      refine lv_isub hx hb dX8_tellOne_47 ?_
      refine lv_topi (fun v23 ev23 => ?_)
      have iv23 : iv v23 0 63 := iv_eq ev23 (iv_sub iu22_0 (by decide : iv 1 1 1) (by decide) (by decide))
      have tv23 : v23.toInt = u22_0.toInt + (-1) := iv_subT ev23 iu22_0 (by decide) (by decide) (by decide)
      refine va_put (D := (dC, dI)) (ci := 8) (v := .int v23) (ty := .int) (C := RX8) (T := TX8) (N := 5) hx hb hG inGX8 tyX8 tyX8_ok nmX8 hown hK hP hD hS 7 rfl rfl 2 (by decide) (hG _ wd_381) (fun _ h9 => h9) rfl (by decide +kernel) rfl rfl (Nat.le_of_ble_eq_true rfl) dX8_tellOne_48 (fun H locs hP hD hS => ?_)
      obtain ⟨hP, hD⟩ := nv_eq (ws' := [(h2, .inr (1, [.ref h3, .ref h4, .ref h5, .ref h6])), (h3, .inl (y1, 32768, .inl f1)), (h6, .inr (9, [.ref h7, .ref h8, .int x4, .int x5, .int x6, .int x7])), (h8, .inl (y2, 3, .inl f2)), (h7, .inl (y3, 3, .inl f3)), (h5, .inr (5, [.int x8, .int x9, .int x10, .int x11, .int x12, .int x13])), (h4, .inr (7, [.int x14, .int x15, .int x16, .int x17, .int x18])), (h0, .inr (8, [.ref h1, .ref h2, .int v23, .int x2, .int x3])), (h1, .inl (y0, 64, .inl u22_1))]) hP hD rfl
      refine lv_iconst (v := 1) hx hb dX8_tellOne_51 (by decide) ?_
      rw [hQ]
      obtain ⟨hP9, hD9⟩ := nv_sub2 (wc := [(h0, .inr (8, [.ref h1, .ref h2, .int v23, .int x2, .int x3])), (h1, .inl (y0, 64, .inl u22_1)), (h2, .inr (1, [.ref h3, .ref h4, .ref h5, .ref h6])), (h3, .inl (y1, 32768, .inl f1)), (h6, .inr (9, [.ref h7, .ref h8, .int x4, .int x5, .int x6, .int x7])), (h8, .inl (y2, 3, .inl f2)), (h7, .inl (y3, 3, .inl f3)), (h5, .inr (5, [.int x8, .int x9, .int x10, .int x11, .int x12, .int x13])), (h4, .inr (7, [.int x14, .int x15, .int x16, .int x17, .int x18]))]) hP hD [7, 8, 0, 1, 2, 3, 4, 5, 6] (by decide) rfl
      have hK9 := hK.sub (tys' := [(y0, .int), (y1, .int), (y2, .int), (y3, .int)]) [3, 0, 1, 2] rfl
      exact W.zret (v := 1) hx hb hr rfl (fun t ht hW => ⟨⟨1, (v23, x3, u22_1), rfl, ⟨iv_w (by decide : iv 1 1 1) (by decide) (by decide), iv_w iv23 (by decide) (by decide), trivial⟩, by rw [ht]; exact hP9, va_K.moved hW.alike hK9, hD9⟩, hS.F ht⟩) hS.2.2 dX8_tellOne_52
    · skip
      refine lv_iconst (v := 0) hx hb dX8_tellOne_21 (by decide) ?_
      rw [hQ]
      obtain ⟨hP9, hD9⟩ := nv_sub2 (wc := [(h0, .inr (8, [.ref h1, .ref h2, .int x1, .int x2, .int x3])), (h1, .inl (y0, 64, .inl f0)), (h2, .inr (1, [.ref h3, .ref h4, .ref h5, .ref h6])), (h3, .inl (y1, 32768, .inl f1)), (h6, .inr (9, [.ref h7, .ref h8, .int x4, .int x5, .int x6, .int x7])), (h8, .inl (y2, 3, .inl f2)), (h7, .inl (y3, 3, .inl f3)), (h5, .inr (5, [.int x8, .int x9, .int x10, .int x11, .int x12, .int x13])), (h4, .inr (7, [.int x14, .int x15, .int x16, .int x17, .int x18]))]) hP hD [0, 1, 2, 3, 4, 5, 6, 7, 8] (by decide) rfl
      have hK9 := hK.sub (tys' := [(y0, .int), (y1, .int), (y2, .int), (y3, .int)]) [0, 1, 2, 3] rfl
      exact W.zret (v := 0) hx hb hr rfl (fun t ht hW => ⟨⟨0, (x1, x3, f0), rfl, ⟨iv_w (by decide : iv 0 0 0) (by decide) (by decide), iv_w ix1 (by decide) (by decide), trivial⟩, by rw [ht]; exact hP9, va_K.moved hW.alike hK9, hD9⟩, hS.F ht⟩) hS.2.2 dX8_tellOne_22
set_option maxHeartbeats 100000000 in
set_option maxRecDepth 100000 in
theorem cX8_tellTwo_1 (l : Launch) (dC : Nat → ClassId) (dI : Nat → Nat → Nat) (adK adV : Nat → Nat) (h0 h1 h2 h3 h4 h5 h6 h7 h8 : Nat) (y0 y1 y2 y3 : ClassId) (sz : Nat) (x0 x1 x2 x3 x4 x5 x6 x7 x8 x9 x10 x11 x12 x13 x14 x15 x16 x17 x18 : Int32) (f0 f1 f2 f3 : Nat → Int32) (ix1 : iv x1 0 64) (ix7 : iv x7 0 1) : Met l yX8_tellTwo (Cond.code yX8_tellTwo cX8_tellTwo 2 (some .boolean) :: lw_G) ({ frames := 6, cells := 0, slots := 0, locals := 130 }) (va_Pc [.ref h0, .int x0] (fun U => U.heap.size = sz ∧ va_P (dC, dI) vwCl [(h0, .inr (8, [.ref h1, .ref h2, .int x1, .int x2, .int x3])), (h1, .inl (y0, 64, .inl f0)), (h2, .inr (1, [.ref h3, .ref h4, .ref h5, .ref h6])), (h3, .inl (y1, 32768, .inl f1)), (h6, .inr (9, [.ref h7, .ref h8, .int x4, .int x5, .int x6, .int x7])), (h8, .inl (y2, 3, .inl f2)), (h7, .inl (y3, 3, .inl f3)), (h5, .inr (5, [.int x8, .int x9, .int x10, .int x11, .int x12, .int x13])), (h4, .inr (7, [.int x14, .int x15, .int x16, .int x17, .int x18]))] U.heap ∧ va_K (dC, dI) vwCl [(y0, .int), (y1, .int), (y2, .int), (y3, .int)] U ∧ va_D (fun _ => True) [(h0, .inr (8, [.ref h1, .ref h2, .int x1, .int x2, .int x3])), (h1, .inl (y0, 64, .inl f0)), (h2, .inr (1, [.ref h3, .ref h4, .ref h5, .ref h6])), (h3, .inl (y1, 32768, .inl f1)), (h6, .inr (9, [.ref h7, .ref h8, .int x4, .int x5, .int x6, .int x7])), (h8, .inl (y2, 3, .inl f2)), (h7, .inl (y3, 3, .inl f3)), (h5, .inr (5, [.int x8, .int x9, .int x10, .int x11, .int x12, .int x13])), (h4, .inr (7, [.int x14, .int x15, .int x16, .int x17, .int x18]))] ∧ ev adK adV (va_A [(h0, .inr (8, [.ref h1, .ref h2, .int x1, .int x2, .int x3])), (h1, .inl (y0, 64, .inl f0)), (h2, .inr (1, [.ref h3, .ref h4, .ref h5, .ref h6])), (h3, .inl (y1, 32768, .inl f1)), (h6, .inr (9, [.ref h7, .ref h8, .int x4, .int x5, .int x6, .int x7])), (h8, .inl (y2, 3, .inl f2)), (h7, .inl (y3, 3, .inl f3)), (h5, .inr (5, [.int x8, .int x9, .int x10, .int x11, .int x12, .int x13])), (h4, .inr (7, [.int x14, .int x15, .int x16, .int x17, .int x18]))] sz) U U.heap)) (va_Qi (fun (r : Int32) (u : Int32 × Int32 × (Nat → Int32)) => iv r 0 1 ∧ iv u.1 0 64 ∧ True) (fun (u : Int32 × Int32 × (Nat → Int32)) (t : State) => va_P (dC, dI) vwCl [(h0, .inr (8, [.ref h1, .ref h2, .int u.1, .int x2, .int u.2.1])), (h1, .inl (y0, 64, .inl u.2.2)), (h2, .inr (1, [.ref h3, .ref h4, .ref h5, .ref h6])), (h3, .inl (y1, 32768, .inl f1)), (h6, .inr (9, [.ref h7, .ref h8, .int x4, .int x5, .int x6, .int x7])), (h8, .inl (y2, 3, .inl f2)), (h7, .inl (y3, 3, .inl f3)), (h5, .inr (5, [.int x8, .int x9, .int x10, .int x11, .int x12, .int x13])), (h4, .inr (7, [.int x14, .int x15, .int x16, .int x17, .int x18]))] t.heap ∧ va_K (dC, dI) vwCl [(y0, .int), (y1, .int), (y2, .int), (y3, .int)] t ∧ va_D (va_A [(h0, .inr (8, [.ref h1, .ref h2, .int x1, .int x2, .int x3])), (h1, .inl (y0, 64, .inl f0)), (h2, .inr (1, [.ref h3, .ref h4, .ref h5, .ref h6])), (h3, .inl (y1, 32768, .inl f1)), (h6, .inr (9, [.ref h7, .ref h8, .int x4, .int x5, .int x6, .int x7])), (h8, .inl (y2, 3, .inl f2)), (h7, .inl (y3, 3, .inl f3)), (h5, .inr (5, [.int x8, .int x9, .int x10, .int x11, .int x12, .int x13])), (h4, .inr (7, [.int x14, .int x15, .int x16, .int x17, .int x18]))] sz) [(h0, .inr (8, [.ref h1, .ref h2, .int u.1, .int x2, .int u.2.1])), (h1, .inl (y0, 64, .inl u.2.2)), (h2, .inr (1, [.ref h3, .ref h4, .ref h5, .ref h6])), (h3, .inl (y1, 32768, .inl f1)), (h6, .inr (9, [.ref h7, .ref h8, .int x4, .int x5, .int x6, .int x7])), (h8, .inl (y2, 3, .inl f2)), (h7, .inl (y3, 3, .inl f3)), (h5, .inr (5, [.int x8, .int x9, .int x10, .int x11, .int x12, .int x13])), (h4, .inr (7, [.int x14, .int x15, .int x16, .int x17, .int x18]))]) (va_A [(h0, .inr (8, [.ref h1, .ref h2, .int x1, .int x2, .int x3])), (h1, .inl (y0, 64, .inl f0)), (h2, .inr (1, [.ref h3, .ref h4, .ref h5, .ref h6])), (h3, .inl (y1, 32768, .inl f1)), (h6, .inr (9, [.ref h7, .ref h8, .int x4, .int x5, .int x6, .int x7])), (h8, .inl (y2, 3, .inl f2)), (h7, .inl (y3, 3, .inl f3)), (h5, .inr (5, [.int x8, .int x9, .int x10, .int x11, .int x12, .int x13])), (h4, .inr (7, [.int x14, .int x15, .int x16, .int x17, .int x18]))] sz)) 0 0 (va_A [(h0, .inr (8, [.ref h1, .ref h2, .int x1, .int x2, .int x3])), (h1, .inl (y0, 64, .inl f0)), (h2, .inr (1, [.ref h3, .ref h4, .ref h5, .ref h6])), (h3, .inl (y1, 32768, .inl f1)), (h6, .inr (9, [.ref h7, .ref h8, .int x4, .int x5, .int x6, .int x7])), (h8, .inl (y2, 3, .inl f2)), (h7, .inl (y3, 3, .inl f3)), (h5, .inr (5, [.int x8, .int x9, .int x10, .int x11, .int x12, .int x13])), (h4, .inr (7, [.int x14, .int x15, .int x16, .int x17, .int x18]))] sz) := by
  refine Met.ofW (cc := cX8_tellTwo) (maxL := 2) (ret := (some .boolean)) (by decide) rfl ?_
  intro p e s m args below meth c s₁ B hml hv
  obtain ⟨rfl, hsz, hP, hK, hD0, hE⟩ := hv
  have hx := B.exec
  have hb := B.bytes
  have hr := B.returns
  have hts0 := atoms_spec (ws := Cond.code yX8_tellTwo cX8_tellTwo 2 (some .boolean) :: lw_G) B.pre
  have hG : ∀ w ∈ lw_G, w.before _ s = true := fun w h => hts0 w (List.mem_cons_of_mem _ h)
  have hown : s.vm.findClass RX8 = some m.cls := findClass_of_methodNamed B.named
  have hlocks := B.notSynchronized
  subst hsz
  have hD := hD0.self (sz := s.heap.size)
  generalize hAe : va_A [(h0, .inr (8, [.ref h1, .ref h2, .int x1, .int x2, .int x3])), (h1, .inl (y0, 64, .inl f0)), (h2, .inr (1, [.ref h3, .ref h4, .ref h5, .ref h6])), (h3, .inl (y1, 32768, .inl f1)), (h6, .inr (9, [.ref h7, .ref h8, .int x4, .int x5, .int x6, .int x7])), (h8, .inl (y2, 3, .inl f2)), (h7, .inl (y3, 3, .inl f3)), (h5, .inr (5, [.int x8, .int x9, .int x10, .int x11, .int x12, .int x13])), (h4, .inr (7, [.int x14, .int x15, .int x16, .int x17, .int x18]))] s.heap.size = A at hD hE ⊢
  have hA : ∀ q : Nat, s.heap.size ≤ q → A q := fun q h => by rw [← hAe]; exact Or.inr h
  have hS : va_S A s.heap s.heap [] := va_S.rf
  have hP : va_P (dC, dI) vwCl [(h0, .inr (8, [.ref h1, .ref h2, .int x1, .int x2, .int x3])), (h1, .inl (y0, 64, .inl f0)), (h2, .inr (1, [.ref h3, .ref h4, .ref h5, .ref h6])), (h3, .inl (y1, 32768, .inl f1)), (h6, .inr (9, [.ref h7, .ref h8, .int x4, .int x5, .int x6, .int x7])), (h8, .inl (y2, 3, .inl f2)), (h7, .inl (y3, 3, .inl f3)), (h5, .inr (5, [.int x8, .int x9, .int x10, .int x11, .int x12, .int x13])), (h4, .inr (7, [.int x14, .int x15, .int x16, .int x17, .int x18]))] s.heap := hP
  have hl := lv_entry ([.ref h0, .int x0]) (n := 2) (Nat.le_of_ble_eq_true rfl)
  rw [lg_entry_eq]
  generalize (lg_sl ([.ref h0, .int x0]) ++ List.replicate (2 - (lg_sl ([.ref h0, .int x0])).length) Slot.unset).toArray = ls at hl ⊢
  have hl : lv_has ls 2 [(0, .ref h0), (1, .int x0)] := hl
  generalize ([.ref h0, .int x0] : List Value).toArray = ar at hG ⊢
  refine wq (fun Q hQ => ?_)
  refine lv_aload_n hx hb dX8_tellTwo_0 rfl (lv_at hl 0 rfl) ?_
  refine lv_iload_n hx hb dX8_tellTwo_1 rfl (lv_at hl 1 rfl) ?_
  refine lv_bipush (v := 12) hx hb dX8_tellTwo_2 (by decide) ?_
  refine lv_ishr hx hb dX8_tellTwo_4 ?_
  refine lv_topi (fun v1 ev1 => ?_)
  have iv1 : iv v1 (-524288) 524287 := iv_eq ev1 (iv_shr 12 (by decide) (iv_any x0) (by decide) (by decide))
  refine lv_iconst (v := 4) hx hb dX8_tellTwo_5 (by decide) ?_
  refine lv_isub hx hb dX8_tellTwo_6 ?_
  refine lv_topi (fun v2 ev2 => ?_)
  have iv2 : iv v2 (-524292) 524283 := iv_eq ev2 (iv_sub iv1 (by decide : iv 4 4 4) (by decide) (by decide))
  have tv2 : v2.toInt = v1.toInt + (-4) := iv_subT ev2 iv1 (by decide) (by decide) (by decide)
  refine lv_iload_n hx hb dX8_tellTwo_7 rfl (lv_at hl 1 rfl) ?_
  refine lv_bipush (v := 64) hx hb dX8_tellTwo_8 (by decide) ?_
  refine lv_iand hx hb dX8_tellTwo_10 ?_
  refine lv_topi (fun v3 ev3 => ?_)
  have iv3 : iv v3 0 64 := iv_eq ev3 (iv_and (x := x0) (iv_w (by decide : iv 64 64 64) (by decide) (by decide) : iv 64 0 64))
  obtain ⟨hPc, hDc, hFc⟩ := nv_sub3 (wc := [(h0, .inr (8, [.ref h1, .ref h2, .int x1, .int x2, .int x3])), (h1, .inl (y0, 64, .inl f0))]) hP hD hS hA [0, 1] (by decide) rfl
  have hKc := hK.sub (tys' := [(y0, .int)]) [0] rfl
  refine va_callv (va_runV (As := [.int v2, .int v3]) (rest := []) ⟨hx, hb, hml, hown, hG⟩ (cX8_putName_1 l dC dI adK adV h0 h1 h2 y0 s.heap.size v2 v3 x1 x2 x3 f0 ix1) (cwV 2 hG (gV wd_1189 wd_1191 wp_56 wd_16 wd_1192) rfl rfl rfl (by decide +kernel) ⟨Nat.le_of_ble_eq_true rfl, Nat.le_of_ble_eq_true rfl⟩) ⟨fun a U g mk q => by obtain ⟨q0, q1, qP, qK, qD, qE⟩ := q; exact ⟨q0, q1, qP, va_K.moved (u := U) (U := U.calling g mk a) (Vm.Alike.refl U.vm) qK, qD, qE.same rfl⟩, va_recv hKc hPc (ci := 8) (q0 := 0) rfl rfl, fun U hU hW => ⟨rfl, by rw [hU], by rw [hU]; exact hPc, va_K.moved hW.alike hKc, hDc.weaken (fun _ _ _ _ => trivial), by rw [hU]; exact ((hE.kept hS.2.1).narrow hFc).warm hW⟩⟩ rfl rfl hl.1 rfl (lv_room (Nat.le_of_ble_eq_true rfl)) dX8_tellTwo_11 ⟨by decide, by decide⟩) hS (fun q _ h => hFc q h) hFc (fun u5 t H1 locs ht hvm hw hB hz1 hk1 hS => ?_)
  obtain ⟨u5_0, u5_1⟩ := u5
  have hw : iv u5_0 1 64 ∧ True := hw
  obtain ⟨iu5_0, -⟩ := hw
  obtain ⟨hP1, hK1, hD1⟩ := hB
  rw [ht] at hP1
  have hK1 := va_K.moved hvm.symm hK1
  obtain ⟨hP, hD⟩ := nv_join (wf := [(h2, .inr (1, [.ref h3, .ref h4, .ref h5, .ref h6])), (h3, .inl (y1, 32768, .inl f1)), (h6, .inr (9, [.ref h7, .ref h8, .int x4, .int x5, .int x6, .int x7])), (h8, .inl (y2, 3, .inl f2)), (h7, .inl (y3, 3, .inl f3)), (h5, .inr (5, [.int x8, .int x9, .int x10, .int x11, .int x12, .int x13])), (h4, .inr (7, [.int x14, .int x15, .int x16, .int x17, .int x18])), (h0, .inr (8, [.ref h1, .ref h2, .int u5_0, .int x2, .int x3])), (h1, .inl (y0, 64, .inl u5_1))]) hP hD [0, 1] [2, 3, 4, 5, 6, 7, 8] rfl rfl (by decide) (by decide) hk1 hFc hP1 hD1 rfl
  have hK := (hK.sub (tys' := [(y1, .int), (y2, .int), (y3, .int)]) [1, 2, 3] rfl).app hK1
  generalize H1 = H at hP hS ⊢
  have hK : va_K (dC, dI) vwCl [(y1, .int), (y2, .int), (y3, .int), (y0, .int)] s := hK
  refine lv_aload_n hx hb dX8_tellTwo_14 rfl (lv_at hl 0 rfl) ?_
  refine lv_iload_n hx hb dX8_tellTwo_15 rfl (lv_at hl 1 rfl) ?_
  refine lv_iconst (v := 4) hx hb dX8_tellTwo_16 (by decide) ?_
  refine lv_ishr hx hb dX8_tellTwo_17 ?_
  refine lv_topi (fun v6 ev6 => ?_)
  have iv6 : iv v6 (-134217728) 134217727 := iv_eq ev6 (iv_shr 4 (by decide) (iv_any x0) (by decide) (by decide))
  refine lv_iconst (v := 3) hx hb dX8_tellTwo_18 (by decide) ?_
  refine lv_iand hx hb dX8_tellTwo_19 ?_
  refine lv_topi (fun v7 ev7 => ?_)
  have iv7 : iv v7 0 3 := iv_eq ev7 (iv_and (x := v6) (iv_w (by decide : iv 3 3 3) (by decide) (by decide) : iv 3 0 3))
  refine lv_iload_n hx hb dX8_tellTwo_20 rfl (lv_at hl 1 rfl) ?_
  refine lv_bipush (v := 8) hx hb dX8_tellTwo_21 (by decide) ?_
  refine lv_ishr hx hb dX8_tellTwo_23 ?_
  refine lv_topi (fun v8 ev8 => ?_)
  have iv8 : iv v8 (-8388608) 8388607 := iv_eq ev8 (iv_shr 8 (by decide) (iv_any x0) (by decide) (by decide))
  refine lv_bipush (v := 15) hx hb dX8_tellTwo_24 (by decide) ?_
  refine lv_iand hx hb dX8_tellTwo_26 ?_
  refine lv_topi (fun v9 ev9 => ?_)
  have iv9 : iv v9 0 15 := iv_eq ev9 (iv_and (x := v8) (iv_w (by decide : iv 15 15 15) (by decide) (by decide) : iv 15 0 15))
  refine lv_iconst (v := 1) hx hb dX8_tellTwo_27 (by decide) ?_
  obtain ⟨hPc, hDc, hFc⟩ := nv_sub3 (wc := [(h0, .inr (8, [.ref h1, .ref h2, .int u5_0, .int x2, .int x3])), (h1, .inl (y0, 64, .inl u5_1)), (h2, .inr (1, [.ref h3, .ref h4, .ref h5, .ref h6])), (h3, .inl (y1, 32768, .inl f1)), (h6, .inr (9, [.ref h7, .ref h8, .int x4, .int x5, .int x6, .int x7])), (h8, .inl (y2, 3, .inl f2)), (h7, .inl (y3, 3, .inl f3)), (h5, .inr (5, [.int x8, .int x9, .int x10, .int x11, .int x12, .int x13])), (h4, .inr (7, [.int x14, .int x15, .int x16, .int x17, .int x18]))]) hP hD hS hA [7, 8, 0, 1, 2, 3, 4, 5, 6] (by decide) rfl
  have hKc := hK.sub (tys' := [(y0, .int), (y1, .int), (y2, .int), (y3, .int)]) [3, 0, 1, 2] rfl
  refine va_calli (va_runV (As := [.int v7, .int v9, .int 1]) (rest := []) ⟨hx, hb, hml, hown, hG⟩ (cX8_tellSource_1 l dC dI h0 h1 h2 h3 h4 h5 h6 h7 h8 y0 y1 y2 y3 H.size v7 v9 1 u5_0 x2 x3 x4 x5 x6 x7 x8 x9 x10 x11 x12 x13 x14 x15 x16 x17 x18 u5_1 f1 f2 f3 (iv_w (by decide : iv 1 1 1) (by decide) (by decide)) (iv_w iu5_0 (by decide) (by decide)) ix7) (cwV 3 hG (gV wd_1198 wd_1200 wp_58 wd_16 wd_1201) rfl rfl rfl (by decide +kernel) ⟨Nat.le_of_ble_eq_true rfl, Nat.le_of_ble_eq_true rfl⟩) ⟨fun a U g mk q => by obtain ⟨q0, q1, qP, qK, qD⟩ := q; exact ⟨q0, q1, qP, va_K.moved (u := U) (U := U.calling g mk a) (Vm.Alike.refl U.vm) qK, qD⟩, va_recv hKc hPc (ci := 8) (q0 := 0) rfl rfl, fun U hU hW => ⟨rfl, by rw [hU], by rw [hU]; exact hPc, va_K.moved hW.alike hKc, hDc.weaken (fun _ _ _ _ => trivial)⟩⟩ rfl rfl hl.1 rfl (lv_room (Nat.le_of_ble_eq_true rfl)) dX8_tellTwo_28 ⟨by decide, by decide⟩) hS (fun q _ h => hFc q h) hFc (fun r10 u11 t H1 locs ht hvm hw hB hz1 hk1 hS => ?_)
  obtain ⟨u11_0, u11_1, u11_2⟩ := u11
  have hw : iv r10 0 1 ∧ iv u11_0 0 64 ∧ True := hw
  obtain ⟨ir10, iu11_0, -⟩ := hw
  obtain ⟨hP1, hK1, hD1⟩ := hB
  rw [ht] at hP1
  have hK1 := va_K.moved hvm.symm hK1
  obtain ⟨hP, hD⟩ := nv_join (wf := [(h0, .inr (8, [.ref h1, .ref h2, .int u11_0, .int x2, .int u11_1])), (h1, .inl (y0, 64, .inl u11_2)), (h2, .inr (1, [.ref h3, .ref h4, .ref h5, .ref h6])), (h3, .inl (y1, 32768, .inl f1)), (h6, .inr (9, [.ref h7, .ref h8, .int x4, .int x5, .int x6, .int x7])), (h8, .inl (y2, 3, .inl f2)), (h7, .inl (y3, 3, .inl f3)), (h5, .inr (5, [.int x8, .int x9, .int x10, .int x11, .int x12, .int x13])), (h4, .inr (7, [.int x14, .int x15, .int x16, .int x17, .int x18]))]) hP hD [7, 8, 0, 1, 2, 3, 4, 5, 6] [] rfl rfl (by decide) (by decide) hk1 hFc hP1 hD1 rfl
  have hK := (hK.sub (tys' := []) [] rfl).app hK1
  generalize H1 = H at hP hS ⊢
  have hK : va_K (dC, dI) vwCl [(y0, .int), (y1, .int), (y2, .int), (y3, .int)] s := hK
  refine lv_if_ne (tgt := 36) hx hb dX8_tellTwo_31 (by decide) (fun c12 => ?_) (fun c12 => ?_)
  · skip
    have j13 : iv r10 1 1 := iv_neLo ir10 (by decide : iv 0 0 0) c12 (by decide)
    refine lv_aload_n hx hb dX8_tellTwo_36 rfl (lv_at hl 0 rfl) ?_
    refine lv_bipush (v := 44) hx hb dX8_tellTwo_37 (by decide) ?_
    obtain ⟨hPc, hDc, hFc⟩ := nv_sub3 (wc := [(h0, .inr (8, [.ref h1, .ref h2, .int u11_0, .int x2, .int u11_1])), (h1, .inl (y0, 64, .inl u11_2))]) hP hD hS hA [0, 1] (by decide) rfl
    have hKc := hK.sub (tys' := [(y0, .int)]) [0] rfl
    refine va_callv (va_runV (As := [.int 44]) (rest := []) ⟨hx, hb, hml, hown, hG⟩ (cX8_put_1 l dC dI h0 h1 h2 y0 H.size 44 u11_0 x2 u11_1 u11_2 iu11_0) (cwV 1 hG (gV wd_1194 wd_1196 wp_57 wd_16 wd_1197) rfl rfl rfl (by decide +kernel) ⟨Nat.le_of_ble_eq_true rfl, Nat.le_of_ble_eq_true rfl⟩) ⟨fun a U g mk q => by obtain ⟨q0, q1, qP, qK, qD⟩ := q; exact ⟨q0, q1, qP, va_K.moved (u := U) (U := U.calling g mk a) (Vm.Alike.refl U.vm) qK, qD⟩, va_recv hKc hPc (ci := 8) (q0 := 0) rfl rfl, fun U hU hW => ⟨rfl, by rw [hU], by rw [hU]; exact hPc, va_K.moved hW.alike hKc, hDc.weaken (fun _ _ _ _ => trivial)⟩⟩ rfl rfl hl.1 rfl (lv_room (Nat.le_of_ble_eq_true rfl)) dX8_tellTwo_39 ⟨by decide, by decide⟩) hS (fun q _ h => hFc q h) hFc (fun u15 t H1 locs ht hvm hw hB hz1 hk1 hS => ?_)
    obtain ⟨u15_0, u15_1⟩ := u15
    have hw : iv u15_0 1 64 ∧ True := hw
    obtain ⟨iu15_0, -⟩ := hw
    obtain ⟨hP1, hK1, hD1⟩ := hB
    rw [ht] at hP1
    have hK1 := va_K.moved hvm.symm hK1
    obtain ⟨hP, hD⟩ := nv_join (wf := [(h2, .inr (1, [.ref h3, .ref h4, .ref h5, .ref h6])), (h3, .inl (y1, 32768, .inl f1)), (h6, .inr (9, [.ref h7, .ref h8, .int x4, .int x5, .int x6, .int x7])), (h8, .inl (y2, 3, .inl f2)), (h7, .inl (y3, 3, .inl f3)), (h5, .inr (5, [.int x8, .int x9, .int x10, .int x11, .int x12, .int x13])), (h4, .inr (7, [.int x14, .int x15, .int x16, .int x17, .int x18])), (h0, .inr (8, [.ref h1, .ref h2, .int u15_0, .int x2, .int u11_1])), (h1, .inl (y0, 64, .inl u15_1))]) hP hD [0, 1] [2, 3, 4, 5, 6, 7, 8] rfl rfl (by decide) (by decide) hk1 hFc hP1 hD1 rfl
    have hK := (hK.sub (tys' := [(y1, .int), (y2, .int), (y3, .int)]) [1, 2, 3] rfl).app hK1
    generalize H1 = H at hP hS ⊢
    have hK : va_K (dC, dI) vwCl [(y1, .int), (y2, .int), (y3, .int), (y0, .int)] s := hK
    refine lv_iload_n hx hb dX8_tellTwo_42 rfl (lv_at hl 1 rfl) ?_
    refine lv_sipush (v := 128) hx hb dX8_tellTwo_43 (by decide) ?_
    refine lv_iand hx hb dX8_tellTwo_46 ?_
    refine lv_topi (fun v16 ev16 => ?_)
    have iv16 : iv v16 0 128 := iv_eq ev16 (iv_and (x := x0) (iv_w (by decide : iv 128 128 128) (by decide) (by decide) : iv 128 0 128))
    refine lv_if_eq (tgt := 59) hx hb dX8_tellTwo_47 (by decide) (fun c17 => ?_) (fun c17 => ?_)
    · skip
      subst c17
      refine lv_aload_n hx hb dX8_tellTwo_59 rfl (lv_at hl 0 rfl) ?_
      refine lv_iload_n hx hb dX8_tellTwo_60 rfl (lv_at hl 1 rfl) ?_
      refine lv_bipush (v := 15) hx hb dX8_tellTwo_61 (by decide) ?_
      refine lv_iand hx hb dX8_tellTwo_63 ?_
      refine lv_topi (fun v18 ev18 => ?_)
      have iv18 : iv v18 0 15 := iv_eq ev18 (iv_and (x := x0) (iv_w (by decide : iv 15 15 15) (by decide) (by decide) : iv 15 0 15))
      obtain ⟨hPc, hDc, hFc⟩ := nv_sub3 (wc := [(h0, .inr (8, [.ref h1, .ref h2, .int u15_0, .int x2, .int u11_1])), (h1, .inl (y0, 64, .inl u15_1))]) hP hD hS hA [7, 8] (by decide) rfl
      have hKc := hK.sub (tys' := [(y0, .int)]) [3] rfl
      refine va_callv (va_runV (As := [.int v18]) (rest := []) ⟨hx, hb, hml, hown, hG⟩ (cX8_putRegister_1 l dC dI h0 h1 h2 y0 H.size v18 u15_0 x2 u11_1 u15_1 (iv_w iu15_0 (by decide) (by decide))) (cwV 1 hG (gV wd_1211 wd_1213 wp_61 wd_16 wd_1214) rfl rfl rfl (by decide +kernel) ⟨Nat.le_of_ble_eq_true rfl, Nat.le_of_ble_eq_true rfl⟩) ⟨fun a U g mk q => by obtain ⟨q0, q1, qP, qK, qD⟩ := q; exact ⟨q0, q1, qP, va_K.moved (u := U) (U := U.calling g mk a) (Vm.Alike.refl U.vm) qK, qD⟩, va_recv hKc hPc (ci := 8) (q0 := 0) rfl rfl, fun U hU hW => ⟨rfl, by rw [hU], by rw [hU]; exact hPc, va_K.moved hW.alike hKc, hDc.weaken (fun _ _ _ _ => trivial)⟩⟩ rfl rfl hl.1 rfl (lv_room (Nat.le_of_ble_eq_true rfl)) dX8_tellTwo_64 ⟨by decide, by decide⟩) hS (fun q _ h => hFc q h) hFc (fun u20 t H1 locs ht hvm hw hB hz1 hk1 hS => ?_)
      obtain ⟨u20_0, u20_1⟩ := u20
      have hw : iv u20_0 1 64 ∧ True := hw
      obtain ⟨iu20_0, -⟩ := hw
      obtain ⟨hP1, hK1, hD1⟩ := hB
      rw [ht] at hP1
      have hK1 := va_K.moved hvm.symm hK1
      obtain ⟨hP, hD⟩ := nv_join (wf := [(h2, .inr (1, [.ref h3, .ref h4, .ref h5, .ref h6])), (h3, .inl (y1, 32768, .inl f1)), (h6, .inr (9, [.ref h7, .ref h8, .int x4, .int x5, .int x6, .int x7])), (h8, .inl (y2, 3, .inl f2)), (h7, .inl (y3, 3, .inl f3)), (h5, .inr (5, [.int x8, .int x9, .int x10, .int x11, .int x12, .int x13])), (h4, .inr (7, [.int x14, .int x15, .int x16, .int x17, .int x18])), (h0, .inr (8, [.ref h1, .ref h2, .int u20_0, .int x2, .int u11_1])), (h1, .inl (y0, 64, .inl u20_1))]) hP hD [7, 8] [0, 1, 2, 3, 4, 5, 6] rfl rfl (by decide) (by decide) hk1 hFc hP1 hD1 rfl
      have hK := (hK.sub (tys' := [(y1, .int), (y2, .int), (y3, .int)]) [0, 1, 2] rfl).app hK1
      generalize H1 = H at hP hS ⊢
      have hK : va_K (dC, dI) vwCl [(y1, .int), (y2, .int), (y3, .int), (y0, .int)] s := hK
      refine lv_iconst (v := 1) hx hb dX8_tellTwo_67 (by decide) ?_
      rw [hQ]
      obtain ⟨hP9, hD9⟩ := nv_sub2 (wc := [(h0, .inr (8, [.ref h1, .ref h2, .int u20_0, .int x2, .int u11_1])), (h1, .inl (y0, 64, .inl u20_1)), (h2, .inr (1, [.ref h3, .ref h4, .ref h5, .ref h6])), (h3, .inl (y1, 32768, .inl f1)), (h6, .inr (9, [.ref h7, .ref h8, .int x4, .int x5, .int x6, .int x7])), (h8, .inl (y2, 3, .inl f2)), (h7, .inl (y3, 3, .inl f3)), (h5, .inr (5, [.int x8, .int x9, .int x10, .int x11, .int x12, .int x13])), (h4, .inr (7, [.int x14, .int x15, .int x16, .int x17, .int x18]))]) hP hD [7, 8, 0, 1, 2, 3, 4, 5, 6] (by decide) rfl
      have hK9 := hK.sub (tys' := [(y0, .int), (y1, .int), (y2, .int), (y3, .int)]) [3, 0, 1, 2] rfl
      exact W.zret (v := 1) hx hb hr rfl (fun t ht hW => ⟨⟨1, (u20_0, u11_1, u20_1), rfl, ⟨iv_w (by decide : iv 1 1 1) (by decide) (by decide), iv_w iu20_0 (by decide) (by decide), trivial⟩, by rw [ht]; exact hP9, va_K.moved hW.alike hK9, hD9⟩, hS.F ht⟩) hS.2.2 dX8_tellTwo_68
    · skip
      have j21 : iv v16 1 128 := iv_neLo iv16 (by decide : iv 0 0 0) c17 (by decide)
      refine lv_aload_n hx hb dX8_tellTwo_50 rfl (lv_at hl 0 rfl) ?_
      refine lv_iload_n hx hb dX8_tellTwo_51 rfl (lv_at hl 1 rfl) ?_
      refine lv_bipush (v := 15) hx hb dX8_tellTwo_52 (by decide) ?_
      refine lv_iand hx hb dX8_tellTwo_54 ?_
      refine lv_topi (fun v22 ev22 => ?_)
      have iv22 : iv v22 0 15 := iv_eq ev22 (iv_and (x := x0) (iv_w (by decide : iv 15 15 15) (by decide) (by decide) : iv 15 0 15))
      obtain ⟨hPc, hDc, hFc⟩ := nv_sub3 (wc := [(h0, .inr (8, [.ref h1, .ref h2, .int u15_0, .int x2, .int u11_1])), (h2, .inr (1, [.ref h3, .ref h4, .ref h5, .ref h6])), (h3, .inl (y1, 32768, .inl f1)), (h6, .inr (9, [.ref h7, .ref h8, .int x4, .int x5, .int x6, .int x7])), (h8, .inl (y2, 3, .inl f2)), (h7, .inl (y3, 3, .inl f3)), (h5, .inr (5, [.int x8, .int x9, .int x10, .int x11, .int x12, .int x13])), (h4, .inr (7, [.int x14, .int x15, .int x16, .int x17, .int x18])), (h1, .inl (y0, 64, .inl u15_1))]) hP hD hS hA [7, 0, 1, 2, 3, 4, 5, 6, 8] (by decide) rfl
      have hKc := hK.sub (tys' := [(y1, .int), (y2, .int), (y3, .int), (y0, .int)]) [0, 1, 2, 3] rfl
      refine va_calli (va_runV (As := [.int v22]) (rest := []) ⟨hx, hb, hml, hown, hG⟩ (cX8_tellIndexed_1 l dC dI h0 h1 h2 h3 h4 h5 h6 h7 h8 y1 y2 y3 y0 H.size v22 u15_0 x2 u11_1 x4 x5 x6 x7 x8 x9 x10 x11 x12 x13 x14 x15 x16 x17 x18 f1 f2 f3 u15_1 (iv_w iu15_0 (by decide) (by decide)) ix7) (cwV 1 hG (gV wd_1217 wd_1219 wp_62 wd_16 wd_1220) rfl rfl rfl (by decide +kernel) ⟨Nat.le_of_ble_eq_true rfl, Nat.le_of_ble_eq_true rfl⟩) ⟨fun a U g mk q => by obtain ⟨q0, q1, qP, qK, qD⟩ := q; exact ⟨q0, q1, qP, va_K.moved (u := U) (U := U.calling g mk a) (Vm.Alike.refl U.vm) qK, qD⟩, va_recv hKc hPc (ci := 8) (q0 := 0) rfl rfl, fun U hU hW => ⟨rfl, by rw [hU], by rw [hU]; exact hPc, va_K.moved hW.alike hKc, hDc.weaken (fun _ _ _ _ => trivial)⟩⟩ rfl rfl hl.1 rfl (lv_room (Nat.le_of_ble_eq_true rfl)) dX8_tellTwo_55 ⟨by decide, by decide⟩) hS (fun q _ h => hFc q h) hFc (fun r23 u24 t H1 locs ht hvm hw hB hz1 hk1 hS => ?_)
      obtain ⟨u24_0, u24_1, u24_2⟩ := u24
      have hw : iv r23 0 1 ∧ iv u24_0 0 64 ∧ True := hw
      obtain ⟨ir23, iu24_0, -⟩ := hw
      obtain ⟨hP1, hK1, hD1⟩ := hB
      rw [ht] at hP1
      have hK1 := va_K.moved hvm.symm hK1
      obtain ⟨hP, hD⟩ := nv_join (wf := [(h0, .inr (8, [.ref h1, .ref h2, .int u24_0, .int x2, .int u24_1])), (h2, .inr (1, [.ref h3, .ref h4, .ref h5, .ref h6])), (h3, .inl (y1, 32768, .inl f1)), (h6, .inr (9, [.ref h7, .ref h8, .int x4, .int x5, .int x6, .int x7])), (h8, .inl (y2, 3, .inl f2)), (h7, .inl (y3, 3, .inl f3)), (h5, .inr (5, [.int x8, .int x9, .int x10, .int x11, .int x12, .int x13])), (h4, .inr (7, [.int x14, .int x15, .int x16, .int x17, .int x18])), (h1, .inl (y0, 64, .inl u24_2))]) hP hD [7, 0, 1, 2, 3, 4, 5, 6, 8] [] rfl rfl (by decide) (by decide) hk1 hFc hP1 hD1 rfl
      have hK := (hK.sub (tys' := []) [] rfl).app hK1
      generalize H1 = H at hP hS ⊢
      have hK : va_K (dC, dI) vwCl [(y1, .int), (y2, .int), (y3, .int), (y0, .int)] s := hK
      rw [hQ]
      obtain ⟨hP9, hD9⟩ := nv_sub2 (wc := [(h0, .inr (8, [.ref h1, .ref h2, .int u24_0, .int x2, .int u24_1])), (h1, .inl (y0, 64, .inl u24_2)), (h2, .inr (1, [.ref h3, .ref h4, .ref h5, .ref h6])), (h3, .inl (y1, 32768, .inl f1)), (h6, .inr (9, [.ref h7, .ref h8, .int x4, .int x5, .int x6, .int x7])), (h8, .inl (y2, 3, .inl f2)), (h7, .inl (y3, 3, .inl f3)), (h5, .inr (5, [.int x8, .int x9, .int x10, .int x11, .int x12, .int x13])), (h4, .inr (7, [.int x14, .int x15, .int x16, .int x17, .int x18]))]) hP hD [0, 8, 1, 2, 3, 4, 5, 6, 7] (by decide) rfl
      have hK9 := hK.sub (tys' := [(y0, .int), (y1, .int), (y2, .int), (y3, .int)]) [3, 0, 1, 2] rfl
      exact W.zret (v := r23) hx hb hr (iv_z (iv_w ir23 (by decide) (by decide))).1 (fun t ht hW => ⟨⟨r23, (u24_0, u24_1, u24_2), rfl, ⟨iv_w ir23 (by decide) (by decide), iv_w iu24_0 (by decide) (by decide), trivial⟩, by rw [ht]; exact hP9, va_K.moved hW.alike hK9, hD9⟩, hS.F ht⟩) hS.2.2 dX8_tellTwo_58
  · skip
    subst c12
    refine lv_iconst (v := 0) hx hb dX8_tellTwo_34 (by decide) ?_
    rw [hQ]
    obtain ⟨hP9, hD9⟩ := nv_sub2 (wc := [(h0, .inr (8, [.ref h1, .ref h2, .int u11_0, .int x2, .int u11_1])), (h1, .inl (y0, 64, .inl u11_2)), (h2, .inr (1, [.ref h3, .ref h4, .ref h5, .ref h6])), (h3, .inl (y1, 32768, .inl f1)), (h6, .inr (9, [.ref h7, .ref h8, .int x4, .int x5, .int x6, .int x7])), (h8, .inl (y2, 3, .inl f2)), (h7, .inl (y3, 3, .inl f3)), (h5, .inr (5, [.int x8, .int x9, .int x10, .int x11, .int x12, .int x13])), (h4, .inr (7, [.int x14, .int x15, .int x16, .int x17, .int x18]))]) hP hD [0, 1, 2, 3, 4, 5, 6, 7, 8] (by decide) rfl
    have hK9 := hK.sub (tys' := [(y0, .int), (y1, .int), (y2, .int), (y3, .int)]) [0, 1, 2, 3] rfl
    exact W.zret (v := 0) hx hb hr rfl (fun t ht hW => ⟨⟨0, (u11_0, u11_1, u11_2), rfl, ⟨iv_w (by decide : iv 0 0 0) (by decide) (by decide), iv_w iu11_0 (by decide) (by decide), trivial⟩, by rw [ht]; exact hP9, va_K.moved hW.alike hK9, hD9⟩, hS.F ht⟩) hS.2.2 dX8_tellTwo_35
set_option maxHeartbeats 100000000 in
set_option maxRecDepth 100000 in
theorem cX8_tellCode_1 (l : Launch) (dC : Nat → ClassId) (dI : Nat → Nat → Nat) (adK adV : Nat → Nat) (h0 h1 h2 h3 h4 h5 h6 h7 h8 : Nat) (y0 y1 y2 y3 : ClassId) (sz : Nat) (x0 x1 x2 x3 x4 x5 x6 x7 x8 x9 x10 x11 x12 x13 x14 x15 x16 x17 x18 : Int32) (f0 f1 f2 f3 : Nat → Int32) (ix1 : iv x1 0 64) (ix7 : iv x7 0 1) : Met l yX8_tellCode (Cond.code yX8_tellCode cX8_tellCode 5 (some .boolean) :: lw_G) ({ frames := 7, cells := 0, slots := 0, locals := 152 }) (va_Pc [.ref h0, .int x0] (fun U => U.heap.size = sz ∧ va_P (dC, dI) vwCl [(h0, .inr (8, [.ref h1, .ref h2, .int x1, .int x2, .int x3])), (h2, .inr (1, [.ref h3, .ref h4, .ref h5, .ref h6])), (h3, .inl (y0, 32768, .inl f0)), (h6, .inr (9, [.ref h7, .ref h8, .int x4, .int x5, .int x6, .int x7])), (h8, .inl (y1, 3, .inl f1)), (h7, .inl (y2, 3, .inl f2)), (h5, .inr (5, [.int x8, .int x9, .int x10, .int x11, .int x12, .int x13])), (h4, .inr (7, [.int x14, .int x15, .int x16, .int x17, .int x18])), (h1, .inl (y3, 64, .inl f3))] U.heap ∧ va_K (dC, dI) vwCl [(y0, .int), (y1, .int), (y2, .int), (y3, .int)] U ∧ va_D (fun _ => True) [(h0, .inr (8, [.ref h1, .ref h2, .int x1, .int x2, .int x3])), (h2, .inr (1, [.ref h3, .ref h4, .ref h5, .ref h6])), (h3, .inl (y0, 32768, .inl f0)), (h6, .inr (9, [.ref h7, .ref h8, .int x4, .int x5, .int x6, .int x7])), (h8, .inl (y1, 3, .inl f1)), (h7, .inl (y2, 3, .inl f2)), (h5, .inr (5, [.int x8, .int x9, .int x10, .int x11, .int x12, .int x13])), (h4, .inr (7, [.int x14, .int x15, .int x16, .int x17, .int x18])), (h1, .inl (y3, 64, .inl f3))] ∧ ev adK adV (va_A [(h0, .inr (8, [.ref h1, .ref h2, .int x1, .int x2, .int x3])), (h2, .inr (1, [.ref h3, .ref h4, .ref h5, .ref h6])), (h3, .inl (y0, 32768, .inl f0)), (h6, .inr (9, [.ref h7, .ref h8, .int x4, .int x5, .int x6, .int x7])), (h8, .inl (y1, 3, .inl f1)), (h7, .inl (y2, 3, .inl f2)), (h5, .inr (5, [.int x8, .int x9, .int x10, .int x11, .int x12, .int x13])), (h4, .inr (7, [.int x14, .int x15, .int x16, .int x17, .int x18])), (h1, .inl (y3, 64, .inl f3))] sz) U U.heap)) (va_Qi (fun (r : Int32) (u : Int32 × Int32 × Int32 × (Nat → Int32)) => iv r 0 1 ∧ iv u.1 0 64 ∧ iv u.2.1 0 65535 ∧ True) (fun (u : Int32 × Int32 × Int32 × (Nat → Int32)) (t : State) => va_P (dC, dI) vwCl [(h0, .inr (8, [.ref h1, .ref h2, .int u.1, .int u.2.1, .int u.2.2.1])), (h2, .inr (1, [.ref h3, .ref h4, .ref h5, .ref h6])), (h3, .inl (y0, 32768, .inl f0)), (h6, .inr (9, [.ref h7, .ref h8, .int x4, .int x5, .int x6, .int x7])), (h8, .inl (y1, 3, .inl f1)), (h7, .inl (y2, 3, .inl f2)), (h5, .inr (5, [.int x8, .int x9, .int x10, .int x11, .int x12, .int x13])), (h4, .inr (7, [.int x14, .int x15, .int x16, .int x17, .int x18])), (h1, .inl (y3, 64, .inl u.2.2.2))] t.heap ∧ va_K (dC, dI) vwCl [(y0, .int), (y1, .int), (y2, .int), (y3, .int)] t ∧ va_D (va_A [(h0, .inr (8, [.ref h1, .ref h2, .int x1, .int x2, .int x3])), (h2, .inr (1, [.ref h3, .ref h4, .ref h5, .ref h6])), (h3, .inl (y0, 32768, .inl f0)), (h6, .inr (9, [.ref h7, .ref h8, .int x4, .int x5, .int x6, .int x7])), (h8, .inl (y1, 3, .inl f1)), (h7, .inl (y2, 3, .inl f2)), (h5, .inr (5, [.int x8, .int x9, .int x10, .int x11, .int x12, .int x13])), (h4, .inr (7, [.int x14, .int x15, .int x16, .int x17, .int x18])), (h1, .inl (y3, 64, .inl f3))] sz) [(h0, .inr (8, [.ref h1, .ref h2, .int u.1, .int u.2.1, .int u.2.2.1])), (h2, .inr (1, [.ref h3, .ref h4, .ref h5, .ref h6])), (h3, .inl (y0, 32768, .inl f0)), (h6, .inr (9, [.ref h7, .ref h8, .int x4, .int x5, .int x6, .int x7])), (h8, .inl (y1, 3, .inl f1)), (h7, .inl (y2, 3, .inl f2)), (h5, .inr (5, [.int x8, .int x9, .int x10, .int x11, .int x12, .int x13])), (h4, .inr (7, [.int x14, .int x15, .int x16, .int x17, .int x18])), (h1, .inl (y3, 64, .inl u.2.2.2))]) (va_A [(h0, .inr (8, [.ref h1, .ref h2, .int x1, .int x2, .int x3])), (h2, .inr (1, [.ref h3, .ref h4, .ref h5, .ref h6])), (h3, .inl (y0, 32768, .inl f0)), (h6, .inr (9, [.ref h7, .ref h8, .int x4, .int x5, .int x6, .int x7])), (h8, .inl (y1, 3, .inl f1)), (h7, .inl (y2, 3, .inl f2)), (h5, .inr (5, [.int x8, .int x9, .int x10, .int x11, .int x12, .int x13])), (h4, .inr (7, [.int x14, .int x15, .int x16, .int x17, .int x18])), (h1, .inl (y3, 64, .inl f3))] sz)) 0 0 (va_A [(h0, .inr (8, [.ref h1, .ref h2, .int x1, .int x2, .int x3])), (h2, .inr (1, [.ref h3, .ref h4, .ref h5, .ref h6])), (h3, .inl (y0, 32768, .inl f0)), (h6, .inr (9, [.ref h7, .ref h8, .int x4, .int x5, .int x6, .int x7])), (h8, .inl (y1, 3, .inl f1)), (h7, .inl (y2, 3, .inl f2)), (h5, .inr (5, [.int x8, .int x9, .int x10, .int x11, .int x12, .int x13])), (h4, .inr (7, [.int x14, .int x15, .int x16, .int x17, .int x18])), (h1, .inl (y3, 64, .inl f3))] sz) := by
  refine Met.ofW (cc := cX8_tellCode) (maxL := 5) (ret := (some .boolean)) (by decide) rfl ?_
  intro p e s m args below meth c s₁ B hml hv
  obtain ⟨rfl, hsz, hP, hK, hD0, hE⟩ := hv
  have hx := B.exec
  have hb := B.bytes
  have hr := B.returns
  have hts0 := atoms_spec (ws := Cond.code yX8_tellCode cX8_tellCode 5 (some .boolean) :: lw_G) B.pre
  have hG : ∀ w ∈ lw_G, w.before _ s = true := fun w h => hts0 w (List.mem_cons_of_mem _ h)
  have hown : s.vm.findClass RX8 = some m.cls := findClass_of_methodNamed B.named
  have hlocks := B.notSynchronized
  subst hsz
  have hD := hD0.self (sz := s.heap.size)
  generalize hAe : va_A [(h0, .inr (8, [.ref h1, .ref h2, .int x1, .int x2, .int x3])), (h2, .inr (1, [.ref h3, .ref h4, .ref h5, .ref h6])), (h3, .inl (y0, 32768, .inl f0)), (h6, .inr (9, [.ref h7, .ref h8, .int x4, .int x5, .int x6, .int x7])), (h8, .inl (y1, 3, .inl f1)), (h7, .inl (y2, 3, .inl f2)), (h5, .inr (5, [.int x8, .int x9, .int x10, .int x11, .int x12, .int x13])), (h4, .inr (7, [.int x14, .int x15, .int x16, .int x17, .int x18])), (h1, .inl (y3, 64, .inl f3))] s.heap.size = A at hD hE ⊢
  have hA : ∀ q : Nat, s.heap.size ≤ q → A q := fun q h => by rw [← hAe]; exact Or.inr h
  have hS : va_S A s.heap s.heap [] := va_S.rf
  have hP : va_P (dC, dI) vwCl [(h0, .inr (8, [.ref h1, .ref h2, .int x1, .int x2, .int x3])), (h2, .inr (1, [.ref h3, .ref h4, .ref h5, .ref h6])), (h3, .inl (y0, 32768, .inl f0)), (h6, .inr (9, [.ref h7, .ref h8, .int x4, .int x5, .int x6, .int x7])), (h8, .inl (y1, 3, .inl f1)), (h7, .inl (y2, 3, .inl f2)), (h5, .inr (5, [.int x8, .int x9, .int x10, .int x11, .int x12, .int x13])), (h4, .inr (7, [.int x14, .int x15, .int x16, .int x17, .int x18])), (h1, .inl (y3, 64, .inl f3))] s.heap := hP
  have hl := lv_entry ([.ref h0, .int x0]) (n := 5) (Nat.le_of_ble_eq_true rfl)
  rw [lg_entry_eq]
  generalize (lg_sl ([.ref h0, .int x0]) ++ List.replicate (5 - (lg_sl ([.ref h0, .int x0])).length) Slot.unset).toArray = ls at hl ⊢
  have hl : lv_has ls 5 [(0, .ref h0), (1, .int x0)] := hl
  generalize ([.ref h0, .int x0] : List Value).toArray = ar at hG ⊢
  refine wq (fun Q hQ => ?_)
  refine lv_aload_n hx hb dX8_tellCode_0 rfl (lv_at hl 0 rfl) ?_
  refine va_get (D := (dC, dI)) (ci := 8) (v := .ref h2) (C := RX8) (T := TX8) (N := 5) hx hb hG inGX8 hown hK hP 0 rfl rfl 1 (by decide) (hG _ wd_380) (fun _ h9 => h9) rfl dX8_tellCode_1 ?_
  refine lv_iload_n hx hb dX8_tellCode_4 rfl (lv_at hl 1 rfl) ?_
  obtain ⟨hPc, hDc, hFc⟩ := nv_sub3 (wc := [(h2, .inr (1, [.ref h3, .ref h4, .ref h5, .ref h6])), (h3, .inl (y0, 32768, .inl f0)), (h6, .inr (9, [.ref h7, .ref h8, .int x4, .int x5, .int x6, .int x7])), (h8, .inl (y1, 3, .inl f1)), (h7, .inl (y2, 3, .inl f2)), (h5, .inr (5, [.int x8, .int x9, .int x10, .int x11, .int x12, .int x13])), (h4, .inr (7, [.int x14, .int x15, .int x16, .int x17, .int x18]))]) hP hD hS hA [1, 2, 3, 4, 5, 6, 7] (by decide) rfl
  have hKc := hK.sub (tys' := [(y0, .int), (y1, .int), (y2, .int)]) [0, 1, 2] rfl
  refine va_calli (va_runV (As := [.int x0]) (rest := []) ⟨hx, hb, hml, hown, hG⟩ (cX1_lookWord_1 l dC dI h2 h3 h4 h5 h6 h7 h8 y0 y1 y2 s.heap.size x0 x4 x5 x6 x7 x8 x9 x10 x11 x12 x13 x14 x15 x16 x17 x18 f0 f1 f2 ix7) (cwV 1 hG (gV wd_1183 wd_822 wd_823 wd_2 wd_824) rfl rfl rfl (by decide +kernel) ⟨Nat.le_of_ble_eq_true rfl, Nat.le_of_ble_eq_true rfl⟩) ⟨fun a U g mk q => by obtain ⟨q0, q1, qP, qK, qD⟩ := q; exact ⟨q0, q1, qP, va_K.moved (u := U) (U := U.calling g mk a) (Vm.Alike.refl U.vm) qK, qD⟩, va_recv hKc hPc (ci := 1) (q0 := 0) rfl rfl, fun U hU hW => ⟨rfl, by rw [hU], by rw [hU]; exact hPc, va_K.moved hW.alike hKc, hDc.weaken (fun _ _ _ _ => trivial)⟩⟩ rfl rfl hl.1 rfl (lv_room (Nat.le_of_ble_eq_true rfl)) dX8_tellCode_5 ⟨by decide, by decide⟩) hS (fun q _ h => hFc q h) hFc (fun r1 u2 t H1 locs ht hvm hw hB hz1 hk1 hS => ?_)
  obtain ⟨hP1, hK1, hD1⟩ := hB
  rw [ht] at hP1
  have hK1 := va_K.moved hvm.symm hK1
  obtain ⟨hP, hD⟩ := nv_join (wf := [(h0, .inr (8, [.ref h1, .ref h2, .int x1, .int x2, .int x3])), (h1, .inl (y3, 64, .inl f3)), (h2, .inr (1, [.ref h3, .ref h4, .ref h5, .ref h6])), (h3, .inl (y0, 32768, .inl f0)), (h6, .inr (9, [.ref h7, .ref h8, .int x4, .int x5, .int x6, .int x7])), (h8, .inl (y1, 3, .inl f1)), (h7, .inl (y2, 3, .inl f2)), (h5, .inr (5, [.int x8, .int x9, .int x10, .int x11, .int x12, .int x13])), (h4, .inr (7, [.int x14, .int x15, .int x16, .int x17, .int x18]))]) hP hD [1, 2, 3, 4, 5, 6, 7] [0, 8] rfl rfl (by decide) (by decide) hk1 hFc hP1 hD1 rfl
  have hK := (hK.sub (tys' := [(y3, .int)]) [3] rfl).app hK1
  generalize H1 = H at hP hS ⊢
  have hK : va_K (dC, dI) vwCl [(y3, .int), (y0, .int), (y1, .int), (y2, .int)] s := hK
  refine lv_istore_n (lv' := [(2, .int r1), (0, .ref h0), (1, .int x0)]) hx hb dX8_tellCode_8 rfl hl (by decide) rfl (fun ls hl => ?_)
  refine lv_aload_n hx hb dX8_tellCode_9 rfl (lv_at hl 1 rfl) ?_
  refine lv_iconst (v := 0) hx hb dX8_tellCode_10 (by decide) ?_
  refine va_put (D := (dC, dI)) (ci := 8) (v := .int 0) (ty := .int) (C := RX8) (T := TX8) (N := 5) hx hb hG inGX8 tyX8 tyX8_ok nmX8 hown hK hP hD hS 0 rfl rfl 2 (by decide) (hG _ wd_381) (fun _ h9 => h9) rfl (by decide +kernel) rfl rfl (Nat.le_of_ble_eq_true rfl) dX8_tellCode_11 (fun H locs hP hD hS => ?_)
  obtain ⟨hP, hD⟩ := nv_eq (ws' := [(h0, .inr (8, [.ref h1, .ref h2, .int 0, .int x2, .int x3])), (h1, .inl (y3, 64, .inl f3)), (h2, .inr (1, [.ref h3, .ref h4, .ref h5, .ref h6])), (h3, .inl (y0, 32768, .inl f0)), (h6, .inr (9, [.ref h7, .ref h8, .int x4, .int x5, .int x6, .int x7])), (h8, .inl (y1, 3, .inl f1)), (h7, .inl (y2, 3, .inl f2)), (h5, .inr (5, [.int x8, .int x9, .int x10, .int x11, .int x12, .int x13])), (h4, .inr (7, [.int x14, .int x15, .int x16, .int x17, .int x18]))]) hP hD rfl
  refine lv_aload_n hx hb dX8_tellCode_14 rfl (lv_at hl 1 rfl) ?_
  refine lv_iload_n hx hb dX8_tellCode_15 rfl (lv_at hl 2 rfl) ?_
  refine lv_iconst (v := 2) hx hb dX8_tellCode_16 (by decide) ?_
  refine lv_iadd hx hb dX8_tellCode_17 ?_
  refine lv_topi (fun v3 ev3 => ?_)
  refine va_put (D := (dC, dI)) (ci := 8) (v := .int v3) (ty := .int) (C := RX8) (T := TX8) (N := 5) hx hb hG inGX8 tyX8 tyX8_ok nmX8 hown hK hP hD hS 0 rfl rfl 4 (by decide) (hG _ wd_383) (fun _ h9 => h9) rfl (by decide +kernel) rfl rfl (Nat.le_of_ble_eq_true rfl) dX8_tellCode_18 (fun H locs hP hD hS => ?_)
  obtain ⟨hP, hD⟩ := nv_eq (ws' := [(h0, .inr (8, [.ref h1, .ref h2, .int 0, .int x2, .int v3])), (h1, .inl (y3, 64, .inl f3)), (h2, .inr (1, [.ref h3, .ref h4, .ref h5, .ref h6])), (h3, .inl (y0, 32768, .inl f0)), (h6, .inr (9, [.ref h7, .ref h8, .int x4, .int x5, .int x6, .int x7])), (h8, .inl (y1, 3, .inl f1)), (h7, .inl (y2, 3, .inl f2)), (h5, .inr (5, [.int x8, .int x9, .int x10, .int x11, .int x12, .int x13])), (h4, .inr (7, [.int x14, .int x15, .int x16, .int x17, .int x18]))]) hP hD rfl
  refine lv_iload_n hx hb dX8_tellCode_21 rfl (lv_at hl 0 rfl) ?_
  obtain ⟨hPc, hDc, hFc⟩ := nv_sub3 (wc := []) hP hD hS hA [] (by decide) rfl
  have hKc := hK.sub (tys' := []) [] rfl
  refine va_calli (va_runS (As := [.int r1]) (rest := []) ⟨hx, hb, hml, hown, hG⟩ (cX2_isCode_1 l dC dI H.size r1) (va_cwS 1 hG (gS wd_1184 wd_1010 wd_6 wd_1011) rfl rfl rfl (by decide +kernel) ⟨Nat.le_of_ble_eq_true rfl, Nat.le_of_ble_eq_true rfl⟩) ⟨fun a U g mk q => by obtain ⟨q0, q1, qP, qK, qD⟩ := q; exact ⟨q0, q1, qP, va_K.moved (u := U) (U := U.calling g mk a) (Vm.Alike.refl U.vm) qK, qD⟩, fun U hU hW => ⟨rfl, by rw [hU], by rw [hU]; exact hPc, va_K.moved hW.alike hKc, hDc.weaken (fun _ _ _ _ => trivial)⟩⟩ rfl rfl hl.1 rfl (lv_room (Nat.le_of_ble_eq_true rfl)) dX8_tellCode_22 ⟨by decide, by decide⟩) hS (fun q _ h => hFc q h) hFc (fun r4 u5 t H1 locs ht hvm hw hB hz1 hk1 hS => ?_)
  have hw : iv r4 0 1 ∧ True := hw
  obtain ⟨ir4, -⟩ := hw
  obtain ⟨hP1, hK1, hD1⟩ := hB
  rw [ht] at hP1
  have hK1 := va_K.moved hvm.symm hK1
  obtain ⟨hP, hD⟩ := nv_join (wf := [(h0, .inr (8, [.ref h1, .ref h2, .int 0, .int x2, .int v3])), (h1, .inl (y3, 64, .inl f3)), (h2, .inr (1, [.ref h3, .ref h4, .ref h5, .ref h6])), (h3, .inl (y0, 32768, .inl f0)), (h6, .inr (9, [.ref h7, .ref h8, .int x4, .int x5, .int x6, .int x7])), (h8, .inl (y1, 3, .inl f1)), (h7, .inl (y2, 3, .inl f2)), (h5, .inr (5, [.int x8, .int x9, .int x10, .int x11, .int x12, .int x13])), (h4, .inr (7, [.int x14, .int x15, .int x16, .int x17, .int x18]))]) hP hD [] [0, 1, 2, 3, 4, 5, 6, 7, 8] rfl rfl (by decide) (by decide) hk1 hFc hP1 hD1 rfl
  have hK := (hK.sub (tys' := [(y3, .int), (y0, .int), (y1, .int), (y2, .int)]) [0, 1, 2, 3] rfl).app hK1
  generalize H1 = H at hP hS ⊢
  have hK : va_K (dC, dI) vwCl [(y3, .int), (y0, .int), (y1, .int), (y2, .int)] s := hK
  refine jcut (a := ∀ (b35 : Int32) (b36 : Int32) (b37 : Int32) (b38 : Nat → Int32) (ib35 : iv b35 0 1) (ib36 : iv b36 0 64) (H : Heap) (locs : List Loc) (hK : va_K (dC, dI) vwCl [(y0, .int), (y1, .int), (y2, .int), (y3, .int)] s) (hP : va_P (dC, dI) vwCl [(h2, .inr (1, [.ref h3, .ref h4, .ref h5, .ref h6])), (h3, .inl (y0, 32768, .inl f0)), (h6, .inr (9, [.ref h7, .ref h8, .int x4, .int x5, .int x6, .int x7])), (h8, .inl (y1, 3, .inl f1)), (h7, .inl (y2, 3, .inl f2)), (h5, .inr (5, [.int x8, .int x9, .int x10, .int x11, .int x12, .int x13])), (h4, .inr (7, [.int x14, .int x15, .int x16, .int x17, .int x18])), (h0, .inr (8, [.ref h1, .ref h2, .int b36, .int x2, .int b37])), (h1, .inl (y3, 64, .inl b38))] H) (hD : va_D A [(h2, .inr (1, [.ref h3, .ref h4, .ref h5, .ref h6])), (h3, .inl (y0, 32768, .inl f0)), (h6, .inr (9, [.ref h7, .ref h8, .int x4, .int x5, .int x6, .int x7])), (h8, .inl (y1, 3, .inl f1)), (h7, .inl (y2, 3, .inl f2)), (h5, .inr (5, [.int x8, .int x9, .int x10, .int x11, .int x12, .int x13])), (h4, .inr (7, [.int x14, .int x15, .int x16, .int x17, .int x18])), (h0, .inr (8, [.ref h1, .ref h2, .int b36, .int x2, .int b37])), (h1, .inl (y3, 64, .inl b38))]) (hS : va_S A s.heap H locs) (ls : Array Slot) (hl : lv_has ls 5 [(3, .int b35), (0, .ref h0)]), W p l e (headSpec (Cond.code yX8_tellCode cX8_tellCode 5 (some .boolean) :: lw_G) ({ frames := 7, cells := 0, slots := 0, locals := 152 })).room s m ar below meth c H locs 0 0 Q (F0 m 125 ls [])) ?_ (fun j39 => ?_)
  · skip
    intro b35 b36 b37 b38 ib35 ib36 H locs hK hP hD hS ls hl
    refine lv_aload_n hx hb dX8_tellCode_125 rfl (lv_at hl 1 rfl) ?_
    refine lv_aload_n hx hb dX8_tellCode_126 rfl (lv_at hl 1 rfl) ?_
    refine va_get (D := (dC, dI)) (ci := 8) (v := .int b37) (C := RX8) (T := TX8) (N := 5) hx hb hG inGX8 hown hK hP 7 rfl rfl 4 (by decide) (hG _ wd_383) (fun _ h9 => h9) rfl dX8_tellCode_127 ?_
    refine lv_ldc hx hb hown (hG _ wd_1206) dX8_tellCode_130 ?_
    refine lv_iand hx hb dX8_tellCode_132 ?_
    refine lv_topi (fun v40 ev40 => ?_)
    have iv40 : iv v40 0 65535 := iv_eq ev40 (iv_and (x := b37) (iv_w (by decide : iv 65535 65535 65535) (by decide) (by decide) : iv 65535 0 65535))
    refine va_put (D := (dC, dI)) (ci := 8) (v := .int v40) (ty := .int) (C := RX8) (T := TX8) (N := 5) hx hb hG inGX8 tyX8 tyX8_ok nmX8 hown hK hP hD hS 7 rfl rfl 3 (by decide) (hG _ wd_382) (fun _ h9 => h9) rfl (by decide +kernel) rfl rfl (Nat.le_of_ble_eq_true rfl) dX8_tellCode_133 (fun H locs hP hD hS => ?_)
    obtain ⟨hP, hD⟩ := nv_eq (ws' := [(h2, .inr (1, [.ref h3, .ref h4, .ref h5, .ref h6])), (h3, .inl (y0, 32768, .inl f0)), (h6, .inr (9, [.ref h7, .ref h8, .int x4, .int x5, .int x6, .int x7])), (h8, .inl (y1, 3, .inl f1)), (h7, .inl (y2, 3, .inl f2)), (h5, .inr (5, [.int x8, .int x9, .int x10, .int x11, .int x12, .int x13])), (h4, .inr (7, [.int x14, .int x15, .int x16, .int x17, .int x18])), (h0, .inr (8, [.ref h1, .ref h2, .int b36, .int v40, .int b37])), (h1, .inl (y3, 64, .inl b38))]) hP hD rfl
    refine lv_iload_n hx hb dX8_tellCode_136 rfl (lv_at hl 0 rfl) ?_
    rw [hQ]
    obtain ⟨hP9, hD9⟩ := nv_sub2 (wc := [(h0, .inr (8, [.ref h1, .ref h2, .int b36, .int v40, .int b37])), (h2, .inr (1, [.ref h3, .ref h4, .ref h5, .ref h6])), (h3, .inl (y0, 32768, .inl f0)), (h6, .inr (9, [.ref h7, .ref h8, .int x4, .int x5, .int x6, .int x7])), (h8, .inl (y1, 3, .inl f1)), (h7, .inl (y2, 3, .inl f2)), (h5, .inr (5, [.int x8, .int x9, .int x10, .int x11, .int x12, .int x13])), (h4, .inr (7, [.int x14, .int x15, .int x16, .int x17, .int x18])), (h1, .inl (y3, 64, .inl b38))]) hP hD [7, 0, 1, 2, 3, 4, 5, 6, 8] (by decide) rfl
    have hK9 := hK.sub (tys' := [(y0, .int), (y1, .int), (y2, .int), (y3, .int)]) [0, 1, 2, 3] rfl
    exact W.zret (v := b35) hx hb hr (iv_z (iv_w ib35 (by decide) (by decide))).1 (fun t ht hW => ⟨⟨b35, (b36, v40, b37, b38), rfl, ⟨iv_w ib35 (by decide) (by decide), iv_w ib36 (by decide) (by decide), iv_w iv40 (by decide) (by decide), trivial⟩, by rw [ht]; exact hP9, va_K.moved hW.alike hK9, hD9⟩, hS.F ht⟩) hS.2.2 dX8_tellCode_137
  refine lv_if_ne (tgt := 33) hx hb dX8_tellCode_25 (by decide) (fun c6 => ?_) (fun c6 => ?_)
  · skip
    have j41 : iv r4 1 1 := iv_neLo ir4 (by decide : iv 0 0 0) c6 (by decide)
    refine lv_iload_n hx hb dX8_tellCode_33 rfl (lv_at hl 0 rfl) ?_
    refine lv_sipush (v := 16384) hx hb dX8_tellCode_34 (by decide) ?_
    refine lv_icmp_lt (tgt := 49) hx hb dX8_tellCode_37 (by decide) (fun c42 => ?_) (fun c42 => ?_)
    · skip
      have j43 : iv r1 (-2147483648) 16383 := iv_ltL (iv_any r1) (by decide : iv 16384 16384 16384) c42 (by decide)
      refine lv_iload_n hx hb dX8_tellCode_49 rfl (lv_at hl 0 rfl) ?_
      refine lv_sipush (v := 8192) hx hb dX8_tellCode_50 (by decide) ?_
      refine lv_icmp_ge (tgt := 65) hx hb dX8_tellCode_53 (by decide) (fun c44 => ?_) (fun c44 => ?_)
      · skip
        have j45 : iv r1 8192 16383 := iv_leR (by decide : iv 8192 8192 8192) j43 c44 (by decide)
        refine lv_aload_n hx hb dX8_tellCode_65 rfl (lv_at hl 1 rfl) ?_
        refine lv_bipush (v := 19) hx hb dX8_tellCode_66 (by decide) ?_
        refine lv_iload_n hx hb dX8_tellCode_68 rfl (lv_at hl 0 rfl) ?_
        refine lv_bipush (v := 10) hx hb dX8_tellCode_69 (by decide) ?_
        refine lv_ishr hx hb dX8_tellCode_71 ?_
        refine lv_topi (fun v46 ev46 => ?_)
        have iv46 : iv v46 8 15 := iv_eq ev46 (iv_shr 10 (by decide) j45 (by decide) (by decide))
        refine lv_bipush (v := 7) hx hb dX8_tellCode_72 (by decide) ?_
        refine lv_iand hx hb dX8_tellCode_74 ?_
        refine lv_topi (fun v47 ev47 => ?_)
        have iv47 : iv v47 0 7 := iv_eq ev47 (iv_and (x := v46) (iv_w (by decide : iv 7 7 7) (by decide) (by decide) : iv 7 0 7))
        refine lv_iadd hx hb dX8_tellCode_75 ?_
        refine lv_topi (fun v48 ev48 => ?_)
        have iv48 : iv v48 19 26 := iv_eq ev48 (iv_add (by decide : iv 19 19 19) iv47 (by decide) (by decide))
        refine lv_iconst (v := 0) hx hb dX8_tellCode_76 (by decide) ?_
        obtain ⟨hPc, hDc, hFc⟩ := nv_sub3 (wc := [(h0, .inr (8, [.ref h1, .ref h2, .int 0, .int x2, .int v3])), (h1, .inl (y3, 64, .inl f3))]) hP hD hS hA [0, 1] (by decide) rfl
        have hKc := hK.sub (tys' := [(y3, .int)]) [0] rfl
        refine va_callv (va_runV (As := [.int v48, .int 0]) (rest := []) ⟨hx, hb, hml, hown, hG⟩ (cX8_putName_1 l dC dI adK adV h0 h1 h2 y3 H.size v48 0 0 x2 v3 f3 (iv_w (by decide : iv 0 0 0) (by decide) (by decide))) (cwV 2 hG (gV wd_1189 wd_1191 wp_56 wd_16 wd_1192) rfl rfl rfl (by decide +kernel) ⟨Nat.le_of_ble_eq_true rfl, Nat.le_of_ble_eq_true rfl⟩) ⟨fun a U g mk q => by obtain ⟨q0, q1, qP, qK, qD, qE⟩ := q; exact ⟨q0, q1, qP, va_K.moved (u := U) (U := U.calling g mk a) (Vm.Alike.refl U.vm) qK, qD, qE.same rfl⟩, va_recv hKc hPc (ci := 8) (q0 := 0) rfl rfl, fun U hU hW => ⟨rfl, by rw [hU], by rw [hU]; exact hPc, va_K.moved hW.alike hKc, hDc.weaken (fun _ _ _ _ => trivial), by rw [hU]; exact ((hE.kept hS.2.1).narrow hFc).warm hW⟩⟩ rfl rfl hl.1 rfl (lv_room (Nat.le_of_ble_eq_true rfl)) dX8_tellCode_77 ⟨by decide, by decide⟩) hS (fun q _ h => hFc q h) hFc (fun u50 t H1 locs ht hvm hw hB hz1 hk1 hS => ?_)
        obtain ⟨u50_0, u50_1⟩ := u50
        have hw : iv u50_0 1 64 ∧ True := hw
        obtain ⟨iu50_0, -⟩ := hw
        obtain ⟨hP1, hK1, hD1⟩ := hB
        rw [ht] at hP1
        have hK1 := va_K.moved hvm.symm hK1
        obtain ⟨hP, hD⟩ := nv_join (wf := [(h2, .inr (1, [.ref h3, .ref h4, .ref h5, .ref h6])), (h3, .inl (y0, 32768, .inl f0)), (h6, .inr (9, [.ref h7, .ref h8, .int x4, .int x5, .int x6, .int x7])), (h8, .inl (y1, 3, .inl f1)), (h7, .inl (y2, 3, .inl f2)), (h5, .inr (5, [.int x8, .int x9, .int x10, .int x11, .int x12, .int x13])), (h4, .inr (7, [.int x14, .int x15, .int x16, .int x17, .int x18])), (h0, .inr (8, [.ref h1, .ref h2, .int u50_0, .int x2, .int v3])), (h1, .inl (y3, 64, .inl u50_1))]) hP hD [0, 1] [2, 3, 4, 5, 6, 7, 8] rfl rfl (by decide) (by decide) hk1 hFc hP1 hD1 rfl
        have hK := (hK.sub (tys' := [(y0, .int), (y1, .int), (y2, .int)]) [1, 2, 3] rfl).app hK1
        generalize H1 = H at hP hS ⊢
        have hK : va_K (dC, dI) vwCl [(y0, .int), (y1, .int), (y2, .int), (y3, .int)] s := hK
        refine lv_iload_n hx hb dX8_tellCode_80 rfl (lv_at hl 0 rfl) ?_
        refine lv_sipush (v := 512) hx hb dX8_tellCode_81 (by decide) ?_
        refine lv_iand hx hb dX8_tellCode_84 ?_
        refine lv_topi (fun v51 ev51 => ?_)
        have iv51 : iv v51 0 512 := iv_eq ev51 (iv_and (x := r1) (iv_w (by decide : iv 512 512 512) (by decide) (by decide) : iv 512 0 512))
        refine jcut (a := ∀ (b57 : Int32) (ib57 : iv b57 (-1024) 1023) (H : Heap) (locs : List Loc) (hK : va_K (dC, dI) vwCl [(y0, .int), (y1, .int), (y2, .int), (y3, .int)] s) (hP : va_P (dC, dI) vwCl [(h2, .inr (1, [.ref h3, .ref h4, .ref h5, .ref h6])), (h3, .inl (y0, 32768, .inl f0)), (h6, .inr (9, [.ref h7, .ref h8, .int x4, .int x5, .int x6, .int x7])), (h8, .inl (y1, 3, .inl f1)), (h7, .inl (y2, 3, .inl f2)), (h5, .inr (5, [.int x8, .int x9, .int x10, .int x11, .int x12, .int x13])), (h4, .inr (7, [.int x14, .int x15, .int x16, .int x17, .int x18])), (h0, .inr (8, [.ref h1, .ref h2, .int u50_0, .int x2, .int v3])), (h1, .inl (y3, 64, .inl u50_1))] H) (hD : va_D A [(h2, .inr (1, [.ref h3, .ref h4, .ref h5, .ref h6])), (h3, .inl (y0, 32768, .inl f0)), (h6, .inr (9, [.ref h7, .ref h8, .int x4, .int x5, .int x6, .int x7])), (h8, .inl (y1, 3, .inl f1)), (h7, .inl (y2, 3, .inl f2)), (h5, .inr (5, [.int x8, .int x9, .int x10, .int x11, .int x12, .int x13])), (h4, .inr (7, [.int x14, .int x15, .int x16, .int x17, .int x18])), (h0, .inr (8, [.ref h1, .ref h2, .int u50_0, .int x2, .int v3])), (h1, .inl (y3, 64, .inl u50_1))]) (hS : va_S A s.heap H locs) (ls : Array Slot) (hl : lv_has ls 5 [(0, .ref h0)]), W p l e (headSpec (Cond.code yX8_tellCode cX8_tellCode 5 (some .boolean) :: lw_G) ({ frames := 7, cells := 0, slots := 0, locals := 152 })).room s m ar below meth c H locs 0 0 Q (F0 m 105 ls [.int b57])) ?_ (fun j58 => ?_)
        · skip
          intro b57 ib57 H locs hK hP hD hS ls hl
          refine lv_istore (lv' := [(4, .int b57), (0, .ref h0)]) hx hb dX8_tellCode_105 hl (by decide) rfl (fun ls hl => ?_)
          refine lv_aload_n hx hb dX8_tellCode_107 rfl (lv_at hl 1 rfl) ?_
          refine lv_aload_n hx hb dX8_tellCode_108 rfl (lv_at hl 1 rfl) ?_
          refine va_get (D := (dC, dI)) (ci := 8) (v := .int v3) (C := RX8) (T := TX8) (N := 5) hx hb hG inGX8 hown hK hP 7 rfl rfl 4 (by decide) (hG _ wd_383) (fun _ h9 => h9) rfl dX8_tellCode_109 ?_
          refine lv_iconst (v := 2) hx hb dX8_tellCode_112 (by decide) ?_
          refine lv_iload hx hb dX8_tellCode_113 (lv_at hl 0 rfl) ?_
          refine lv_imul hx hb dX8_tellCode_115 ?_
          refine lv_topi (fun v59 ev59 => ?_)
          refine lv_iadd hx hb dX8_tellCode_116 ?_
          refine lv_topi (fun v60 ev60 => ?_)
          refine lv_ldc hx hb hown (hG _ wd_1206) dX8_tellCode_117 ?_
          refine lv_iand hx hb dX8_tellCode_119 ?_
          refine lv_topi (fun v61 ev61 => ?_)
          have iv61 : iv v61 0 65535 := iv_eq ev61 (iv_and (x := v60) (iv_w (by decide : iv 65535 65535 65535) (by decide) (by decide) : iv 65535 0 65535))
          obtain ⟨hPc, hDc, hFc⟩ := nv_sub3 (wc := [(h0, .inr (8, [.ref h1, .ref h2, .int u50_0, .int x2, .int v3])), (h1, .inl (y3, 64, .inl u50_1))]) hP hD hS hA [7, 8] (by decide) rfl
          have hKc := hK.sub (tys' := [(y3, .int)]) [3] rfl
          refine va_callv (va_runV (As := [.int v61]) (rest := []) ⟨hx, hb, hml, hown, hG⟩ (cX8_putNumber_1 l dC dI h0 h1 h2 y3 H.size v61 u50_0 x2 v3 u50_1 (iv_w iu50_0 (by decide) (by decide))) (cwV 1 hG (gV wd_1207 wd_1209 wp_60 wd_16 wd_1210) rfl rfl rfl (by decide +kernel) ⟨Nat.le_of_ble_eq_true rfl, Nat.le_of_ble_eq_true rfl⟩) ⟨fun a U g mk q => by obtain ⟨q0, q1, qP, qK, qD⟩ := q; exact ⟨q0, q1, qP, va_K.moved (u := U) (U := U.calling g mk a) (Vm.Alike.refl U.vm) qK, qD⟩, va_recv hKc hPc (ci := 8) (q0 := 0) rfl rfl, fun U hU hW => ⟨rfl, by rw [hU], by rw [hU]; exact hPc, va_K.moved hW.alike hKc, hDc.weaken (fun _ _ _ _ => trivial)⟩⟩ rfl rfl hl.1 rfl (lv_room (Nat.le_of_ble_eq_true rfl)) dX8_tellCode_120 ⟨by decide, by decide⟩) hS (fun q _ h => hFc q h) hFc (fun u63 t H1 locs ht hvm hw hB hz1 hk1 hS => ?_)
          obtain ⟨u63_0, u63_1⟩ := u63
          have hw : iv u63_0 1 64 ∧ True := hw
          obtain ⟨iu63_0, -⟩ := hw
          obtain ⟨hP1, hK1, hD1⟩ := hB
          rw [ht] at hP1
          have hK1 := va_K.moved hvm.symm hK1
          obtain ⟨hP, hD⟩ := nv_join (wf := [(h2, .inr (1, [.ref h3, .ref h4, .ref h5, .ref h6])), (h3, .inl (y0, 32768, .inl f0)), (h6, .inr (9, [.ref h7, .ref h8, .int x4, .int x5, .int x6, .int x7])), (h8, .inl (y1, 3, .inl f1)), (h7, .inl (y2, 3, .inl f2)), (h5, .inr (5, [.int x8, .int x9, .int x10, .int x11, .int x12, .int x13])), (h4, .inr (7, [.int x14, .int x15, .int x16, .int x17, .int x18])), (h0, .inr (8, [.ref h1, .ref h2, .int u63_0, .int x2, .int v3])), (h1, .inl (y3, 64, .inl u63_1))]) hP hD [7, 8] [0, 1, 2, 3, 4, 5, 6] rfl rfl (by decide) (by decide) hk1 hFc hP1 hD1 rfl
          have hK := (hK.sub (tys' := [(y0, .int), (y1, .int), (y2, .int)]) [0, 1, 2] rfl).app hK1
          generalize H1 = H at hP hS ⊢
          have hK : va_K (dC, dI) vwCl [(y0, .int), (y1, .int), (y2, .int), (y3, .int)] s := hK
          refine lv_iconst (v := 1) hx hb dX8_tellCode_123 (by decide) ?_
          refine lv_istore_n (lv' := [(3, .int 1), (4, .int b57), (0, .ref h0)]) hx hb dX8_tellCode_124 rfl hl (by decide) rfl (fun ls hl => ?_)
          exact j39 1 u63_0 v3 u63_1 (iv_w (by decide : iv 1 1 1) (by decide) (by decide)) (iv_w iu63_0 (by decide) (by decide)) _ _ hK hP hD hS ls (lv_sub hl [0, 2] rfl)
        refine lv_if_eq (tgt := 100) hx hb dX8_tellCode_85 (by decide) (fun c52 => ?_) (fun c52 => ?_)
        · skip
          subst c52
          refine lv_iload_n hx hb dX8_tellCode_100 rfl (lv_at hl 0 rfl) ?_
          refine lv_sipush (v := 1023) hx hb dX8_tellCode_101 (by decide) ?_
          refine lv_iand hx hb dX8_tellCode_104 ?_
          refine lv_topi (fun v64 ev64 => ?_)
          have iv64 : iv v64 0 1023 := iv_eq ev64 (iv_and (x := r1) (iv_w (by decide : iv 1023 1023 1023) (by decide) (by decide) : iv 1023 0 1023))
          exact j58 v64 (iv_w iv64 (by decide) (by decide)) _ _ hK hP hD hS ls (lv_sub hl [1] rfl)
        · skip
          have j65 : iv v51 1 512 := iv_neLo iv51 (by decide : iv 0 0 0) c52 (by decide)
          refine lv_iload_n hx hb dX8_tellCode_88 rfl (lv_at hl 0 rfl) ?_
          refine lv_sipush (v := 1023) hx hb dX8_tellCode_89 (by decide) ?_
          refine lv_iand hx hb dX8_tellCode_92 ?_
          refine lv_topi (fun v66 ev66 => ?_)
          have iv66 : iv v66 0 1023 := iv_eq ev66 (iv_and (x := r1) (iv_w (by decide : iv 1023 1023 1023) (by decide) (by decide) : iv 1023 0 1023))
          refine lv_sipush (v := 1024) hx hb dX8_tellCode_93 (by decide) ?_
          refine lv_isub hx hb dX8_tellCode_96 ?_
          refine lv_topi (fun v67 ev67 => ?_)
          have iv67 : iv v67 (-1024) (-1) := iv_eq ev67 (iv_sub iv66 (by decide : iv 1024 1024 1024) (by decide) (by decide))
          have tv67 : v67.toInt = v66.toInt + (-1024) := iv_subT ev67 iv66 (by decide) (by decide) (by decide)
          refine lv_goto (tgt := 105) hx hb dX8_tellCode_97 (by decide) ?_
          exact j58 v67 (iv_w iv67 (by decide) (by decide)) _ _ hK hP hD hS ls (lv_sub hl [1] rfl)
      · skip
        have j68 : iv r1 (-2147483648) 8191 := iv_nleR (by decide : iv 8192 8192 8192) j43 c44 (by decide)
        refine lv_aload_n hx hb dX8_tellCode_56 rfl (lv_at hl 1 rfl) ?_
        refine lv_iload_n hx hb dX8_tellCode_57 rfl (lv_at hl 0 rfl) ?_
        obtain ⟨hPc, hDc, hFc⟩ := nv_sub3 (wc := [(h0, .inr (8, [.ref h1, .ref h2, .int 0, .int x2, .int v3])), (h1, .inl (y3, 64, .inl f3)), (h2, .inr (1, [.ref h3, .ref h4, .ref h5, .ref h6])), (h3, .inl (y0, 32768, .inl f0)), (h6, .inr (9, [.ref h7, .ref h8, .int x4, .int x5, .int x6, .int x7])), (h8, .inl (y1, 3, .inl f1)), (h7, .inl (y2, 3, .inl f2)), (h5, .inr (5, [.int x8, .int x9, .int x10, .int x11, .int x12, .int x13])), (h4, .inr (7, [.int x14, .int x15, .int x16, .int x17, .int x18]))]) hP hD hS hA [0, 1, 2, 3, 4, 5, 6, 7, 8] (by decide) rfl
        have hKc := hK.sub (tys' := [(y3, .int), (y0, .int), (y1, .int), (y2, .int)]) [0, 1, 2, 3] rfl
        refine va_calli (va_runV (As := [.int r1]) (rest := []) ⟨hx, hb, hml, hown, hG⟩ (cX8_tellOne_1 l dC dI adK adV h0 h1 h2 h3 h4 h5 h6 h7 h8 y3 y0 y1 y2 H.size r1 0 x2 v3 x4 x5 x6 x7 x8 x9 x10 x11 x12 x13 x14 x15 x16 x17 x18 f3 f0 f1 f2 (iv_w (by decide : iv 0 0 0) (by decide) (by decide)) ix7) (cwV 1 hG (gV wd_1229 wd_1231 wp_64 wd_16 wd_1232) rfl rfl rfl (by decide +kernel) ⟨Nat.le_of_ble_eq_true rfl, Nat.le_of_ble_eq_true rfl⟩) ⟨fun a U g mk q => by obtain ⟨q0, q1, qP, qK, qD, qE⟩ := q; exact ⟨q0, q1, qP, va_K.moved (u := U) (U := U.calling g mk a) (Vm.Alike.refl U.vm) qK, qD, qE.same rfl⟩, va_recv hKc hPc (ci := 8) (q0 := 0) rfl rfl, fun U hU hW => ⟨rfl, by rw [hU], by rw [hU]; exact hPc, va_K.moved hW.alike hKc, hDc.weaken (fun _ _ _ _ => trivial), by rw [hU]; exact ((hE.kept hS.2.1).narrow hFc).warm hW⟩⟩ rfl rfl hl.1 rfl (lv_room (Nat.le_of_ble_eq_true rfl)) dX8_tellCode_58 ⟨by decide, by decide⟩) hS (fun q _ h => hFc q h) hFc (fun r69 u70 t H1 locs ht hvm hw hB hz1 hk1 hS => ?_)
        obtain ⟨u70_0, u70_1, u70_2⟩ := u70
        have hw : iv r69 0 1 ∧ iv u70_0 0 64 ∧ True := hw
        obtain ⟨ir69, iu70_0, -⟩ := hw
        obtain ⟨hP1, hK1, hD1⟩ := hB
        rw [ht] at hP1
        have hK1 := va_K.moved hvm.symm hK1
        obtain ⟨hP, hD⟩ := nv_join (wf := [(h0, .inr (8, [.ref h1, .ref h2, .int u70_0, .int x2, .int u70_1])), (h1, .inl (y3, 64, .inl u70_2)), (h2, .inr (1, [.ref h3, .ref h4, .ref h5, .ref h6])), (h3, .inl (y0, 32768, .inl f0)), (h6, .inr (9, [.ref h7, .ref h8, .int x4, .int x5, .int x6, .int x7])), (h8, .inl (y1, 3, .inl f1)), (h7, .inl (y2, 3, .inl f2)), (h5, .inr (5, [.int x8, .int x9, .int x10, .int x11, .int x12, .int x13])), (h4, .inr (7, [.int x14, .int x15, .int x16, .int x17, .int x18]))]) hP hD [0, 1, 2, 3, 4, 5, 6, 7, 8] [] rfl rfl (by decide) (by decide) hk1 hFc hP1 hD1 rfl
        have hK := (hK.sub (tys' := []) [] rfl).app hK1
        generalize H1 = H at hP hS ⊢
        have hK : va_K (dC, dI) vwCl [(y3, .int), (y0, .int), (y1, .int), (y2, .int)] s := hK
        refine lv_istore_n (lv' := [(3, .int r69), (2, .int r1), (0, .ref h0), (1, .int x0)]) hx hb dX8_tellCode_61 rfl hl (by decide) rfl (fun ls hl => ?_)
        refine lv_goto (tgt := 125) hx hb dX8_tellCode_62 (by decide) ?_
        exact j39 r69 u70_0 u70_1 u70_2 ir69 iu70_0 _ _ (hK.sub (tys' := _) [1, 2, 3, 0] rfl) (hP.sub (ws' := _) [2, 3, 4, 5, 6, 7, 8, 0, 1] rfl) (hD.sub (ws' := _) [2, 3, 4, 5, 6, 7, 8, 0, 1] (by decide) rfl) hS ls (lv_sub hl [0, 2] rfl)
    · skip
      have j71 : iv r1 16384 2147483647 := iv_nltL (iv_any r1) (by decide : iv 16384 16384 16384) c42 (by decide)
      refine lv_aload_n hx hb dX8_tellCode_40 rfl (lv_at hl 1 rfl) ?_
      refine lv_iload_n hx hb dX8_tellCode_41 rfl (lv_at hl 0 rfl) ?_
      obtain ⟨hPc, hDc, hFc⟩ := nv_sub3 (wc := [(h0, .inr (8, [.ref h1, .ref h2, .int 0, .int x2, .int v3])), (h1, .inl (y3, 64, .inl f3)), (h2, .inr (1, [.ref h3, .ref h4, .ref h5, .ref h6])), (h3, .inl (y0, 32768, .inl f0)), (h6, .inr (9, [.ref h7, .ref h8, .int x4, .int x5, .int x6, .int x7])), (h8, .inl (y1, 3, .inl f1)), (h7, .inl (y2, 3, .inl f2)), (h5, .inr (5, [.int x8, .int x9, .int x10, .int x11, .int x12, .int x13])), (h4, .inr (7, [.int x14, .int x15, .int x16, .int x17, .int x18]))]) hP hD hS hA [0, 1, 2, 3, 4, 5, 6, 7, 8] (by decide) rfl
      have hKc := hK.sub (tys' := [(y3, .int), (y0, .int), (y1, .int), (y2, .int)]) [0, 1, 2, 3] rfl
      refine va_calli (va_runV (As := [.int r1]) (rest := []) ⟨hx, hb, hml, hown, hG⟩ (cX8_tellTwo_1 l dC dI adK adV h0 h1 h2 h3 h4 h5 h6 h7 h8 y3 y0 y1 y2 H.size r1 0 x2 v3 x4 x5 x6 x7 x8 x9 x10 x11 x12 x13 x14 x15 x16 x17 x18 f3 f0 f1 f2 (iv_w (by decide : iv 0 0 0) (by decide) (by decide)) ix7) (cwV 1 hG (gV wd_1185 wd_1187 wp_55 wd_16 wd_1188) rfl rfl rfl (by decide +kernel) ⟨Nat.le_of_ble_eq_true rfl, Nat.le_of_ble_eq_true rfl⟩) ⟨fun a U g mk q => by obtain ⟨q0, q1, qP, qK, qD, qE⟩ := q; exact ⟨q0, q1, qP, va_K.moved (u := U) (U := U.calling g mk a) (Vm.Alike.refl U.vm) qK, qD, qE.same rfl⟩, va_recv hKc hPc (ci := 8) (q0 := 0) rfl rfl, fun U hU hW => ⟨rfl, by rw [hU], by rw [hU]; exact hPc, va_K.moved hW.alike hKc, hDc.weaken (fun _ _ _ _ => trivial), by rw [hU]; exact ((hE.kept hS.2.1).narrow hFc).warm hW⟩⟩ rfl rfl hl.1 rfl (lv_room (Nat.le_of_ble_eq_true rfl)) dX8_tellCode_42 ⟨by decide, by decide⟩) hS (fun q _ h => hFc q h) hFc (fun r72 u73 t H1 locs ht hvm hw hB hz1 hk1 hS => ?_)
      obtain ⟨u73_0, u73_1, u73_2⟩ := u73
      have hw : iv r72 0 1 ∧ iv u73_0 0 64 ∧ True := hw
      obtain ⟨ir72, iu73_0, -⟩ := hw
      obtain ⟨hP1, hK1, hD1⟩ := hB
      rw [ht] at hP1
      have hK1 := va_K.moved hvm.symm hK1
      obtain ⟨hP, hD⟩ := nv_join (wf := [(h0, .inr (8, [.ref h1, .ref h2, .int u73_0, .int x2, .int u73_1])), (h1, .inl (y3, 64, .inl u73_2)), (h2, .inr (1, [.ref h3, .ref h4, .ref h5, .ref h6])), (h3, .inl (y0, 32768, .inl f0)), (h6, .inr (9, [.ref h7, .ref h8, .int x4, .int x5, .int x6, .int x7])), (h8, .inl (y1, 3, .inl f1)), (h7, .inl (y2, 3, .inl f2)), (h5, .inr (5, [.int x8, .int x9, .int x10, .int x11, .int x12, .int x13])), (h4, .inr (7, [.int x14, .int x15, .int x16, .int x17, .int x18]))]) hP hD [0, 1, 2, 3, 4, 5, 6, 7, 8] [] rfl rfl (by decide) (by decide) hk1 hFc hP1 hD1 rfl
      have hK := (hK.sub (tys' := []) [] rfl).app hK1
      generalize H1 = H at hP hS ⊢
      have hK : va_K (dC, dI) vwCl [(y3, .int), (y0, .int), (y1, .int), (y2, .int)] s := hK
      refine lv_istore_n (lv' := [(3, .int r72), (2, .int r1), (0, .ref h0), (1, .int x0)]) hx hb dX8_tellCode_45 rfl hl (by decide) rfl (fun ls hl => ?_)
      refine lv_goto (tgt := 125) hx hb dX8_tellCode_46 (by decide) ?_
      exact j39 r72 u73_0 u73_1 u73_2 ir72 iu73_0 _ _ (hK.sub (tys' := _) [1, 2, 3, 0] rfl) (hP.sub (ws' := _) [2, 3, 4, 5, 6, 7, 8, 0, 1] rfl) (hD.sub (ws' := _) [2, 3, 4, 5, 6, 7, 8, 0, 1] (by decide) rfl) hS ls (lv_sub hl [0, 2] rfl)
  · skip
    subst c6
    refine lv_iconst (v := 0) hx hb dX8_tellCode_28 (by decide) ?_
    refine lv_istore_n (lv' := [(3, .int 0), (2, .int r1), (0, .ref h0), (1, .int x0)]) hx hb dX8_tellCode_29 rfl hl (by decide) rfl (fun ls hl => ?_)
    refine lv_goto (tgt := 125) hx hb dX8_tellCode_30 (by decide) ?_
    exact j39 0 0 v3 f3 (iv_w (by decide : iv 0 0 0) (by decide) (by decide)) (iv_w (by decide : iv 0 0 0) (by decide) (by decide)) _ _ (hK.sub (tys' := _) [1, 2, 3, 0] rfl) (hP.sub (ws' := _) [2, 3, 4, 5, 6, 7, 8, 0, 1] rfl) (hD.sub (ws' := _) [2, 3, 4, 5, 6, 7, 8, 0, 1] (by decide) rfl) hS ls (lv_sub hl [0, 2] rfl)
set_option maxHeartbeats 100000000 in
set_option maxRecDepth 100000 in
theorem cX8_tellWord_1 (l : Launch) (dC : Nat → ClassId) (dI : Nat → Nat → Nat) (adK adV : Nat → Nat) (h0 h1 h2 h3 h4 h5 h6 h7 h8 : Nat) (y0 y1 y2 y3 : ClassId) (sz : Nat) (x0 x1 x2 x3 x4 x5 x6 x7 x8 x9 x10 x11 x12 x13 x14 x15 x16 x17 x18 : Int32) (f0 f1 f2 f3 : Nat → Int32) (ix1 : iv x1 0 64) (ix7 : iv x7 0 1) : Met l yX8_tellWord (Cond.code yX8_tellWord cX8_tellWord 2 none :: lw_G) ({ frames := 6, cells := 0, slots := 0, locals := 130 }) (va_Pc [.ref h0, .int x0] (fun U => U.heap.size = sz ∧ va_P (dC, dI) vwCl [(h0, .inr (8, [.ref h1, .ref h2, .int x1, .int x2, .int x3])), (h1, .inl (y0, 64, .inl f0)), (h2, .inr (1, [.ref h3, .ref h4, .ref h5, .ref h6])), (h3, .inl (y1, 32768, .inl f1)), (h6, .inr (9, [.ref h7, .ref h8, .int x4, .int x5, .int x6, .int x7])), (h8, .inl (y2, 3, .inl f2)), (h7, .inl (y3, 3, .inl f3)), (h5, .inr (5, [.int x8, .int x9, .int x10, .int x11, .int x12, .int x13])), (h4, .inr (7, [.int x14, .int x15, .int x16, .int x17, .int x18]))] U.heap ∧ va_K (dC, dI) vwCl [(y0, .int), (y1, .int), (y2, .int), (y3, .int)] U ∧ va_D (fun _ => True) [(h0, .inr (8, [.ref h1, .ref h2, .int x1, .int x2, .int x3])), (h1, .inl (y0, 64, .inl f0)), (h2, .inr (1, [.ref h3, .ref h4, .ref h5, .ref h6])), (h3, .inl (y1, 32768, .inl f1)), (h6, .inr (9, [.ref h7, .ref h8, .int x4, .int x5, .int x6, .int x7])), (h8, .inl (y2, 3, .inl f2)), (h7, .inl (y3, 3, .inl f3)), (h5, .inr (5, [.int x8, .int x9, .int x10, .int x11, .int x12, .int x13])), (h4, .inr (7, [.int x14, .int x15, .int x16, .int x17, .int x18]))] ∧ ev adK adV (va_A [(h0, .inr (8, [.ref h1, .ref h2, .int x1, .int x2, .int x3])), (h1, .inl (y0, 64, .inl f0)), (h2, .inr (1, [.ref h3, .ref h4, .ref h5, .ref h6])), (h3, .inl (y1, 32768, .inl f1)), (h6, .inr (9, [.ref h7, .ref h8, .int x4, .int x5, .int x6, .int x7])), (h8, .inl (y2, 3, .inl f2)), (h7, .inl (y3, 3, .inl f3)), (h5, .inr (5, [.int x8, .int x9, .int x10, .int x11, .int x12, .int x13])), (h4, .inr (7, [.int x14, .int x15, .int x16, .int x17, .int x18]))] sz) U U.heap)) (va_Qv (fun (u : Int32 × Int32 × (Nat → Int32)) => iv u.1 1 64 ∧ iv u.2.1 0 65535 ∧ True) (fun (u : Int32 × Int32 × (Nat → Int32)) (t : State) => va_P (dC, dI) vwCl [(h0, .inr (8, [.ref h1, .ref h2, .int u.1, .int u.2.1, .int x3])), (h1, .inl (y0, 64, .inl u.2.2)), (h2, .inr (1, [.ref h3, .ref h4, .ref h5, .ref h6])), (h3, .inl (y1, 32768, .inl f1)), (h6, .inr (9, [.ref h7, .ref h8, .int x4, .int x5, .int x6, .int x7])), (h8, .inl (y2, 3, .inl f2)), (h7, .inl (y3, 3, .inl f3)), (h5, .inr (5, [.int x8, .int x9, .int x10, .int x11, .int x12, .int x13])), (h4, .inr (7, [.int x14, .int x15, .int x16, .int x17, .int x18]))] t.heap ∧ va_K (dC, dI) vwCl [(y0, .int), (y1, .int), (y2, .int), (y3, .int)] t ∧ va_D (va_A [(h0, .inr (8, [.ref h1, .ref h2, .int x1, .int x2, .int x3])), (h1, .inl (y0, 64, .inl f0)), (h2, .inr (1, [.ref h3, .ref h4, .ref h5, .ref h6])), (h3, .inl (y1, 32768, .inl f1)), (h6, .inr (9, [.ref h7, .ref h8, .int x4, .int x5, .int x6, .int x7])), (h8, .inl (y2, 3, .inl f2)), (h7, .inl (y3, 3, .inl f3)), (h5, .inr (5, [.int x8, .int x9, .int x10, .int x11, .int x12, .int x13])), (h4, .inr (7, [.int x14, .int x15, .int x16, .int x17, .int x18]))] sz) [(h0, .inr (8, [.ref h1, .ref h2, .int u.1, .int u.2.1, .int x3])), (h1, .inl (y0, 64, .inl u.2.2)), (h2, .inr (1, [.ref h3, .ref h4, .ref h5, .ref h6])), (h3, .inl (y1, 32768, .inl f1)), (h6, .inr (9, [.ref h7, .ref h8, .int x4, .int x5, .int x6, .int x7])), (h8, .inl (y2, 3, .inl f2)), (h7, .inl (y3, 3, .inl f3)), (h5, .inr (5, [.int x8, .int x9, .int x10, .int x11, .int x12, .int x13])), (h4, .inr (7, [.int x14, .int x15, .int x16, .int x17, .int x18]))]) (va_A [(h0, .inr (8, [.ref h1, .ref h2, .int x1, .int x2, .int x3])), (h1, .inl (y0, 64, .inl f0)), (h2, .inr (1, [.ref h3, .ref h4, .ref h5, .ref h6])), (h3, .inl (y1, 32768, .inl f1)), (h6, .inr (9, [.ref h7, .ref h8, .int x4, .int x5, .int x6, .int x7])), (h8, .inl (y2, 3, .inl f2)), (h7, .inl (y3, 3, .inl f3)), (h5, .inr (5, [.int x8, .int x9, .int x10, .int x11, .int x12, .int x13])), (h4, .inr (7, [.int x14, .int x15, .int x16, .int x17, .int x18]))] sz)) 0 0 (va_A [(h0, .inr (8, [.ref h1, .ref h2, .int x1, .int x2, .int x3])), (h1, .inl (y0, 64, .inl f0)), (h2, .inr (1, [.ref h3, .ref h4, .ref h5, .ref h6])), (h3, .inl (y1, 32768, .inl f1)), (h6, .inr (9, [.ref h7, .ref h8, .int x4, .int x5, .int x6, .int x7])), (h8, .inl (y2, 3, .inl f2)), (h7, .inl (y3, 3, .inl f3)), (h5, .inr (5, [.int x8, .int x9, .int x10, .int x11, .int x12, .int x13])), (h4, .inr (7, [.int x14, .int x15, .int x16, .int x17, .int x18]))] sz) := by
  refine Met.ofW (cc := cX8_tellWord) (maxL := 2) (ret := none) (by decide) rfl ?_
  intro p e s m args below meth c s₁ B hml hv
  obtain ⟨rfl, hsz, hP, hK, hD0, hE⟩ := hv
  have hx := B.exec
  have hb := B.bytes
  have hr := B.returns
  have hts0 := atoms_spec (ws := Cond.code yX8_tellWord cX8_tellWord 2 none :: lw_G) B.pre
  have hG : ∀ w ∈ lw_G, w.before _ s = true := fun w h => hts0 w (List.mem_cons_of_mem _ h)
  have hown : s.vm.findClass RX8 = some m.cls := findClass_of_methodNamed B.named
  have hlocks := B.notSynchronized
  subst hsz
  have hD := hD0.self (sz := s.heap.size)
  generalize hAe : va_A [(h0, .inr (8, [.ref h1, .ref h2, .int x1, .int x2, .int x3])), (h1, .inl (y0, 64, .inl f0)), (h2, .inr (1, [.ref h3, .ref h4, .ref h5, .ref h6])), (h3, .inl (y1, 32768, .inl f1)), (h6, .inr (9, [.ref h7, .ref h8, .int x4, .int x5, .int x6, .int x7])), (h8, .inl (y2, 3, .inl f2)), (h7, .inl (y3, 3, .inl f3)), (h5, .inr (5, [.int x8, .int x9, .int x10, .int x11, .int x12, .int x13])), (h4, .inr (7, [.int x14, .int x15, .int x16, .int x17, .int x18]))] s.heap.size = A at hD hE ⊢
  have hA : ∀ q : Nat, s.heap.size ≤ q → A q := fun q h => by rw [← hAe]; exact Or.inr h
  have hS : va_S A s.heap s.heap [] := va_S.rf
  have hP : va_P (dC, dI) vwCl [(h0, .inr (8, [.ref h1, .ref h2, .int x1, .int x2, .int x3])), (h1, .inl (y0, 64, .inl f0)), (h2, .inr (1, [.ref h3, .ref h4, .ref h5, .ref h6])), (h3, .inl (y1, 32768, .inl f1)), (h6, .inr (9, [.ref h7, .ref h8, .int x4, .int x5, .int x6, .int x7])), (h8, .inl (y2, 3, .inl f2)), (h7, .inl (y3, 3, .inl f3)), (h5, .inr (5, [.int x8, .int x9, .int x10, .int x11, .int x12, .int x13])), (h4, .inr (7, [.int x14, .int x15, .int x16, .int x17, .int x18]))] s.heap := hP
  have hl := lv_entry ([.ref h0, .int x0]) (n := 2) (Nat.le_of_ble_eq_true rfl)
  rw [lg_entry_eq]
  generalize (lg_sl ([.ref h0, .int x0]) ++ List.replicate (2 - (lg_sl ([.ref h0, .int x0])).length) Slot.unset).toArray = ls at hl ⊢
  have hl : lv_has ls 2 [(0, .ref h0), (1, .int x0)] := hl
  generalize ([.ref h0, .int x0] : List Value).toArray = ar at hG ⊢
  refine wq (fun Q hQ => ?_)
  refine lv_aload_n hx hb dX8_tellWord_0 rfl (lv_at hl 0 rfl) ?_
  refine lv_iconst (v := 0) hx hb dX8_tellWord_1 (by decide) ?_
  refine va_put (D := (dC, dI)) (ci := 8) (v := .int 0) (ty := .int) (C := RX8) (T := TX8) (N := 5) hx hb hG inGX8 tyX8 tyX8_ok nmX8 hown hK hP hD hS 0 rfl rfl 2 (by decide) (hG _ wd_381) (fun _ h9 => h9) rfl (by decide +kernel) rfl rfl (Nat.le_of_ble_eq_true rfl) dX8_tellWord_2 (fun H locs hP hD hS => ?_)
  obtain ⟨hP, hD⟩ := nv_eq (ws' := [(h0, .inr (8, [.ref h1, .ref h2, .int 0, .int x2, .int x3])), (h1, .inl (y0, 64, .inl f0)), (h2, .inr (1, [.ref h3, .ref h4, .ref h5, .ref h6])), (h3, .inl (y1, 32768, .inl f1)), (h6, .inr (9, [.ref h7, .ref h8, .int x4, .int x5, .int x6, .int x7])), (h8, .inl (y2, 3, .inl f2)), (h7, .inl (y3, 3, .inl f3)), (h5, .inr (5, [.int x8, .int x9, .int x10, .int x11, .int x12, .int x13])), (h4, .inr (7, [.int x14, .int x15, .int x16, .int x17, .int x18]))]) hP hD rfl
  refine lv_aload_n hx hb dX8_tellWord_5 rfl (lv_at hl 0 rfl) ?_
  refine lv_bipush (v := 28) hx hb dX8_tellWord_6 (by decide) ?_
  refine lv_iconst (v := 0) hx hb dX8_tellWord_8 (by decide) ?_
  obtain ⟨hPc, hDc, hFc⟩ := nv_sub3 (wc := [(h0, .inr (8, [.ref h1, .ref h2, .int 0, .int x2, .int x3])), (h1, .inl (y0, 64, .inl f0))]) hP hD hS hA [0, 1] (by decide) rfl
  have hKc := hK.sub (tys' := [(y0, .int)]) [0] rfl
  refine va_callv (va_runV (As := [.int 28, .int 0]) (rest := []) ⟨hx, hb, hml, hown, hG⟩ (cX8_putName_1 l dC dI adK adV h0 h1 h2 y0 H.size 28 0 0 x2 x3 f0 (iv_w (by decide : iv 0 0 0) (by decide) (by decide))) (cwV 2 hG (gV wd_1189 wd_1191 wp_56 wd_16 wd_1192) rfl rfl rfl (by decide +kernel) ⟨Nat.le_of_ble_eq_true rfl, Nat.le_of_ble_eq_true rfl⟩) ⟨fun a U g mk q => by obtain ⟨q0, q1, qP, qK, qD, qE⟩ := q; exact ⟨q0, q1, qP, va_K.moved (u := U) (U := U.calling g mk a) (Vm.Alike.refl U.vm) qK, qD, qE.same rfl⟩, va_recv hKc hPc (ci := 8) (q0 := 0) rfl rfl, fun U hU hW => ⟨rfl, by rw [hU], by rw [hU]; exact hPc, va_K.moved hW.alike hKc, hDc.weaken (fun _ _ _ _ => trivial), by rw [hU]; exact ((hE.kept hS.2.1).narrow hFc).warm hW⟩⟩ rfl rfl hl.1 rfl (lv_room (Nat.le_of_ble_eq_true rfl)) dX8_tellWord_9 ⟨by decide, by decide⟩) hS (fun q _ h => hFc q h) hFc (fun u2 t H1 locs ht hvm hw hB hz1 hk1 hS => ?_)
  obtain ⟨u2_0, u2_1⟩ := u2
  have hw : iv u2_0 1 64 ∧ True := hw
  obtain ⟨iu2_0, -⟩ := hw
  obtain ⟨hP1, hK1, hD1⟩ := hB
  rw [ht] at hP1
  have hK1 := va_K.moved hvm.symm hK1
  obtain ⟨hP, hD⟩ := nv_join (wf := [(h2, .inr (1, [.ref h3, .ref h4, .ref h5, .ref h6])), (h3, .inl (y1, 32768, .inl f1)), (h6, .inr (9, [.ref h7, .ref h8, .int x4, .int x5, .int x6, .int x7])), (h8, .inl (y2, 3, .inl f2)), (h7, .inl (y3, 3, .inl f3)), (h5, .inr (5, [.int x8, .int x9, .int x10, .int x11, .int x12, .int x13])), (h4, .inr (7, [.int x14, .int x15, .int x16, .int x17, .int x18])), (h0, .inr (8, [.ref h1, .ref h2, .int u2_0, .int x2, .int x3])), (h1, .inl (y0, 64, .inl u2_1))]) hP hD [0, 1] [2, 3, 4, 5, 6, 7, 8] rfl rfl (by decide) (by decide) hk1 hFc hP1 hD1 rfl
  have hK := (hK.sub (tys' := [(y1, .int), (y2, .int), (y3, .int)]) [1, 2, 3] rfl).app hK1
  generalize H1 = H at hP hS ⊢
  have hK : va_K (dC, dI) vwCl [(y1, .int), (y2, .int), (y3, .int), (y0, .int)] s := hK
  refine lv_aload_n hx hb dX8_tellWord_12 rfl (lv_at hl 0 rfl) ?_
  refine lv_aload_n hx hb dX8_tellWord_13 rfl (lv_at hl 0 rfl) ?_
  refine va_get (D := (dC, dI)) (ci := 8) (v := .ref h2) (C := RX8) (T := TX8) (N := 5) hx hb hG inGX8 hown hK hP 7 rfl rfl 1 (by decide) (hG _ wd_380) (fun _ h9 => h9) rfl dX8_tellWord_14 ?_
  refine lv_iload_n hx hb dX8_tellWord_17 rfl (lv_at hl 1 rfl) ?_
  obtain ⟨hPc, hDc, hFc⟩ := nv_sub3 (wc := [(h2, .inr (1, [.ref h3, .ref h4, .ref h5, .ref h6])), (h3, .inl (y1, 32768, .inl f1)), (h6, .inr (9, [.ref h7, .ref h8, .int x4, .int x5, .int x6, .int x7])), (h8, .inl (y2, 3, .inl f2)), (h7, .inl (y3, 3, .inl f3)), (h5, .inr (5, [.int x8, .int x9, .int x10, .int x11, .int x12, .int x13])), (h4, .inr (7, [.int x14, .int x15, .int x16, .int x17, .int x18]))]) hP hD hS hA [0, 1, 2, 3, 4, 5, 6] (by decide) rfl
  have hKc := hK.sub (tys' := [(y1, .int), (y2, .int), (y3, .int)]) [0, 1, 2] rfl
  refine va_calli (va_runV (As := [.int x0]) (rest := [.ref h0]) ⟨hx, hb, hml, hown, hG⟩ (cX1_lookWord_1 l dC dI h2 h3 h4 h5 h6 h7 h8 y1 y2 y3 H.size x0 x4 x5 x6 x7 x8 x9 x10 x11 x12 x13 x14 x15 x16 x17 x18 f1 f2 f3 ix7) (cwV 1 hG (gV wd_1183 wd_822 wd_823 wd_2 wd_824) rfl rfl rfl (by decide +kernel) ⟨Nat.le_of_ble_eq_true rfl, Nat.le_of_ble_eq_true rfl⟩) ⟨fun a U g mk q => by obtain ⟨q0, q1, qP, qK, qD⟩ := q; exact ⟨q0, q1, qP, va_K.moved (u := U) (U := U.calling g mk a) (Vm.Alike.refl U.vm) qK, qD⟩, va_recv hKc hPc (ci := 1) (q0 := 0) rfl rfl, fun U hU hW => ⟨rfl, by rw [hU], by rw [hU]; exact hPc, va_K.moved hW.alike hKc, hDc.weaken (fun _ _ _ _ => trivial)⟩⟩ rfl rfl hl.1 rfl (lv_room (Nat.le_of_ble_eq_true rfl)) dX8_tellWord_18 ⟨by decide, by decide⟩) hS (fun q _ h => hFc q h) hFc (fun r3 u4 t H1 locs ht hvm hw hB hz1 hk1 hS => ?_)
  obtain ⟨hP1, hK1, hD1⟩ := hB
  rw [ht] at hP1
  have hK1 := va_K.moved hvm.symm hK1
  obtain ⟨hP, hD⟩ := nv_join (wf := [(h0, .inr (8, [.ref h1, .ref h2, .int u2_0, .int x2, .int x3])), (h1, .inl (y0, 64, .inl u2_1)), (h2, .inr (1, [.ref h3, .ref h4, .ref h5, .ref h6])), (h3, .inl (y1, 32768, .inl f1)), (h6, .inr (9, [.ref h7, .ref h8, .int x4, .int x5, .int x6, .int x7])), (h8, .inl (y2, 3, .inl f2)), (h7, .inl (y3, 3, .inl f3)), (h5, .inr (5, [.int x8, .int x9, .int x10, .int x11, .int x12, .int x13])), (h4, .inr (7, [.int x14, .int x15, .int x16, .int x17, .int x18]))]) hP hD [0, 1, 2, 3, 4, 5, 6] [7, 8] rfl rfl (by decide) (by decide) hk1 hFc hP1 hD1 rfl
  have hK := (hK.sub (tys' := [(y0, .int)]) [3] rfl).app hK1
  generalize H1 = H at hP hS ⊢
  have hK : va_K (dC, dI) vwCl [(y0, .int), (y1, .int), (y2, .int), (y3, .int)] s := hK
  obtain ⟨hPc, hDc, hFc⟩ := nv_sub3 (wc := [(h0, .inr (8, [.ref h1, .ref h2, .int u2_0, .int x2, .int x3])), (h1, .inl (y0, 64, .inl u2_1))]) hP hD hS hA [0, 1] (by decide) rfl
  have hKc := hK.sub (tys' := [(y0, .int)]) [0] rfl
  refine va_callv (va_runV (As := [.int r3]) (rest := []) ⟨hx, hb, hml, hown, hG⟩ (cX8_putNumber_1 l dC dI h0 h1 h2 y0 H.size r3 u2_0 x2 x3 u2_1 (iv_w iu2_0 (by decide) (by decide))) (cwV 1 hG (gV wd_1207 wd_1209 wp_60 wd_16 wd_1210) rfl rfl rfl (by decide +kernel) ⟨Nat.le_of_ble_eq_true rfl, Nat.le_of_ble_eq_true rfl⟩) ⟨fun a U g mk q => by obtain ⟨q0, q1, qP, qK, qD⟩ := q; exact ⟨q0, q1, qP, va_K.moved (u := U) (U := U.calling g mk a) (Vm.Alike.refl U.vm) qK, qD⟩, va_recv hKc hPc (ci := 8) (q0 := 0) rfl rfl, fun U hU hW => ⟨rfl, by rw [hU], by rw [hU]; exact hPc, va_K.moved hW.alike hKc, hDc.weaken (fun _ _ _ _ => trivial)⟩⟩ rfl rfl hl.1 rfl (lv_room (Nat.le_of_ble_eq_true rfl)) dX8_tellWord_21 ⟨by decide, by decide⟩) hS (fun q _ h => hFc q h) hFc (fun u6 t H1 locs ht hvm hw hB hz1 hk1 hS => ?_)
  obtain ⟨u6_0, u6_1⟩ := u6
  have hw : iv u6_0 1 64 ∧ True := hw
  obtain ⟨iu6_0, -⟩ := hw
  obtain ⟨hP1, hK1, hD1⟩ := hB
  rw [ht] at hP1
  have hK1 := va_K.moved hvm.symm hK1
  obtain ⟨hP, hD⟩ := nv_join (wf := [(h2, .inr (1, [.ref h3, .ref h4, .ref h5, .ref h6])), (h3, .inl (y1, 32768, .inl f1)), (h6, .inr (9, [.ref h7, .ref h8, .int x4, .int x5, .int x6, .int x7])), (h8, .inl (y2, 3, .inl f2)), (h7, .inl (y3, 3, .inl f3)), (h5, .inr (5, [.int x8, .int x9, .int x10, .int x11, .int x12, .int x13])), (h4, .inr (7, [.int x14, .int x15, .int x16, .int x17, .int x18])), (h0, .inr (8, [.ref h1, .ref h2, .int u6_0, .int x2, .int x3])), (h1, .inl (y0, 64, .inl u6_1))]) hP hD [0, 1] [2, 3, 4, 5, 6, 7, 8] rfl rfl (by decide) (by decide) hk1 hFc hP1 hD1 rfl
  have hK := (hK.sub (tys' := [(y1, .int), (y2, .int), (y3, .int)]) [1, 2, 3] rfl).app hK1
  generalize H1 = H at hP hS ⊢
  have hK : va_K (dC, dI) vwCl [(y1, .int), (y2, .int), (y3, .int), (y0, .int)] s := hK
  refine lv_aload_n hx hb dX8_tellWord_24 rfl (lv_at hl 0 rfl) ?_
  refine lv_iload_n hx hb dX8_tellWord_25 rfl (lv_at hl 1 rfl) ?_
  refine lv_iconst (v := 2) hx hb dX8_tellWord_26 (by decide) ?_
  refine lv_iadd hx hb dX8_tellWord_27 ?_
  refine lv_topi (fun v7 ev7 => ?_)
  refine lv_ldc hx hb hown (hG _ wd_1206) dX8_tellWord_28 ?_
  refine lv_iand hx hb dX8_tellWord_30 ?_
  refine lv_topi (fun v8 ev8 => ?_)
  have iv8 : iv v8 0 65535 := iv_eq ev8 (iv_and (x := v7) (iv_w (by decide : iv 65535 65535 65535) (by decide) (by decide) : iv 65535 0 65535))
  refine va_put (D := (dC, dI)) (ci := 8) (v := .int v8) (ty := .int) (C := RX8) (T := TX8) (N := 5) hx hb hG inGX8 tyX8 tyX8_ok nmX8 hown hK hP hD hS 7 rfl rfl 3 (by decide) (hG _ wd_382) (fun _ h9 => h9) rfl (by decide +kernel) rfl rfl (Nat.le_of_ble_eq_true rfl) dX8_tellWord_31 (fun H locs hP hD hS => ?_)
  obtain ⟨hP, hD⟩ := nv_eq (ws' := [(h2, .inr (1, [.ref h3, .ref h4, .ref h5, .ref h6])), (h3, .inl (y1, 32768, .inl f1)), (h6, .inr (9, [.ref h7, .ref h8, .int x4, .int x5, .int x6, .int x7])), (h8, .inl (y2, 3, .inl f2)), (h7, .inl (y3, 3, .inl f3)), (h5, .inr (5, [.int x8, .int x9, .int x10, .int x11, .int x12, .int x13])), (h4, .inr (7, [.int x14, .int x15, .int x16, .int x17, .int x18])), (h0, .inr (8, [.ref h1, .ref h2, .int u6_0, .int v8, .int x3])), (h1, .inl (y0, 64, .inl u6_1))]) hP hD rfl
  rw [hQ]
  obtain ⟨hP9, hD9⟩ := nv_sub2 (wc := [(h0, .inr (8, [.ref h1, .ref h2, .int u6_0, .int v8, .int x3])), (h1, .inl (y0, 64, .inl u6_1)), (h2, .inr (1, [.ref h3, .ref h4, .ref h5, .ref h6])), (h3, .inl (y1, 32768, .inl f1)), (h6, .inr (9, [.ref h7, .ref h8, .int x4, .int x5, .int x6, .int x7])), (h8, .inl (y2, 3, .inl f2)), (h7, .inl (y3, 3, .inl f3)), (h5, .inr (5, [.int x8, .int x9, .int x10, .int x11, .int x12, .int x13])), (h4, .inr (7, [.int x14, .int x15, .int x16, .int x17, .int x18]))]) hP hD [7, 8, 0, 1, 2, 3, 4, 5, 6] (by decide) rfl
  have hK9 := hK.sub (tys' := [(y0, .int), (y1, .int), (y2, .int), (y3, .int)]) [3, 0, 1, 2] rfl
  exact W.vret hx hb hr (fun t ht hW => ⟨⟨(u6_0, v8, u6_1), rfl, ⟨iv_w iu6_0 (by decide) (by decide), iv_w iv8 (by decide) (by decide), trivial⟩, by rw [ht]; exact hP9, va_K.moved hW.alike hK9, hD9⟩, hS.F ht⟩) hS.2.2 dX8_tellWord_34
set_option maxHeartbeats 100000000 in
set_option maxRecDepth 100000 in
theorem cX11_list_3 (l : Launch) (dC : Nat → ClassId) (dI : Nat → Nat → Nat) (adK adV : Nat → Nat) (h0 h1 h2 h3 h4 h5 h6 h7 h8 h9 h10 h11 h12 : Nat) (y0 y1 y2 y3 : ClassId) (sz : Nat) (x0 x1 x2 x3 x4 x5 x6 x7 x8 x9 x10 x11 x12 x13 x14 x15 x16 x17 x18 x19 x20 : Int32) (f0 f1 f2 f3 : Nat → Int32) (ix0 : iv x0 0 65535) (ix1 : iv x1 0 2600) (ix3 : iv x3 0 64) (ix9 : iv x9 0 1) : Met l yX11_list (Cond.code yX11_list cX11_list 3 (some .int) :: lw_G) ({ frames := 8, cells := 0, slots := 0, locals := 176 }) (va_Pc [.ref h0, .int x0] (fun U => U.heap.size = sz ∧ va_P (dC, dI) vwCl [(h0, .inr (11, [.ref h1, .ref h2, .ref h3, .ref h4, .ref h5, .int x1, .int x2])), (h5, .inr (8, [.ref h6, .ref h2, .int x3, .int x4, .int x5])), (h2, .inr (1, [.ref h7, .ref h8, .ref h9, .ref h10])), (h7, .inl (y0, 32768, .inl f0)), (h10, .inr (9, [.ref h11, .ref h12, .int x6, .int x7, .int x8, .int x9])), (h12, .inl (y1, 3, .inl f1)), (h11, .inl (y2, 3, .inl f2)), (h9, .inr (5, [.int x10, .int x11, .int x12, .int x13, .int x14, .int x15])), (h8, .inr (7, [.int x16, .int x17, .int x18, .int x19, .int x20])), (h6, .inl (y3, 64, .inl f3))] U.heap ∧ va_K (dC, dI) vwCl [(y0, .int), (y1, .int), (y2, .int), (y3, .int)] U ∧ va_D (fun _ => True) [(h0, .inr (11, [.ref h1, .ref h2, .ref h3, .ref h4, .ref h5, .int x1, .int x2])), (h5, .inr (8, [.ref h6, .ref h2, .int x3, .int x4, .int x5])), (h2, .inr (1, [.ref h7, .ref h8, .ref h9, .ref h10])), (h7, .inl (y0, 32768, .inl f0)), (h10, .inr (9, [.ref h11, .ref h12, .int x6, .int x7, .int x8, .int x9])), (h12, .inl (y1, 3, .inl f1)), (h11, .inl (y2, 3, .inl f2)), (h9, .inr (5, [.int x10, .int x11, .int x12, .int x13, .int x14, .int x15])), (h8, .inr (7, [.int x16, .int x17, .int x18, .int x19, .int x20])), (h6, .inl (y3, 64, .inl f3))] ∧ ev adK adV (va_A [(h0, .inr (11, [.ref h1, .ref h2, .ref h3, .ref h4, .ref h5, .int x1, .int x2])), (h5, .inr (8, [.ref h6, .ref h2, .int x3, .int x4, .int x5])), (h2, .inr (1, [.ref h7, .ref h8, .ref h9, .ref h10])), (h7, .inl (y0, 32768, .inl f0)), (h10, .inr (9, [.ref h11, .ref h12, .int x6, .int x7, .int x8, .int x9])), (h12, .inl (y1, 3, .inl f1)), (h11, .inl (y2, 3, .inl f2)), (h9, .inr (5, [.int x10, .int x11, .int x12, .int x13, .int x14, .int x15])), (h8, .inr (7, [.int x16, .int x17, .int x18, .int x19, .int x20])), (h6, .inl (y3, 64, .inl f3))] sz) U U.heap)) (va_Qi (fun (r : Int32) (u : Int32 × Int32 × Int32 × (Nat → Int32)) => iv r 0 64 ∧ iv u.1 0 64 ∧ iv u.2.1 0 65535 ∧ True) (fun (u : Int32 × Int32 × Int32 × (Nat → Int32)) (t : State) => va_P (dC, dI) vwCl [(h0, .inr (11, [.ref h1, .ref h2, .ref h3, .ref h4, .ref h5, .int x1, .int x2])), (h5, .inr (8, [.ref h6, .ref h2, .int u.1, .int u.2.1, .int u.2.2.1])), (h2, .inr (1, [.ref h7, .ref h8, .ref h9, .ref h10])), (h7, .inl (y0, 32768, .inl f0)), (h10, .inr (9, [.ref h11, .ref h12, .int x6, .int x7, .int x8, .int x9])), (h12, .inl (y1, 3, .inl f1)), (h11, .inl (y2, 3, .inl f2)), (h9, .inr (5, [.int x10, .int x11, .int x12, .int x13, .int x14, .int x15])), (h8, .inr (7, [.int x16, .int x17, .int x18, .int x19, .int x20])), (h6, .inl (y3, 64, .inl u.2.2.2))] t.heap ∧ va_K (dC, dI) vwCl [(y0, .int), (y1, .int), (y2, .int), (y3, .int)] t ∧ va_D (va_A [(h0, .inr (11, [.ref h1, .ref h2, .ref h3, .ref h4, .ref h5, .int x1, .int x2])), (h5, .inr (8, [.ref h6, .ref h2, .int x3, .int x4, .int x5])), (h2, .inr (1, [.ref h7, .ref h8, .ref h9, .ref h10])), (h7, .inl (y0, 32768, .inl f0)), (h10, .inr (9, [.ref h11, .ref h12, .int x6, .int x7, .int x8, .int x9])), (h12, .inl (y1, 3, .inl f1)), (h11, .inl (y2, 3, .inl f2)), (h9, .inr (5, [.int x10, .int x11, .int x12, .int x13, .int x14, .int x15])), (h8, .inr (7, [.int x16, .int x17, .int x18, .int x19, .int x20])), (h6, .inl (y3, 64, .inl f3))] sz) [(h0, .inr (11, [.ref h1, .ref h2, .ref h3, .ref h4, .ref h5, .int x1, .int x2])), (h5, .inr (8, [.ref h6, .ref h2, .int u.1, .int u.2.1, .int u.2.2.1])), (h2, .inr (1, [.ref h7, .ref h8, .ref h9, .ref h10])), (h7, .inl (y0, 32768, .inl f0)), (h10, .inr (9, [.ref h11, .ref h12, .int x6, .int x7, .int x8, .int x9])), (h12, .inl (y1, 3, .inl f1)), (h11, .inl (y2, 3, .inl f2)), (h9, .inr (5, [.int x10, .int x11, .int x12, .int x13, .int x14, .int x15])), (h8, .inr (7, [.int x16, .int x17, .int x18, .int x19, .int x20])), (h6, .inl (y3, 64, .inl u.2.2.2))]) (va_A [(h0, .inr (11, [.ref h1, .ref h2, .ref h3, .ref h4, .ref h5, .int x1, .int x2])), (h5, .inr (8, [.ref h6, .ref h2, .int x3, .int x4, .int x5])), (h2, .inr (1, [.ref h7, .ref h8, .ref h9, .ref h10])), (h7, .inl (y0, 32768, .inl f0)), (h10, .inr (9, [.ref h11, .ref h12, .int x6, .int x7, .int x8, .int x9])), (h12, .inl (y1, 3, .inl f1)), (h11, .inl (y2, 3, .inl f2)), (h9, .inr (5, [.int x10, .int x11, .int x12, .int x13, .int x14, .int x15])), (h8, .inr (7, [.int x16, .int x17, .int x18, .int x19, .int x20])), (h6, .inl (y3, 64, .inl f3))] sz)) 0 0 (va_A [(h0, .inr (11, [.ref h1, .ref h2, .ref h3, .ref h4, .ref h5, .int x1, .int x2])), (h5, .inr (8, [.ref h6, .ref h2, .int x3, .int x4, .int x5])), (h2, .inr (1, [.ref h7, .ref h8, .ref h9, .ref h10])), (h7, .inl (y0, 32768, .inl f0)), (h10, .inr (9, [.ref h11, .ref h12, .int x6, .int x7, .int x8, .int x9])), (h12, .inl (y1, 3, .inl f1)), (h11, .inl (y2, 3, .inl f2)), (h9, .inr (5, [.int x10, .int x11, .int x12, .int x13, .int x14, .int x15])), (h8, .inr (7, [.int x16, .int x17, .int x18, .int x19, .int x20])), (h6, .inl (y3, 64, .inl f3))] sz) := by
  refine Met.ofW (cc := cX11_list) (maxL := 3) (ret := (some .int)) (by decide) rfl ?_
  intro p e s m args below meth c s₁ B hml hv
  obtain ⟨rfl, hsz, hP, hK, hD0, hE⟩ := hv
  have hx := B.exec
  have hb := B.bytes
  have hr := B.returns
  have hts0 := atoms_spec (ws := Cond.code yX11_list cX11_list 3 (some .int) :: lw_G) B.pre
  have hG : ∀ w ∈ lw_G, w.before _ s = true := fun w h => hts0 w (List.mem_cons_of_mem _ h)
  have hown : s.vm.findClass RX11 = some m.cls := findClass_of_methodNamed B.named
  have hlocks := B.notSynchronized
  subst hsz
  have hD := hD0.self (sz := s.heap.size)
  generalize hAe : va_A [(h0, .inr (11, [.ref h1, .ref h2, .ref h3, .ref h4, .ref h5, .int x1, .int x2])), (h5, .inr (8, [.ref h6, .ref h2, .int x3, .int x4, .int x5])), (h2, .inr (1, [.ref h7, .ref h8, .ref h9, .ref h10])), (h7, .inl (y0, 32768, .inl f0)), (h10, .inr (9, [.ref h11, .ref h12, .int x6, .int x7, .int x8, .int x9])), (h12, .inl (y1, 3, .inl f1)), (h11, .inl (y2, 3, .inl f2)), (h9, .inr (5, [.int x10, .int x11, .int x12, .int x13, .int x14, .int x15])), (h8, .inr (7, [.int x16, .int x17, .int x18, .int x19, .int x20])), (h6, .inl (y3, 64, .inl f3))] s.heap.size = A at hD hE ⊢
  have hA : ∀ q : Nat, s.heap.size ≤ q → A q := fun q h => by rw [← hAe]; exact Or.inr h
  have hS : va_S A s.heap s.heap [] := va_S.rf
  have hP : va_P (dC, dI) vwCl [(h0, .inr (11, [.ref h1, .ref h2, .ref h3, .ref h4, .ref h5, .int x1, .int x2])), (h5, .inr (8, [.ref h6, .ref h2, .int x3, .int x4, .int x5])), (h2, .inr (1, [.ref h7, .ref h8, .ref h9, .ref h10])), (h7, .inl (y0, 32768, .inl f0)), (h10, .inr (9, [.ref h11, .ref h12, .int x6, .int x7, .int x8, .int x9])), (h12, .inl (y1, 3, .inl f1)), (h11, .inl (y2, 3, .inl f2)), (h9, .inr (5, [.int x10, .int x11, .int x12, .int x13, .int x14, .int x15])), (h8, .inr (7, [.int x16, .int x17, .int x18, .int x19, .int x20])), (h6, .inl (y3, 64, .inl f3))] s.heap := hP
  have hl := lv_entry ([.ref h0, .int x0]) (n := 3) (Nat.le_of_ble_eq_true rfl)
  rw [lg_entry_eq]
  generalize (lg_sl ([.ref h0, .int x0]) ++ List.replicate (3 - (lg_sl ([.ref h0, .int x0])).length) Slot.unset).toArray = ls at hl ⊢
  have hl : lv_has ls 3 [(0, .ref h0), (1, .int x0)] := hl
  generalize ([.ref h0, .int x0] : List Value).toArray = ar at hG ⊢
  refine wq (fun Q hQ => ?_)
  refine lv_iload_n hx hb dX11_list_0 rfl (lv_at hl 1 rfl) ?_
  refine lv_if_lt (tgt := 10) hx hb dX11_list_1 (by decide) (fun c => absurd c (iv_nlt ix0 (by decide : iv 0 0 0) (by decide))) (fun _ => ?_)
  refine lv_iload_n hx hb dX11_list_4 rfl (lv_at hl 1 rfl) ?_
  refine lv_ldc hx hb hown (hG _ wd_1157) dX11_list_5 ?_
  refine lv_icmp_lt (tgt := 20) hx hb dX11_list_7 (by decide) (fun _ => ?_) (fun c => absurd (iv_lt ix0 (by decide : iv 65536 65536 65536) (by decide)) c)
  refine lv_iload_n hx hb dX11_list_20 rfl (lv_at hl 1 rfl) ?_
  refine lv_ldc hx hb hown (hG _ wd_1178) dX11_list_21 ?_
  refine lv_iand hx hb dX11_list_23 ?_
  refine lv_topi (fun v1 ev1 => ?_)
  have iv1 : iv v1 0 65534 := iv_eq ev1 (iv_and (x := x0) (iv_w (by decide : iv 65534 65534 65534) (by decide) (by decide) : iv 65534 0 65534))
  refine lv_istore_n (lv' := [(2, .int v1), (0, .ref h0), (1, .int x0)]) hx hb dX11_list_24 rfl hl (by decide) rfl (fun ls hl => ?_)
  refine lv_aload_n hx hb dX11_list_25 rfl (lv_at hl 1 rfl) ?_
  refine va_get (D := (dC, dI)) (ci := 11) (v := .ref h5) (C := RX11) (T := TX11) (N := 7) hx hb hG inGX11 hown hK hP 0 rfl rfl 4 (by decide) (hG _ wd_399) (fun _ h9 => h9) rfl dX11_list_26 ?_
  refine lv_iload_n hx hb dX11_list_29 rfl (lv_at hl 0 rfl) ?_
  obtain ⟨hPc, hDc, hFc⟩ := nv_sub3 (wc := [(h5, .inr (8, [.ref h6, .ref h2, .int x3, .int x4, .int x5])), (h2, .inr (1, [.ref h7, .ref h8, .ref h9, .ref h10])), (h7, .inl (y0, 32768, .inl f0)), (h10, .inr (9, [.ref h11, .ref h12, .int x6, .int x7, .int x8, .int x9])), (h12, .inl (y1, 3, .inl f1)), (h11, .inl (y2, 3, .inl f2)), (h9, .inr (5, [.int x10, .int x11, .int x12, .int x13, .int x14, .int x15])), (h8, .inr (7, [.int x16, .int x17, .int x18, .int x19, .int x20])), (h6, .inl (y3, 64, .inl f3))]) hP hD hS hA [1, 2, 3, 4, 5, 6, 7, 8, 9] (by decide) rfl
  have hKc := hK.sub (tys' := [(y0, .int), (y1, .int), (y2, .int), (y3, .int)]) [0, 1, 2, 3] rfl
  refine va_calli (va_runV (As := [.int v1]) (rest := []) ⟨hx, hb, hml, hown, hG⟩ (cX8_tellCode_1 l dC dI adK adV h5 h6 h2 h7 h8 h9 h10 h11 h12 y0 y1 y2 y3 s.heap.size v1 x3 x4 x5 x6 x7 x8 x9 x10 x11 x12 x13 x14 x15 x16 x17 x18 x19 x20 f0 f1 f2 f3 ix3 ix9) (cwV 1 hG (gV wd_1179 wd_1180 wd_1181 wd_16 wd_1182) rfl rfl rfl (by decide +kernel) ⟨Nat.le_of_ble_eq_true rfl, Nat.le_of_ble_eq_true rfl⟩) ⟨fun a U g mk q => by obtain ⟨q0, q1, qP, qK, qD, qE⟩ := q; exact ⟨q0, q1, qP, va_K.moved (u := U) (U := U.calling g mk a) (Vm.Alike.refl U.vm) qK, qD, qE.same rfl⟩, va_recv hKc hPc (ci := 8) (q0 := 0) rfl rfl, fun U hU hW => ⟨rfl, by rw [hU], by rw [hU]; exact hPc, va_K.moved hW.alike hKc, hDc.weaken (fun _ _ _ _ => trivial), by rw [hU]; exact ((hE.kept hS.2.1).narrow hFc).warm hW⟩⟩ rfl rfl hl.1 rfl (lv_room (Nat.le_of_ble_eq_true rfl)) dX11_list_30 ⟨by decide, by decide⟩) hS (fun q _ h => hFc q h) hFc (fun r2 u3 t H1 locs ht hvm hw hB hz1 hk1 hS => ?_)
  obtain ⟨u3_0, u3_1, u3_2, u3_3⟩ := u3
  have hw : iv r2 0 1 ∧ iv u3_0 0 64 ∧ iv u3_1 0 65535 ∧ True := hw
  obtain ⟨ir2, iu3_0, iu3_1, -⟩ := hw
  obtain ⟨hP1, hK1, hD1⟩ := hB
  rw [ht] at hP1
  have hK1 := va_K.moved hvm.symm hK1
  obtain ⟨hP, hD⟩ := nv_join (wf := [(h0, .inr (11, [.ref h1, .ref h2, .ref h3, .ref h4, .ref h5, .int x1, .int x2])), (h5, .inr (8, [.ref h6, .ref h2, .int u3_0, .int u3_1, .int u3_2])), (h2, .inr (1, [.ref h7, .ref h8, .ref h9, .ref h10])), (h7, .inl (y0, 32768, .inl f0)), (h10, .inr (9, [.ref h11, .ref h12, .int x6, .int x7, .int x8, .int x9])), (h12, .inl (y1, 3, .inl f1)), (h11, .inl (y2, 3, .inl f2)), (h9, .inr (5, [.int x10, .int x11, .int x12, .int x13, .int x14, .int x15])), (h8, .inr (7, [.int x16, .int x17, .int x18, .int x19, .int x20])), (h6, .inl (y3, 64, .inl u3_3))]) hP hD [1, 2, 3, 4, 5, 6, 7, 8, 9] [0] rfl rfl (by decide) (by decide) hk1 hFc hP1 hD1 rfl
  have hK := (hK.sub (tys' := []) [] rfl).app hK1
  generalize H1 = H at hP hS ⊢
  have hK : va_K (dC, dI) vwCl [(y0, .int), (y1, .int), (y2, .int), (y3, .int)] s := hK
  refine jcut (a := ∀ (b8 : Int32) (b9 : Int32) (b10 : Nat → Int32) (ib8 : iv b8 0 64) (ib9 : iv b9 0 65535) (H : Heap) (locs : List Loc) (hK : va_K (dC, dI) vwCl [(y0, .int), (y1, .int), (y2, .int), (y3, .int)] s) (hP : va_P (dC, dI) vwCl [(h0, .inr (11, [.ref h1, .ref h2, .ref h3, .ref h4, .ref h5, .int x1, .int x2])), (h5, .inr (8, [.ref h6, .ref h2, .int b8, .int b9, .int u3_2])), (h2, .inr (1, [.ref h7, .ref h8, .ref h9, .ref h10])), (h7, .inl (y0, 32768, .inl f0)), (h10, .inr (9, [.ref h11, .ref h12, .int x6, .int x7, .int x8, .int x9])), (h12, .inl (y1, 3, .inl f1)), (h11, .inl (y2, 3, .inl f2)), (h9, .inr (5, [.int x10, .int x11, .int x12, .int x13, .int x14, .int x15])), (h8, .inr (7, [.int x16, .int x17, .int x18, .int x19, .int x20])), (h6, .inl (y3, 64, .inl b10))] H) (hD : va_D A [(h0, .inr (11, [.ref h1, .ref h2, .ref h3, .ref h4, .ref h5, .int x1, .int x2])), (h5, .inr (8, [.ref h6, .ref h2, .int b8, .int b9, .int u3_2])), (h2, .inr (1, [.ref h7, .ref h8, .ref h9, .ref h10])), (h7, .inl (y0, 32768, .inl f0)), (h10, .inr (9, [.ref h11, .ref h12, .int x6, .int x7, .int x8, .int x9])), (h12, .inl (y1, 3, .inl f1)), (h11, .inl (y2, 3, .inl f2)), (h9, .inr (5, [.int x10, .int x11, .int x12, .int x13, .int x14, .int x15])), (h8, .inr (7, [.int x16, .int x17, .int x18, .int x19, .int x20])), (h6, .inl (y3, 64, .inl b10))]) (hS : va_S A s.heap H locs) (ls : Array Slot) (hl : lv_has ls 3 [(0, .ref h0)]), W p l e (headSpec (Cond.code yX11_list cX11_list 3 (some .int) :: lw_G) ({ frames := 8, cells := 0, slots := 0, locals := 176 })).room s m ar below meth c H locs 0 0 Q (F0 m 44 ls [])) ?_ (fun j11 => ?_)
  · skip
    intro b8 b9 b10 ib8 ib9 H locs hK hP hD hS ls hl
    refine lv_aload_n hx hb dX11_list_44 rfl (lv_at hl 0 rfl) ?_
    refine va_get (D := (dC, dI)) (ci := 11) (v := .ref h5) (C := RX11) (T := TX11) (N := 7) hx hb hG inGX11 hown hK hP 0 rfl rfl 4 (by decide) (hG _ wd_399) (fun _ h9 => h9) rfl dX11_list_45 ?_
    obtain ⟨hPc, hDc, hFc⟩ := nv_sub3 (wc := [(h5, .inr (8, [.ref h6, .ref h2, .int b8, .int b9, .int u3_2]))]) hP hD hS hA [1] (by decide) rfl
    have hKc := hK.sub (tys' := []) [] rfl
    refine va_calli (va_runV (As := []) (rest := []) ⟨hx, hb, hml, hown, hG⟩ (cX8_length_1 l dC dI h5 h6 h2 H.size b8 b9 u3_2 ib8) (cwV 0 hG (gV wd_870 wd_871 wd_872 wd_16 wd_873) rfl rfl rfl (by decide +kernel) ⟨Nat.le_of_ble_eq_true rfl, Nat.le_of_ble_eq_true rfl⟩) ⟨fun a U g mk q => by obtain ⟨q0, q1, qP, qK, qD⟩ := q; exact ⟨q0, q1, qP, va_K.moved (u := U) (U := U.calling g mk a) (Vm.Alike.refl U.vm) qK, qD⟩, va_recv hKc hPc (ci := 8) (q0 := 0) rfl rfl, fun U hU hW => ⟨rfl, by rw [hU], by rw [hU]; exact hPc, va_K.moved hW.alike hKc, hDc.weaken (fun _ _ _ _ => trivial)⟩⟩ rfl rfl hl.1 rfl (lv_room (Nat.le_of_ble_eq_true rfl)) dX11_list_48 ⟨by decide, by decide⟩) hS (fun q _ h => hFc q h) hFc (fun r12 u13 t H1 locs ht hvm hw hB hz1 hk1 hS => ?_)
    have hw : r12 = b8 ∧ True := hw
    obtain ⟨er12, -⟩ := hw
    obtain ⟨hP1, hK1, hD1⟩ := hB
    rw [ht] at hP1
    have hK1 := va_K.moved hvm.symm hK1
    obtain ⟨hP, hD⟩ := nv_join (wf := [(h0, .inr (11, [.ref h1, .ref h2, .ref h3, .ref h4, .ref h5, .int x1, .int x2])), (h2, .inr (1, [.ref h7, .ref h8, .ref h9, .ref h10])), (h7, .inl (y0, 32768, .inl f0)), (h10, .inr (9, [.ref h11, .ref h12, .int x6, .int x7, .int x8, .int x9])), (h12, .inl (y1, 3, .inl f1)), (h11, .inl (y2, 3, .inl f2)), (h9, .inr (5, [.int x10, .int x11, .int x12, .int x13, .int x14, .int x15])), (h8, .inr (7, [.int x16, .int x17, .int x18, .int x19, .int x20])), (h6, .inl (y3, 64, .inl b10)), (h5, .inr (8, [.ref h6, .ref h2, .int b8, .int b9, .int u3_2]))]) hP hD [1] [0, 2, 3, 4, 5, 6, 7, 8, 9] rfl rfl (by decide) (by decide) hk1 hFc hP1 hD1 rfl
    have hK := (hK.sub (tys' := [(y0, .int), (y1, .int), (y2, .int), (y3, .int)]) [0, 1, 2, 3] rfl).app hK1
    generalize H1 = H at hP hS ⊢
    have hK : va_K (dC, dI) vwCl [(y0, .int), (y1, .int), (y2, .int), (y3, .int)] s := hK
    refine lv_val (y := b8) er12 ?_
    rw [hQ]
    obtain ⟨hP9, hD9⟩ := nv_sub2 (wc := [(h0, .inr (11, [.ref h1, .ref h2, .ref h3, .ref h4, .ref h5, .int x1, .int x2])), (h5, .inr (8, [.ref h6, .ref h2, .int b8, .int b9, .int u3_2])), (h2, .inr (1, [.ref h7, .ref h8, .ref h9, .ref h10])), (h7, .inl (y0, 32768, .inl f0)), (h10, .inr (9, [.ref h11, .ref h12, .int x6, .int x7, .int x8, .int x9])), (h12, .inl (y1, 3, .inl f1)), (h11, .inl (y2, 3, .inl f2)), (h9, .inr (5, [.int x10, .int x11, .int x12, .int x13, .int x14, .int x15])), (h8, .inr (7, [.int x16, .int x17, .int x18, .int x19, .int x20])), (h6, .inl (y3, 64, .inl b10))]) hP hD [0, 9, 1, 2, 3, 4, 5, 6, 7, 8] (by decide) rfl
    have hK9 := hK.sub (tys' := [(y0, .int), (y1, .int), (y2, .int), (y3, .int)]) [0, 1, 2, 3] rfl
    exact W.iret (v := b8) hx hb hr (fun t ht hW => ⟨⟨b8, (b8, b9, u3_2, b10), rfl, ⟨iv_w ib8 (by decide) (by decide), iv_w ib8 (by decide) (by decide), iv_w ib9 (by decide) (by decide), trivial⟩, by rw [ht]; exact hP9, va_K.moved hW.alike hK9, hD9⟩, hS.F ht⟩) hS.2.2 dX11_list_51
  refine lv_if_ne (tgt := 44) hx hb dX11_list_33 (by decide) (fun c4 => ?_) (fun c4 => ?_)
  · skip
    have j14 : iv r2 1 1 := iv_neLo ir2 (by decide : iv 0 0 0) c4 (by decide)
    exact j11 u3_0 u3_1 u3_3 iu3_0 iu3_1 _ _ hK hP hD hS ls (lv_sub hl [1] rfl)
  · skip
    subst c4
    refine lv_aload_n hx hb dX11_list_36 rfl (lv_at hl 1 rfl) ?_
    refine va_get (D := (dC, dI)) (ci := 11) (v := .ref h5) (C := RX11) (T := TX11) (N := 7) hx hb hG inGX11 hown hK hP 0 rfl rfl 4 (by decide) (hG _ wd_399) (fun _ h9 => h9) rfl dX11_list_37 ?_
    refine lv_iload_n hx hb dX11_list_40 rfl (lv_at hl 0 rfl) ?_
    obtain ⟨hPc, hDc, hFc⟩ := nv_sub3 (wc := [(h5, .inr (8, [.ref h6, .ref h2, .int u3_0, .int u3_1, .int u3_2])), (h6, .inl (y3, 64, .inl u3_3)), (h2, .inr (1, [.ref h7, .ref h8, .ref h9, .ref h10])), (h7, .inl (y0, 32768, .inl f0)), (h10, .inr (9, [.ref h11, .ref h12, .int x6, .int x7, .int x8, .int x9])), (h12, .inl (y1, 3, .inl f1)), (h11, .inl (y2, 3, .inl f2)), (h9, .inr (5, [.int x10, .int x11, .int x12, .int x13, .int x14, .int x15])), (h8, .inr (7, [.int x16, .int x17, .int x18, .int x19, .int x20]))]) hP hD hS hA [1, 9, 2, 3, 4, 5, 6, 7, 8] (by decide) rfl
    have hKc := hK.sub (tys' := [(y3, .int), (y0, .int), (y1, .int), (y2, .int)]) [3, 0, 1, 2] rfl
    refine va_callv (va_runV (As := [.int v1]) (rest := []) ⟨hx, hb, hml, hown, hG⟩ (cX8_tellWord_1 l dC dI adK adV h5 h6 h2 h7 h8 h9 h10 h11 h12 y3 y0 y1 y2 H.size v1 u3_0 u3_1 u3_2 x6 x7 x8 x9 x10 x11 x12 x13 x14 x15 x16 x17 x18 x19 x20 u3_3 f0 f1 f2 iu3_0 ix9) (cwV 1 hG (gV wd_1233 wd_1234 wd_1235 wd_16 wd_1236) rfl rfl rfl (by decide +kernel) ⟨Nat.le_of_ble_eq_true rfl, Nat.le_of_ble_eq_true rfl⟩) ⟨fun a U g mk q => by obtain ⟨q0, q1, qP, qK, qD, qE⟩ := q; exact ⟨q0, q1, qP, va_K.moved (u := U) (U := U.calling g mk a) (Vm.Alike.refl U.vm) qK, qD, qE.same rfl⟩, va_recv hKc hPc (ci := 8) (q0 := 0) rfl rfl, fun U hU hW => ⟨rfl, by rw [hU], by rw [hU]; exact hPc, va_K.moved hW.alike hKc, hDc.weaken (fun _ _ _ _ => trivial), by rw [hU]; exact ((hE.kept hS.2.1).narrow hFc).warm hW⟩⟩ rfl rfl hl.1 rfl (lv_room (Nat.le_of_ble_eq_true rfl)) dX11_list_41 ⟨by decide, by decide⟩) hS (fun q _ h => hFc q h) hFc (fun u16 t H1 locs ht hvm hw hB hz1 hk1 hS => ?_)
    obtain ⟨u16_0, u16_1, u16_2⟩ := u16
    have hw : iv u16_0 1 64 ∧ iv u16_1 0 65535 ∧ True := hw
    obtain ⟨iu16_0, iu16_1, -⟩ := hw
    obtain ⟨hP1, hK1, hD1⟩ := hB
    rw [ht] at hP1
    have hK1 := va_K.moved hvm.symm hK1
    obtain ⟨hP, hD⟩ := nv_join (wf := [(h0, .inr (11, [.ref h1, .ref h2, .ref h3, .ref h4, .ref h5, .int x1, .int x2])), (h5, .inr (8, [.ref h6, .ref h2, .int u16_0, .int u16_1, .int u3_2])), (h6, .inl (y3, 64, .inl u16_2)), (h2, .inr (1, [.ref h7, .ref h8, .ref h9, .ref h10])), (h7, .inl (y0, 32768, .inl f0)), (h10, .inr (9, [.ref h11, .ref h12, .int x6, .int x7, .int x8, .int x9])), (h12, .inl (y1, 3, .inl f1)), (h11, .inl (y2, 3, .inl f2)), (h9, .inr (5, [.int x10, .int x11, .int x12, .int x13, .int x14, .int x15])), (h8, .inr (7, [.int x16, .int x17, .int x18, .int x19, .int x20]))]) hP hD [1, 9, 2, 3, 4, 5, 6, 7, 8] [0] rfl rfl (by decide) (by decide) hk1 hFc hP1 hD1 rfl
    have hK := (hK.sub (tys' := []) [] rfl).app hK1
    generalize H1 = H at hP hS ⊢
    have hK : va_K (dC, dI) vwCl [(y3, .int), (y0, .int), (y1, .int), (y2, .int)] s := hK
    exact j11 u16_0 u16_1 u16_2 (iv_w iu16_0 (by decide) (by decide)) iu16_1 _ _ (hK.sub (tys' := _) [1, 2, 3, 0] rfl) (hP.sub (ws' := _) [0, 1, 3, 4, 5, 6, 7, 8, 9, 2] rfl) (hD.sub (ws' := _) [0, 1, 3, 4, 5, 6, 7, 8, 9, 2] (by decide) rfl) hS ls (lv_sub hl [1] rfl)
set_option maxHeartbeats 100000000 in
set_option maxRecDepth 100000 in
theorem cL_list_3 (l : Launch) (dC : Nat → ClassId) (dI : Nat → Nat → Nat) (adK adV : Nat → Nat) (h0 h1 h2 h3 h4 h5 h6 h7 h8 h9 h10 h11 h12 h13 : Nat) (y0 y1 y2 y3 y4 : ClassId) (sz : Nat) (x0 x1 x2 x3 x4 x5 x6 x7 x8 x9 x10 x11 x12 x13 x14 x15 x16 x17 x18 x19 x20 : Int32) (f0 f1 f2 f3 : Nat → Int32) (g0 : Nat → Int64) (ix0 : iv x0 0 65535) (ix1 : iv x1 0 2600) (ix3 : iv x3 0 64) (ix9 : iv x9 0 1) : Met l yL_list (Cond.codeWith yL_list cL_list 4 (some .int) [(0, 9, 12, 19)] :: lw_G) ({ frames := 9, cells := 0, slots := 0, locals := 198 }) (va_Pc [.ref h0, .int x0, .ref h1] (fun U => U.heap.size = sz ∧ va_P (dC, dI) vwCl [(h0, .inr (11, [.ref h2, .ref h3, .ref h4, .ref h5, .ref h6, .int x1, .int x2])), (h6, .inr (8, [.ref h7, .ref h3, .int x3, .int x4, .int x5])), (h3, .inr (1, [.ref h8, .ref h9, .ref h10, .ref h11])), (h8, .inl (y0, 32768, .inl f0)), (h11, .inr (9, [.ref h12, .ref h13, .int x6, .int x7, .int x8, .int x9])), (h13, .inl (y1, 3, .inl f1)), (h12, .inl (y2, 3, .inl f2)), (h10, .inr (5, [.int x10, .int x11, .int x12, .int x13, .int x14, .int x15])), (h9, .inr (7, [.int x16, .int x17, .int x18, .int x19, .int x20])), (h7, .inl (y3, 64, .inl f3)), (h1, .inl (y4, 1, .inr (.inl g0)))] U.heap ∧ va_K (dC, dI) vwCl [(y0, .int), (y1, .int), (y2, .int), (y3, .int), (y4, .long)] U ∧ va_D (fun _ => True) [(h0, .inr (11, [.ref h2, .ref h3, .ref h4, .ref h5, .ref h6, .int x1, .int x2])), (h6, .inr (8, [.ref h7, .ref h3, .int x3, .int x4, .int x5])), (h3, .inr (1, [.ref h8, .ref h9, .ref h10, .ref h11])), (h8, .inl (y0, 32768, .inl f0)), (h11, .inr (9, [.ref h12, .ref h13, .int x6, .int x7, .int x8, .int x9])), (h13, .inl (y1, 3, .inl f1)), (h12, .inl (y2, 3, .inl f2)), (h10, .inr (5, [.int x10, .int x11, .int x12, .int x13, .int x14, .int x15])), (h9, .inr (7, [.int x16, .int x17, .int x18, .int x19, .int x20])), (h7, .inl (y3, 64, .inl f3)), (h1, .inl (y4, 1, .inr (.inl g0)))] ∧ ev adK adV (va_A [(h0, .inr (11, [.ref h2, .ref h3, .ref h4, .ref h5, .ref h6, .int x1, .int x2])), (h6, .inr (8, [.ref h7, .ref h3, .int x3, .int x4, .int x5])), (h3, .inr (1, [.ref h8, .ref h9, .ref h10, .ref h11])), (h8, .inl (y0, 32768, .inl f0)), (h11, .inr (9, [.ref h12, .ref h13, .int x6, .int x7, .int x8, .int x9])), (h13, .inl (y1, 3, .inl f1)), (h12, .inl (y2, 3, .inl f2)), (h10, .inr (5, [.int x10, .int x11, .int x12, .int x13, .int x14, .int x15])), (h9, .inr (7, [.int x16, .int x17, .int x18, .int x19, .int x20])), (h7, .inl (y3, 64, .inl f3)), (h1, .inl (y4, 1, .inr (.inl g0)))] sz) U U.heap)) (va_Qi (fun (r : Int32) (u : Int32 × Int32 × Int32 × (Nat → Int32) × (Nat → Int64)) => r = 0 ∧ iv u.1 0 64 ∧ iv u.2.1 0 65535 ∧ True) (fun (u : Int32 × Int32 × Int32 × (Nat → Int32) × (Nat → Int64)) (t : State) => va_P (dC, dI) vwCl [(h0, .inr (11, [.ref h2, .ref h3, .ref h4, .ref h5, .ref h6, .int x1, .int x2])), (h6, .inr (8, [.ref h7, .ref h3, .int u.1, .int u.2.1, .int u.2.2.1])), (h3, .inr (1, [.ref h8, .ref h9, .ref h10, .ref h11])), (h8, .inl (y0, 32768, .inl f0)), (h11, .inr (9, [.ref h12, .ref h13, .int x6, .int x7, .int x8, .int x9])), (h13, .inl (y1, 3, .inl f1)), (h12, .inl (y2, 3, .inl f2)), (h10, .inr (5, [.int x10, .int x11, .int x12, .int x13, .int x14, .int x15])), (h9, .inr (7, [.int x16, .int x17, .int x18, .int x19, .int x20])), (h7, .inl (y3, 64, .inl u.2.2.2.1)), (h1, .inl (y4, 1, .inr (.inl u.2.2.2.2)))] t.heap ∧ va_K (dC, dI) vwCl [(y0, .int), (y1, .int), (y2, .int), (y3, .int), (y4, .long)] t ∧ va_D (va_A [(h0, .inr (11, [.ref h2, .ref h3, .ref h4, .ref h5, .ref h6, .int x1, .int x2])), (h6, .inr (8, [.ref h7, .ref h3, .int x3, .int x4, .int x5])), (h3, .inr (1, [.ref h8, .ref h9, .ref h10, .ref h11])), (h8, .inl (y0, 32768, .inl f0)), (h11, .inr (9, [.ref h12, .ref h13, .int x6, .int x7, .int x8, .int x9])), (h13, .inl (y1, 3, .inl f1)), (h12, .inl (y2, 3, .inl f2)), (h10, .inr (5, [.int x10, .int x11, .int x12, .int x13, .int x14, .int x15])), (h9, .inr (7, [.int x16, .int x17, .int x18, .int x19, .int x20])), (h7, .inl (y3, 64, .inl f3)), (h1, .inl (y4, 1, .inr (.inl g0)))] sz) [(h0, .inr (11, [.ref h2, .ref h3, .ref h4, .ref h5, .ref h6, .int x1, .int x2])), (h6, .inr (8, [.ref h7, .ref h3, .int u.1, .int u.2.1, .int u.2.2.1])), (h3, .inr (1, [.ref h8, .ref h9, .ref h10, .ref h11])), (h8, .inl (y0, 32768, .inl f0)), (h11, .inr (9, [.ref h12, .ref h13, .int x6, .int x7, .int x8, .int x9])), (h13, .inl (y1, 3, .inl f1)), (h12, .inl (y2, 3, .inl f2)), (h10, .inr (5, [.int x10, .int x11, .int x12, .int x13, .int x14, .int x15])), (h9, .inr (7, [.int x16, .int x17, .int x18, .int x19, .int x20])), (h7, .inl (y3, 64, .inl u.2.2.2.1)), (h1, .inl (y4, 1, .inr (.inl u.2.2.2.2)))]) (va_A [(h0, .inr (11, [.ref h2, .ref h3, .ref h4, .ref h5, .ref h6, .int x1, .int x2])), (h6, .inr (8, [.ref h7, .ref h3, .int x3, .int x4, .int x5])), (h3, .inr (1, [.ref h8, .ref h9, .ref h10, .ref h11])), (h8, .inl (y0, 32768, .inl f0)), (h11, .inr (9, [.ref h12, .ref h13, .int x6, .int x7, .int x8, .int x9])), (h13, .inl (y1, 3, .inl f1)), (h12, .inl (y2, 3, .inl f2)), (h10, .inr (5, [.int x10, .int x11, .int x12, .int x13, .int x14, .int x15])), (h9, .inr (7, [.int x16, .int x17, .int x18, .int x19, .int x20])), (h7, .inl (y3, 64, .inl f3)), (h1, .inl (y4, 1, .inr (.inl g0)))] sz)) 0 0 (va_A [(h0, .inr (11, [.ref h2, .ref h3, .ref h4, .ref h5, .ref h6, .int x1, .int x2])), (h6, .inr (8, [.ref h7, .ref h3, .int x3, .int x4, .int x5])), (h3, .inr (1, [.ref h8, .ref h9, .ref h10, .ref h11])), (h8, .inl (y0, 32768, .inl f0)), (h11, .inr (9, [.ref h12, .ref h13, .int x6, .int x7, .int x8, .int x9])), (h13, .inl (y1, 3, .inl f1)), (h12, .inl (y2, 3, .inl f2)), (h10, .inr (5, [.int x10, .int x11, .int x12, .int x13, .int x14, .int x15])), (h9, .inr (7, [.int x16, .int x17, .int x18, .int x19, .int x20])), (h7, .inl (y3, 64, .inl f3)), (h1, .inl (y4, 1, .inr (.inl g0)))] sz) := by
  refine va_MetW (cc := cL_list) (maxL := 4) (ret := (some .int)) (by decide) rfl ?_
  intro p e s m args below meth c s₁ B hml hv
  obtain ⟨rfl, hsz, hP, hK, hD0, hE⟩ := hv
  have hx := B.exec
  have hb := B.bytes
  have hr := B.returns
  have hts0 := atoms_spec (ws := Cond.codeWith yL_list cL_list 4 (some .int) [(0, 9, 12, 19)] :: lw_G) B.pre
  have htab := vx_table (x := x) B (hts0 _ List.mem_cons_self)
  have hG : ∀ w ∈ lw_G, w.before _ s = true := fun w h => hts0 w (List.mem_cons_of_mem _ h)
  have hown : s.vm.findClass RL = some m.cls := findClass_of_methodNamed B.named
  have hlocks := B.notSynchronized
  subst hsz
  have hD := hD0.self (sz := s.heap.size)
  generalize hAe : va_A [(h0, .inr (11, [.ref h2, .ref h3, .ref h4, .ref h5, .ref h6, .int x1, .int x2])), (h6, .inr (8, [.ref h7, .ref h3, .int x3, .int x4, .int x5])), (h3, .inr (1, [.ref h8, .ref h9, .ref h10, .ref h11])), (h8, .inl (y0, 32768, .inl f0)), (h11, .inr (9, [.ref h12, .ref h13, .int x6, .int x7, .int x8, .int x9])), (h13, .inl (y1, 3, .inl f1)), (h12, .inl (y2, 3, .inl f2)), (h10, .inr (5, [.int x10, .int x11, .int x12, .int x13, .int x14, .int x15])), (h9, .inr (7, [.int x16, .int x17, .int x18, .int x19, .int x20])), (h7, .inl (y3, 64, .inl f3)), (h1, .inl (y4, 1, .inr (.inl g0)))] s.heap.size = A at hD hE ⊢
  have hA : ∀ q : Nat, s.heap.size ≤ q → A q := fun q h => by rw [← hAe]; exact Or.inr h
  have hS : va_S A s.heap s.heap [] := va_S.rf
  have hP : va_P (dC, dI) vwCl [(h0, .inr (11, [.ref h2, .ref h3, .ref h4, .ref h5, .ref h6, .int x1, .int x2])), (h6, .inr (8, [.ref h7, .ref h3, .int x3, .int x4, .int x5])), (h3, .inr (1, [.ref h8, .ref h9, .ref h10, .ref h11])), (h8, .inl (y0, 32768, .inl f0)), (h11, .inr (9, [.ref h12, .ref h13, .int x6, .int x7, .int x8, .int x9])), (h13, .inl (y1, 3, .inl f1)), (h12, .inl (y2, 3, .inl f2)), (h10, .inr (5, [.int x10, .int x11, .int x12, .int x13, .int x14, .int x15])), (h9, .inr (7, [.int x16, .int x17, .int x18, .int x19, .int x20])), (h7, .inl (y3, 64, .inl f3)), (h1, .inl (y4, 1, .inr (.inl g0)))] s.heap := hP
  have hl := lv_entry ([.ref h0, .int x0, .ref h1]) (n := 4) (Nat.le_of_ble_eq_true rfl)
  rw [lg_entry_eq]
  generalize (lg_sl ([.ref h0, .int x0, .ref h1]) ++ List.replicate (4 - (lg_sl ([.ref h0, .int x0, .ref h1])).length) Slot.unset).toArray = ls at hl ⊢
  have hl : lv_has ls 4 [(0, .ref h0), (1, .int x0), (2, .ref h1)] := hl
  generalize ([.ref h0, .int x0, .ref h1] : List Value).toArray = ar at hG ⊢
  refine wq (fun Q hQ => ?_)
  refine lv_aload_n hx hb dL_list_0 rfl (lv_at hl 2 rfl) ?_
  refine lv_iconst (v := 0) hx hb dL_list_1 (by decide) ?_
  refine lv_aload_n hx hb dL_list_2 rfl (lv_at hl 0 rfl) ?_
  refine lv_iload_n hx hb dL_list_3 rfl (lv_at hl 1 rfl) ?_
  obtain ⟨hPc, hDc, hFc⟩ := nv_sub3 (wc := [(h0, .inr (11, [.ref h2, .ref h3, .ref h4, .ref h5, .ref h6, .int x1, .int x2])), (h6, .inr (8, [.ref h7, .ref h3, .int x3, .int x4, .int x5])), (h3, .inr (1, [.ref h8, .ref h9, .ref h10, .ref h11])), (h8, .inl (y0, 32768, .inl f0)), (h11, .inr (9, [.ref h12, .ref h13, .int x6, .int x7, .int x8, .int x9])), (h13, .inl (y1, 3, .inl f1)), (h12, .inl (y2, 3, .inl f2)), (h10, .inr (5, [.int x10, .int x11, .int x12, .int x13, .int x14, .int x15])), (h9, .inr (7, [.int x16, .int x17, .int x18, .int x19, .int x20])), (h7, .inl (y3, 64, .inl f3))]) hP hD hS hA [0, 1, 2, 3, 4, 5, 6, 7, 8, 9] (by decide) rfl
  have hKc := hK.sub (tys' := [(y0, .int), (y1, .int), (y2, .int), (y3, .int)]) [0, 1, 2, 3] rfl
  refine va_calli (va_runV (As := [.int x0]) (rest := [.int 0, .ref h1]) ⟨hx, hb, hml, hown, hG⟩ (cX11_list_3 l dC dI adK adV h0 h2 h3 h4 h5 h6 h7 h8 h9 h10 h11 h12 h13 y0 y1 y2 y3 s.heap.size x0 x1 x2 x3 x4 x5 x6 x7 x8 x9 x10 x11 x12 x13 x14 x15 x16 x17 x18 x19 x20 f0 f1 f2 f3 ix0 ix1 ix3 ix9) (cwV 1 hG (gV wd_1174 wd_1175 wd_1176 wd_1 wd_1177) rfl rfl rfl (by decide +kernel) ⟨Nat.le_of_ble_eq_true rfl, Nat.le_of_ble_eq_true rfl⟩) ⟨fun a U g mk q => by obtain ⟨q0, q1, qP, qK, qD, qE⟩ := q; exact ⟨q0, q1, qP, va_K.moved (u := U) (U := U.calling g mk a) (Vm.Alike.refl U.vm) qK, qD, qE.same rfl⟩, va_recv hKc hPc (ci := 11) (q0 := 0) rfl rfl, fun U hU hW => ⟨rfl, by rw [hU], by rw [hU]; exact hPc, va_K.moved hW.alike hKc, hDc.weaken (fun _ _ _ _ => trivial), by rw [hU]; exact ((hE.kept hS.2.1).narrow hFc).warm hW⟩⟩ rfl rfl hl.1 rfl (lv_room (Nat.le_of_ble_eq_true rfl)) dL_list_4 ⟨by decide, by decide⟩) hS (fun q _ h => hFc q h) hFc (fun r1 u2 t H1 locs ht hvm hw hB hz1 hk1 hS => ?_)
  obtain ⟨u2_0, u2_1, u2_2, u2_3⟩ := u2
  have hw : iv r1 0 64 ∧ iv u2_0 0 64 ∧ iv u2_1 0 65535 ∧ True := hw
  obtain ⟨ir1, iu2_0, iu2_1, -⟩ := hw
  obtain ⟨hP1, hK1, hD1⟩ := hB
  rw [ht] at hP1
  have hK1 := va_K.moved hvm.symm hK1
  obtain ⟨hP, hD⟩ := nv_join (wf := [(h1, .inl (y4, 1, .inr (.inl g0))), (h0, .inr (11, [.ref h2, .ref h3, .ref h4, .ref h5, .ref h6, .int x1, .int x2])), (h6, .inr (8, [.ref h7, .ref h3, .int u2_0, .int u2_1, .int u2_2])), (h3, .inr (1, [.ref h8, .ref h9, .ref h10, .ref h11])), (h8, .inl (y0, 32768, .inl f0)), (h11, .inr (9, [.ref h12, .ref h13, .int x6, .int x7, .int x8, .int x9])), (h13, .inl (y1, 3, .inl f1)), (h12, .inl (y2, 3, .inl f2)), (h10, .inr (5, [.int x10, .int x11, .int x12, .int x13, .int x14, .int x15])), (h9, .inr (7, [.int x16, .int x17, .int x18, .int x19, .int x20])), (h7, .inl (y3, 64, .inl u2_3))]) hP hD [0, 1, 2, 3, 4, 5, 6, 7, 8, 9] [10] rfl rfl (by decide) (by decide) hk1 hFc hP1 hD1 rfl
  have hK := (hK.sub (tys' := [(y4, .long)]) [4] rfl).app hK1
  generalize H1 = H at hP hS ⊢
  have hK : va_K (dC, dI) vwCl [(y4, .long), (y0, .int), (y1, .int), (y2, .int), (y3, .int)] s := hK
  refine lv_i2l (v := _) hx hb dL_list_7 rfl ?_
  refine lv_topl (fun w3 ew3 => ?_)
  refine va_last hx hb hK hP hD hS 0 0 rfl rfl (iv_in (by decide : iv 0 0 0) (by decide) (by decide) : vp_in 0 1) dL_list_8 (fun H locs hP hD hS => ?_)
  obtain ⟨nf4, enf4⟩ : ∃ z, z = vp_updL g0 (0 : Int32).toNatClampNeg w3 := ⟨_, rfl⟩
  obtain ⟨hP, hD⟩ := nv_eq (ws' := [(h1, .inl (y4, 1, .inr (.inl nf4))), (h0, .inr (11, [.ref h2, .ref h3, .ref h4, .ref h5, .ref h6, .int x1, .int x2])), (h6, .inr (8, [.ref h7, .ref h3, .int u2_0, .int u2_1, .int u2_2])), (h3, .inr (1, [.ref h8, .ref h9, .ref h10, .ref h11])), (h8, .inl (y0, 32768, .inl f0)), (h11, .inr (9, [.ref h12, .ref h13, .int x6, .int x7, .int x8, .int x9])), (h13, .inl (y1, 3, .inl f1)), (h12, .inl (y2, 3, .inl f2)), (h10, .inr (5, [.int x10, .int x11, .int x12, .int x13, .int x14, .int x15])), (h9, .inr (7, [.int x16, .int x17, .int x18, .int x19, .int x20])), (h7, .inl (y3, 64, .inl u2_3))]) hP hD (by subst enf4; rfl)
  refine lv_goto (tgt := 15) hx hb dL_list_9 (by decide) ?_
  refine lv_iconst (v := 0) hx hb dL_list_15 (by decide) ?_
  rw [hQ]
  obtain ⟨hP9, hD9⟩ := nv_sub2 (wc := [(h0, .inr (11, [.ref h2, .ref h3, .ref h4, .ref h5, .ref h6, .int x1, .int x2])), (h6, .inr (8, [.ref h7, .ref h3, .int u2_0, .int u2_1, .int u2_2])), (h3, .inr (1, [.ref h8, .ref h9, .ref h10, .ref h11])), (h8, .inl (y0, 32768, .inl f0)), (h11, .inr (9, [.ref h12, .ref h13, .int x6, .int x7, .int x8, .int x9])), (h13, .inl (y1, 3, .inl f1)), (h12, .inl (y2, 3, .inl f2)), (h10, .inr (5, [.int x10, .int x11, .int x12, .int x13, .int x14, .int x15])), (h9, .inr (7, [.int x16, .int x17, .int x18, .int x19, .int x20])), (h7, .inl (y3, 64, .inl u2_3)), (h1, .inl (y4, 1, .inr (.inl nf4)))]) hP hD [1, 2, 3, 4, 5, 6, 7, 8, 9, 10, 0] (by decide) rfl
  have hK9 := hK.sub (tys' := [(y0, .int), (y1, .int), (y2, .int), (y3, .int), (y4, .long)]) [1, 2, 3, 4, 0] rfl
  exact W.iret (v := 0) hx hb hr (fun t ht hW => ⟨⟨0, (u2_0, u2_1, u2_2, u2_3, nf4), rfl, ⟨rfl, iv_w iu2_0 (by decide) (by decide), iv_w iu2_1 (by decide) (by decide), trivial⟩, by rw [ht]; exact hP9, va_K.moved hW.alike hK9, hD9⟩, hS.F ht⟩) hS.2.2 dL_list_16
set_option maxHeartbeats 100000000 in
set_option maxRecDepth 100000 in
theorem cX11_octet_1 (l : Launch) (hst : l.stackTraces = false) (dC : Nat → ClassId) (dI : Nat → Nat → Nat) (adK adV : Nat → Nat) (h0 h1 h2 h3 h4 h5 h6 : Nat) (sz : Nat) (x0 x1 x2 x3 x4 x5 : Int32) (ix0 : iv x0 (-2147483648) (-1)) (ix1 : iv x1 0 2600) (ix3 : iv x3 0 64) (q0 : x0 < x3) : vx_Met l yX11_octet (Cond.code yX11_octet cX11_octet 2 (some .int) :: lw_G) ({ frames := 6, cells := 1, slots := 6, locals := 82 }) (va_Pc [.ref h0, .int x0] (fun U => U.heap.size = sz ∧ va_P (dC, dI) vwCl [(h0, .inr (11, [.ref h1, .ref h2, .ref h3, .ref h4, .ref h5, .int x1, .int x2])), (h5, .inr (8, [.ref h6, .ref h2, .int x3, .int x4, .int x5]))] U.heap ∧ va_K (dC, dI) vwCl [] U ∧ va_D (fun _ => True) [(h0, .inr (11, [.ref h1, .ref h2, .ref h3, .ref h4, .ref h5, .int x1, .int x2])), (h5, .inr (8, [.ref h6, .ref h2, .int x3, .int x4, .int x5]))] ∧ ev adK adV (va_A [(h0, .inr (11, [.ref h1, .ref h2, .ref h3, .ref h4, .ref h5, .int x1, .int x2])), (h5, .inr (8, [.ref h6, .ref h2, .int x3, .int x4, .int x5]))] sz) U U.heap)) (va_Qi (fun (_ : Int32) (_ : Unit) => False) (fun _ _ => True) (va_A [(h0, .inr (11, [.ref h1, .ref h2, .ref h3, .ref h4, .ref h5, .int x1, .int x2])), (h5, .inr (8, [.ref h6, .ref h2, .int x3, .int x4, .int x5]))] sz)) (vx_X (fun (_ : Unit) => True) (fun (E : String) (_ : Unit) (t : State) => E = "java/util/NoSuchElementException" ∧ va_P (dC, dI) vwCl [(h0, .inr (11, [.ref h1, .ref h2, .ref h3, .ref h4, .ref h5, .int x1, .int x2])), (h5, .inr (8, [.ref h6, .ref h2, .int x3, .int x4, .int x5]))] t.heap ∧ va_K (dC, dI) vwCl [] t ∧ va_D (va_A [(h0, .inr (11, [.ref h1, .ref h2, .ref h3, .ref h4, .ref h5, .int x1, .int x2])), (h5, .inr (8, [.ref h6, .ref h2, .int x3, .int x4, .int x5]))] sz) [(h0, .inr (11, [.ref h1, .ref h2, .ref h3, .ref h4, .ref h5, .int x1, .int x2])), (h5, .inr (8, [.ref h6, .ref h2, .int x3, .int x4, .int x5]))]) (va_A [(h0, .inr (11, [.ref h1, .ref h2, .ref h3, .ref h4, .ref h5, .int x1, .int x2])), (h5, .inr (8, [.ref h6, .ref h2, .int x3, .int x4, .int x5]))] sz)) 1 6 (va_A [(h0, .inr (11, [.ref h1, .ref h2, .ref h3, .ref h4, .ref h5, .int x1, .int x2])), (h5, .inr (8, [.ref h6, .ref h2, .int x3, .int x4, .int x5]))] sz) := by
  refine vx_ofW (cc := cX11_octet) (maxL := 2) (ret := (some .int)) (by decide) rfl ?_
  intro p e s m args below meth c s₁ B hml htab hv
  obtain ⟨rfl, hsz, hP, hK, hD0, hE⟩ := hv
  have hx := B.exec
  have hb := B.bytes
  have hr := B.returns
  have hts0 := atoms_spec (ws := Cond.code yX11_octet cX11_octet 2 (some .int) :: lw_G) B.pre
  have hG : ∀ w ∈ lw_G, w.before _ s = true := fun w h => hts0 w (List.mem_cons_of_mem _ h)
  have hown : s.vm.findClass RX11 = some m.cls := findClass_of_methodNamed B.named
  have hlocks := B.notSynchronized
  subst hsz
  have hD := hD0.self (sz := s.heap.size)
  generalize hAe : va_A [(h0, .inr (11, [.ref h1, .ref h2, .ref h3, .ref h4, .ref h5, .int x1, .int x2])), (h5, .inr (8, [.ref h6, .ref h2, .int x3, .int x4, .int x5]))] s.heap.size = A at hD hE ⊢
  have hA : ∀ q : Nat, s.heap.size ≤ q → A q := fun q h => by rw [← hAe]; exact Or.inr h
  have hS : va_S A s.heap s.heap [] := va_S.rf
  have hP : va_P (dC, dI) vwCl [(h0, .inr (11, [.ref h1, .ref h2, .ref h3, .ref h4, .ref h5, .int x1, .int x2])), (h5, .inr (8, [.ref h6, .ref h2, .int x3, .int x4, .int x5]))] s.heap := hP
  have hl := lv_entry ([.ref h0, .int x0]) (n := 2) (Nat.le_of_ble_eq_true rfl)
  rw [lg_entry_eq]
  generalize (lg_sl ([.ref h0, .int x0]) ++ List.replicate (2 - (lg_sl ([.ref h0, .int x0])).length) Slot.unset).toArray = ls at hl ⊢
  have hl : lv_has ls 2 [(0, .ref h0), (1, .int x0)] := hl
  refine lv_iload_n hx hb dX11_octet_0 rfl (lv_at hl 1 rfl) ?_
  refine lv_if_lt (tgt := 15) hx hb dX11_octet_1 (by decide) (fun _ => ?_) (fun c => absurd (iv_lt ix0 (by decide : iv 0 0 0) (by decide)) c)
  obtain ⟨hP9, hD9⟩ := nv_sub2 (wc := [(h0, .inr (11, [.ref h1, .ref h2, .ref h3, .ref h4, .ref h5, .int x1, .int x2])), (h5, .inr (8, [.ref h6, .ref h2, .int x3, .int x4, .int x5]))]) hP hD [0, 1] (by decide) rfl
  have hK9 := hK.sub (tys' := []) [] rfl
  refine nx_throw (own := RX11) (cls := "java/util/NoSuchElementException") (text := evT5) (names := ["java/lang/RuntimeException", "java/lang/Exception"]) hx hb hst (by decide +kernel) (by decide +kernel) (by decide +kernel) (by decide +kernel) hown (by decide) (by decide) (hG _ wd_1245) (hG _ wd_25) (evR5 hE) (evA2 hE hG) evG2_149 hE.2.2.2.1 hE.2.2.2.2.1 hS (by rw [hml]; exact hl.1) dX11_octet_15 dX11_octet_18 dX11_octet_19 dX11_octet_21 dX11_octet_24 (fun x hx9 => (htab x hx9).elim) (by decide) (by decide) (by decide) (by decide) hlocks (fun t hvm9 hz9 hk9 => ⟨(), trivial, ⟨rfl, hP9.kept (fun k q hk => hk9 q.1 (vx_lt hP9 hk)), va_K.moved hvm9 hK9, hD9⟩, Nat.le_trans hS.1 hz9, fun q hq hA9 => (hk9 q (Nat.lt_of_lt_of_le hq hS.1)).trans (hS.2.1 q hq hA9)⟩) hS.2.2 (by decide) (by decide)
set_option maxHeartbeats 100000000 in
set_option maxRecDepth 100000 in
theorem cL_octet_1 (l : Launch) (hst : l.stackTraces = false) (dC : Nat → ClassId) (dI : Nat → Nat → Nat) (adK adV : Nat → Nat) (h0 h1 h2 h3 h4 h5 h6 h7 : Nat) (sz : Nat) (x0 x1 x2 x3 x4 x5 : Int32) (ix0 : iv x0 (-2147483648) (-1)) (ix1 : iv x1 0 2600) (ix3 : iv x3 0 64) (q0 : x0 < x3) : Met l yL_octet (Cond.codeWith yL_octet cL_octet 4 (some .int) [(0, 9, 12, 38)] :: lw_G) ({ frames := 7, cells := 1, slots := 6, locals := 103 }) (va_Pc [.ref h0, .int x0, .ref h1] (fun U => U.heap.size = sz ∧ va_P (dC, dI) vwCl [(h0, .inr (11, [.ref h2, .ref h3, .ref h4, .ref h5, .ref h6, .int x1, .int x2])), (h6, .inr (8, [.ref h7, .ref h3, .int x3, .int x4, .int x5]))] U.heap ∧ va_K (dC, dI) vwCl [] U ∧ va_D (fun _ => True) [(h0, .inr (11, [.ref h2, .ref h3, .ref h4, .ref h5, .ref h6, .int x1, .int x2])), (h6, .inr (8, [.ref h7, .ref h3, .int x3, .int x4, .int x5]))] ∧ ev adK adV (va_A [(h0, .inr (11, [.ref h2, .ref h3, .ref h4, .ref h5, .ref h6, .int x1, .int x2])), (h6, .inr (8, [.ref h7, .ref h3, .int x3, .int x4, .int x5]))] sz) U U.heap)) (va_Qi (fun (r : Int32) (u : Unit) => r = 1 ∧ True) (fun (u : Unit) (t : State) => va_P (dC, dI) vwCl [(h0, .inr (11, [.ref h2, .ref h3, .ref h4, .ref h5, .ref h6, .int x1, .int x2])), (h6, .inr (8, [.ref h7, .ref h3, .int x3, .int x4, .int x5]))] t.heap ∧ va_K (dC, dI) vwCl [] t ∧ va_D (va_A [(h0, .inr (11, [.ref h2, .ref h3, .ref h4, .ref h5, .ref h6, .int x1, .int x2])), (h6, .inr (8, [.ref h7, .ref h3, .int x3, .int x4, .int x5]))] sz) [(h0, .inr (11, [.ref h2, .ref h3, .ref h4, .ref h5, .ref h6, .int x1, .int x2])), (h6, .inr (8, [.ref h7, .ref h3, .int x3, .int x4, .int x5]))]) (va_A [(h0, .inr (11, [.ref h2, .ref h3, .ref h4, .ref h5, .ref h6, .int x1, .int x2])), (h6, .inr (8, [.ref h7, .ref h3, .int x3, .int x4, .int x5]))] sz)) 1 6 (va_A [(h0, .inr (11, [.ref h2, .ref h3, .ref h4, .ref h5, .ref h6, .int x1, .int x2])), (h6, .inr (8, [.ref h7, .ref h3, .int x3, .int x4, .int x5]))] sz) := by
  refine va_MetW (cc := cL_octet) (maxL := 4) (ret := (some .int)) (by decide) rfl ?_
  intro p e s m args below meth c s₁ B hml hv
  obtain ⟨rfl, hsz, hP, hK, hD0, hE⟩ := hv
  have hx := B.exec
  have hb := B.bytes
  have hr := B.returns
  have hts0 := atoms_spec (ws := Cond.codeWith yL_octet cL_octet 4 (some .int) [(0, 9, 12, 38)] :: lw_G) B.pre
  have htab := vx_table (x := x) B (hts0 _ List.mem_cons_self)
  have hG : ∀ w ∈ lw_G, w.before _ s = true := fun w h => hts0 w (List.mem_cons_of_mem _ h)
  have hown : s.vm.findClass RL = some m.cls := findClass_of_methodNamed B.named
  have hlocks := B.notSynchronized
  subst hsz
  have hD := hD0.self (sz := s.heap.size)
  generalize hAe : va_A [(h0, .inr (11, [.ref h2, .ref h3, .ref h4, .ref h5, .ref h6, .int x1, .int x2])), (h6, .inr (8, [.ref h7, .ref h3, .int x3, .int x4, .int x5]))] s.heap.size = A at hD hE ⊢
  have hA : ∀ q : Nat, s.heap.size ≤ q → A q := fun q h => by rw [← hAe]; exact Or.inr h
  have hS : va_S A s.heap s.heap [] := va_S.rf
  have hP : va_P (dC, dI) vwCl [(h0, .inr (11, [.ref h2, .ref h3, .ref h4, .ref h5, .ref h6, .int x1, .int x2])), (h6, .inr (8, [.ref h7, .ref h3, .int x3, .int x4, .int x5]))] s.heap := hP
  have hl := lv_entry ([.ref h0, .int x0, .ref h1]) (n := 4) (Nat.le_of_ble_eq_true rfl)
  rw [lg_entry_eq]
  generalize (lg_sl ([.ref h0, .int x0, .ref h1]) ++ List.replicate (4 - (lg_sl ([.ref h0, .int x0, .ref h1])).length) Slot.unset).toArray = ls at hl ⊢
  have hl : lv_has ls 4 [(0, .ref h0), (1, .int x0), (2, .ref h1)] := hl
  generalize ([.ref h0, .int x0, .ref h1] : List Value).toArray = ar at hG ⊢
  refine wq (fun Q hQ => ?_)
  refine lv_aload_n hx hb dL_octet_0 rfl (lv_at hl 2 rfl) ?_
  refine lv_iconst (v := 0) hx hb dL_octet_1 (by decide) ?_
  refine lv_aload_n hx hb dL_octet_2 rfl (lv_at hl 0 rfl) ?_
  refine lv_iload_n hx hb dL_octet_3 rfl (lv_at hl 1 rfl) ?_
  obtain ⟨hPc, hDc, hFc⟩ := nv_sub3 (wc := [(h0, .inr (11, [.ref h2, .ref h3, .ref h4, .ref h5, .ref h6, .int x1, .int x2])), (h6, .inr (8, [.ref h7, .ref h3, .int x3, .int x4, .int x5]))]) hP hD hS hA [0, 1] (by decide) rfl
  have hKc := hK.sub (tys' := []) [] rfl
  refine vx_calli (vx_runV (As := [.int x0]) (rest := [.int 0, .ref h1]) ⟨hx, hb, hml, hown, hG⟩ (cX11_octet_1 l hst dC dI adK adV h0 h2 h3 h4 h5 h6 h7 s.heap.size x0 x1 x2 x3 x4 x5 ix0 ix1 ix3 q0) (cwV 1 hG (gV wd_1241 wd_1242 wd_1243 wd_1 wd_1244) rfl rfl rfl (by decide +kernel) ⟨Nat.le_of_ble_eq_true rfl, Nat.le_of_ble_eq_true rfl⟩) ⟨fun a U g mk q => by obtain ⟨q0, q1, qP, qK, qD, qE⟩ := q; exact ⟨q0, q1, qP, va_K.moved (u := U) (U := U.calling g mk a) (Vm.Alike.refl U.vm) qK, qD, qE.same rfl⟩, va_recv hKc hPc (ci := 11) (q0 := 0) rfl rfl, fun U hU hW => ⟨rfl, by rw [hU], by rw [hU]; exact hPc, va_K.moved hW.alike hKc, hDc.weaken (fun _ _ _ _ => trivial), by rw [hU]; exact ((hE.kept hS.2.1).narrow hFc).warm hW⟩⟩ rfl rfl hl.1 rfl (lv_room (Nat.le_of_ble_eq_true rfl)) dL_octet_4 ⟨by decide, by decide⟩) hS (fun q _ h => hFc q h) hFc (fun q _ h => hFc q h) (fun E9 ce q1 u9 t H1 locs ht hvm hpx hB hz1 hk1 hS hce hcv hcl => ?_) (fun r u t H1 locs ht hvm hw hB hz1 hk1 hS => hw.elim)
  obtain ⟨rfl, hP1, hK1, hD1⟩ := hB
  rw [ht] at hP1
  have hK1 := va_K.moved hvm.symm hK1
  obtain ⟨hP, hD⟩ := nv_join (wf := [(h0, .inr (11, [.ref h2, .ref h3, .ref h4, .ref h5, .ref h6, .int x1, .int x2])), (h6, .inr (8, [.ref h7, .ref h3, .int x3, .int x4, .int x5]))]) hP hD [0, 1] [] rfl rfl (by decide) (by decide) hk1 hFc hP1 hD1 rfl
  have hK := (hK.sub (tys' := []) [] rfl).app hK1
  generalize H1 = H at hP hS hce ⊢
  have hK : va_K (dC, dI) vwCl [] s := hK
  refine vx_widen (k := 1) (n := 6) (by decide) (by decide) ?_
  refine vx_catch (name := "java/util/NoSuchElementException") hown [] { startPc := 0, endPc := 9, handlerPc := 12, catchType := 38 } [] (by rw [htab]; rfl) (fun z hz => nomatch hz) (by decide) (by decide) (hG _ wd_1240) (evC2 hE) hce hcv hcl ?_
  refine lv_astore_n (lv' := [(3, .ref q1), (0, .ref h0), (1, .int x0), (2, .ref h1)]) hx hb dL_octet_12 rfl hl (by decide) rfl (fun ls hl => ?_)
  refine lv_iconst (v := 1) hx hb dL_octet_13 (by decide) ?_
  rw [hQ]
  obtain ⟨hP9, hD9⟩ := nv_sub2 (wc := [(h0, .inr (11, [.ref h2, .ref h3, .ref h4, .ref h5, .ref h6, .int x1, .int x2])), (h6, .inr (8, [.ref h7, .ref h3, .int x3, .int x4, .int x5]))]) hP hD [0, 1] (by decide) rfl
  have hK9 := hK.sub (tys' := []) [] rfl
  refine W.widen (k := 1) (n := 6) (by decide) (by decide) ?_
  exact W.iret (v := 1) hx hb hr (fun t ht hW => ⟨⟨1, (), rfl, ⟨rfl, trivial⟩, by rw [ht]; exact hP9, va_K.moved hW.alike hK9, hD9⟩, hS.F ht⟩) hS.2.2 dL_octet_14
set_option maxHeartbeats 100000000 in
set_option maxRecDepth 100000 in
theorem cX12_octet_1 (l : Launch) (dC : Nat → ClassId) (dI : Nat → Nat → Nat) (h0 h1 h2 h3 h4 h5 h6 h7 h8 h9 h10 h11 h12 h13 h14 h15 h16 h17 : Nat) (y0 : ClassId) (sz : Nat) (x0 x1 x2 x3 x4 x5 x6 x7 x8 x9 x10 x11 x12 x13 x14 x15 x16 x17 x18 x19 x20 x21 x22 x23 x24 x25 x26 x27 x28 x29 x30 x31 x32 x33 x34 x35 x36 x37 x38 x39 x40 x41 x42 x43 x44 x45 x46 x47 x48 x49 x50 x51 x52 x53 x54 : Int32) (z0 : Int64) (f0 : Nat → Int32) (ix16 : iv x16 0 1) (ix17 : iv x17 0 40) (ix22 : iv x22 0 65535) (ix23 : iv x23 0 1) (ix24 : iv x24 0 1) (ix25 : iv x25 0 2600) (ix26 : iv x26 0 2600) (ix27 : iv x27 0 2500) (ix28 : iv x28 0 2500) (ix32 : iv x32 0 1048575) (ix33 : iv x33 0 60) (ix34 : iv x34 0 60) (ix35 : iv x35 0 1) (ix36 : iv x36 0 1) (ix37 : iv x37 0 65535) (ix42 : iv x42 0 5200) (ix43 : iv x43 0 70800) (ix47 : iv x47 0 1) (ix48 : iv x48 0 1) (ix50 : iv x50 0 100) (ix54 : iv x54 0 1) (if0 : ∀ j, iv (f0 j) (-128) 127) : Met l yX12_octet (Cond.code yX12_octet cX12_octet 2 (some .int) :: lw_G) ({ frames := 1, cells := 0, slots := 0, locals := 21 }) (va_Pc [.ref h0, .int x0] (fun U => U.heap.size = sz ∧ va_P (dC, dI) vwCl [(h0, .inr (12, .int x1 :: .ref h1 :: .ref h2 :: .int x2 :: .int x3 :: .int x4 :: .int x5 :: .int x6 :: .int x7 :: .int x8 :: .int x9 :: .int x10 :: [.int x11, .int x12, .int x13, .int x14, .int x15, .int x16, .ref h3, .ref h4, .ref h5, .ref h6, .int x17, .int x18, .int x19, .int x20, .int x21, .int x22, .int x23, .int x24, .ref h7, .int x25, .int x26, .int x27, .int x28, .ref h8, .ref h9, .int x29, .int x30, .long z0, .int x31, .int x32, .ref h10, .ref h11, .ref h12, .ref h13, .ref h14, .int x33, .int x34, .int x35, .int x36, .int x37, .int x38, .int x39, .int x40, .int x41, .ref h15, .ref h16, .int x42, .int x43, .int x44, .int x45, .int x46, .int x47, .int x48, .int x49, .ref h17, .int x50, .int x51, .int x52, .int x53, .int x54])), (h17, .inl (y0, 100, .inl f0))] U.heap ∧ va_K (dC, dI) vwCl [(y0, .byte)] U ∧ va_D (fun _ => True) [(h0, .inr (12, .int x1 :: .ref h1 :: .ref h2 :: .int x2 :: .int x3 :: .int x4 :: .int x5 :: .int x6 :: .int x7 :: .int x8 :: .int x9 :: .int x10 :: [.int x11, .int x12, .int x13, .int x14, .int x15, .int x16, .ref h3, .ref h4, .ref h5, .ref h6, .int x17, .int x18, .int x19, .int x20, .int x21, .int x22, .int x23, .int x24, .ref h7, .int x25, .int x26, .int x27, .int x28, .ref h8, .ref h9, .int x29, .int x30, .long z0, .int x31, .int x32, .ref h10, .ref h11, .ref h12, .ref h13, .ref h14, .int x33, .int x34, .int x35, .int x36, .int x37, .int x38, .int x39, .int x40, .int x41, .ref h15, .ref h16, .int x42, .int x43, .int x44, .int x45, .int x46, .int x47, .int x48, .int x49, .ref h17, .int x50, .int x51, .int x52, .int x53, .int x54])), (h17, .inl (y0, 100, .inl f0))])) (va_Qi (fun (r : Int32) (u : Int32) => iv r (-128) 127 ∧ iv u 0 1 ∧ True) (fun (u : Int32) (t : State) => va_P (dC, dI) vwCl [(h0, .inr (12, .int u :: .ref h1 :: .ref h2 :: .int x2 :: .int x3 :: .int x4 :: .int x5 :: .int x6 :: .int x7 :: .int x8 :: .int x9 :: .int x10 :: [.int x11, .int x12, .int x13, .int x14, .int x15, .int x16, .ref h3, .ref h4, .ref h5, .ref h6, .int x17, .int x18, .int x19, .int x20, .int x21, .int x22, .int x23, .int x24, .ref h7, .int x25, .int x26, .int x27, .int x28, .ref h8, .ref h9, .int x29, .int x30, .long z0, .int x31, .int x32, .ref h10, .ref h11, .ref h12, .ref h13, .ref h14, .int x33, .int x34, .int x35, .int x36, .int x37, .int x38, .int x39, .int x40, .int x41, .ref h15, .ref h16, .int x42, .int x43, .int x44, .int x45, .int x46, .int x47, .int x48, .int x49, .ref h17, .int x50, .int x51, .int x52, .int x53, .int x54])), (h17, .inl (y0, 100, .inl f0))] t.heap ∧ va_K (dC, dI) vwCl [(y0, .byte)] t ∧ va_D (va_A [(h0, .inr (12, .int x1 :: .ref h1 :: .ref h2 :: .int x2 :: .int x3 :: .int x4 :: .int x5 :: .int x6 :: .int x7 :: .int x8 :: .int x9 :: .int x10 :: [.int x11, .int x12, .int x13, .int x14, .int x15, .int x16, .ref h3, .ref h4, .ref h5, .ref h6, .int x17, .int x18, .int x19, .int x20, .int x21, .int x22, .int x23, .int x24, .ref h7, .int x25, .int x26, .int x27, .int x28, .ref h8, .ref h9, .int x29, .int x30, .long z0, .int x31, .int x32, .ref h10, .ref h11, .ref h12, .ref h13, .ref h14, .int x33, .int x34, .int x35, .int x36, .int x37, .int x38, .int x39, .int x40, .int x41, .ref h15, .ref h16, .int x42, .int x43, .int x44, .int x45, .int x46, .int x47, .int x48, .int x49, .ref h17, .int x50, .int x51, .int x52, .int x53, .int x54])), (h17, .inl (y0, 100, .inl f0))] sz) [(h0, .inr (12, .int u :: .ref h1 :: .ref h2 :: .int x2 :: .int x3 :: .int x4 :: .int x5 :: .int x6 :: .int x7 :: .int x8 :: .int x9 :: .int x10 :: [.int x11, .int x12, .int x13, .int x14, .int x15, .int x16, .ref h3, .ref h4, .ref h5, .ref h6, .int x17, .int x18, .int x19, .int x20, .int x21, .int x22, .int x23, .int x24, .ref h7, .int x25, .int x26, .int x27, .int x28, .ref h8, .ref h9, .int x29, .int x30, .long z0, .int x31, .int x32, .ref h10, .ref h11, .ref h12, .ref h13, .ref h14, .int x33, .int x34, .int x35, .int x36, .int x37, .int x38, .int x39, .int x40, .int x41, .ref h15, .ref h16, .int x42, .int x43, .int x44, .int x45, .int x46, .int x47, .int x48, .int x49, .ref h17, .int x50, .int x51, .int x52, .int x53, .int x54])), (h17, .inl (y0, 100, .inl f0))]) (va_A [(h0, .inr (12, .int x1 :: .ref h1 :: .ref h2 :: .int x2 :: .int x3 :: .int x4 :: .int x5 :: .int x6 :: .int x7 :: .int x8 :: .int x9 :: .int x10 :: [.int x11, .int x12, .int x13, .int x14, .int x15, .int x16, .ref h3, .ref h4, .ref h5, .ref h6, .int x17, .int x18, .int x19, .int x20, .int x21, .int x22, .int x23, .int x24, .ref h7, .int x25, .int x26, .int x27, .int x28, .ref h8, .ref h9, .int x29, .int x30, .long z0, .int x31, .int x32, .ref h10, .ref h11, .ref h12, .ref h13, .ref h14, .int x33, .int x34, .int x35, .int x36, .int x37, .int x38, .int x39, .int x40, .int x41, .ref h15, .ref h16, .int x42, .int x43, .int x44, .int x45, .int x46, .int x47, .int x48, .int x49, .ref h17, .int x50, .int x51, .int x52, .int x53, .int x54])), (h17, .inl (y0, 100, .inl f0))] sz)) 0 0 (va_A [(h0, .inr (12, .int x1 :: .ref h1 :: .ref h2 :: .int x2 :: .int x3 :: .int x4 :: .int x5 :: .int x6 :: .int x7 :: .int x8 :: .int x9 :: .int x10 :: [.int x11, .int x12, .int x13, .int x14, .int x15, .int x16, .ref h3, .ref h4, .ref h5, .ref h6, .int x17, .int x18, .int x19, .int x20, .int x21, .int x22, .int x23, .int x24, .ref h7, .int x25, .int x26, .int x27, .int x28, .ref h8, .ref h9, .int x29, .int x30, .long z0, .int x31, .int x32, .ref h10, .ref h11, .ref h12, .ref h13, .ref h14, .int x33, .int x34, .int x35, .int x36, .int x37, .int x38, .int x39, .int x40, .int x41, .ref h15, .ref h16, .int x42, .int x43, .int x44, .int x45, .int x46, .int x47, .int x48, .int x49, .ref h17, .int x50, .int x51, .int x52, .int x53, .int x54])), (h17, .inl (y0, 100, .inl f0))] sz) := by
  refine Met.ofW (cc := cX12_octet) (maxL := 2) (ret := (some .int)) (by decide) rfl ?_
  intro p e s m args below meth c s₁ B hml hv
  obtain ⟨rfl, hsz, hP, hK, hD0⟩ := hv
  have hx := B.exec
  have hb := B.bytes
  have hr := B.returns
  have hts0 := atoms_spec (ws := Cond.code yX12_octet cX12_octet 2 (some .int) :: lw_G) B.pre
  have hG : ∀ w ∈ lw_G, w.before _ s = true := fun w h => hts0 w (List.mem_cons_of_mem _ h)
  have hown : s.vm.findClass RX12 = some m.cls := findClass_of_methodNamed B.named
  have hlocks := B.notSynchronized
  subst hsz
  have hD := hD0.self (sz := s.heap.size)
  generalize hAe : va_A [(h0, .inr (12, .int x1 :: .ref h1 :: .ref h2 :: .int x2 :: .int x3 :: .int x4 :: .int x5 :: .int x6 :: .int x7 :: .int x8 :: .int x9 :: .int x10 :: [.int x11, .int x12, .int x13, .int x14, .int x15, .int x16, .ref h3, .ref h4, .ref h5, .ref h6, .int x17, .int x18, .int x19, .int x20, .int x21, .int x22, .int x23, .int x24, .ref h7, .int x25, .int x26, .int x27, .int x28, .ref h8, .ref h9, .int x29, .int x30, .long z0, .int x31, .int x32, .ref h10, .ref h11, .ref h12, .ref h13, .ref h14, .int x33, .int x34, .int x35, .int x36, .int x37, .int x38, .int x39, .int x40, .int x41, .ref h15, .ref h16, .int x42, .int x43, .int x44, .int x45, .int x46, .int x47, .int x48, .int x49, .ref h17, .int x50, .int x51, .int x52, .int x53, .int x54])), (h17, .inl (y0, 100, .inl f0))] s.heap.size = A at hD ⊢
  have hA : ∀ q : Nat, s.heap.size ≤ q → A q := fun q h => by rw [← hAe]; exact Or.inr h
  have hS : va_S A s.heap s.heap [] := va_S.rf
  have hP : va_P (dC, dI) vwCl [(h0, .inr (12, .int x1 :: .ref h1 :: .ref h2 :: .int x2 :: .int x3 :: .int x4 :: .int x5 :: .int x6 :: .int x7 :: .int x8 :: .int x9 :: .int x10 :: [.int x11, .int x12, .int x13, .int x14, .int x15, .int x16, .ref h3, .ref h4, .ref h5, .ref h6, .int x17, .int x18, .int x19, .int x20, .int x21, .int x22, .int x23, .int x24, .ref h7, .int x25, .int x26, .int x27, .int x28, .ref h8, .ref h9, .int x29, .int x30, .long z0, .int x31, .int x32, .ref h10, .ref h11, .ref h12, .ref h13, .ref h14, .int x33, .int x34, .int x35, .int x36, .int x37, .int x38, .int x39, .int x40, .int x41, .ref h15, .ref h16, .int x42, .int x43, .int x44, .int x45, .int x46, .int x47, .int x48, .int x49, .ref h17, .int x50, .int x51, .int x52, .int x53, .int x54])), (h17, .inl (y0, 100, .inl f0))] s.heap := hP
  have hl := lv_entry ([.ref h0, .int x0]) (n := 2) (Nat.le_of_ble_eq_true rfl)
  rw [lg_entry_eq]
  generalize (lg_sl ([.ref h0, .int x0]) ++ List.replicate (2 - (lg_sl ([.ref h0, .int x0])).length) Slot.unset).toArray = ls at hl ⊢
  have hl : lv_has ls 2 [(0, .ref h0), (1, .int x0)] := hl
  generalize ([.ref h0, .int x0] : List Value).toArray = ar at hG ⊢
  refine wq (fun Q hQ => ?_)
  refine lv_aload_n hx hb dX12_octet_0 rfl (lv_at hl 0 rfl) ?_
  refine lv_iload_n hx hb dX12_octet_1 rfl (lv_at hl 1 rfl) ?_
  refine lv_if_lt (tgt := 13) hx hb dX12_octet_2 (by decide) (fun c1 => ?_) (fun c1 => ?_)
  · skip
    have j2 : iv x0 (-2147483648) (-1) := iv_ltL (iv_any x0) (by decide : iv 0 0 0) c1 (by decide)
    refine lv_iconst (v := 1) hx hb dX12_octet_13 (by decide) ?_
    refine lv_goto (tgt := 18) hx hb dX12_octet_14 (by decide) ?_
    obtain ⟨hPc, hDc, hFc⟩ := nv_sub3 (wc := [(h0, .inr (12, .int x1 :: .ref h1 :: .ref h2 :: .int x2 :: .int x3 :: .int x4 :: .int x5 :: .int x6 :: .int x7 :: .int x8 :: .int x9 :: .int x10 :: [.int x11, .int x12, .int x13, .int x14, .int x15, .int x16, .ref h3, .ref h4, .ref h5, .ref h6, .int x17, .int x18, .int x19, .int x20, .int x21, .int x22, .int x23, .int x24, .ref h7, .int x25, .int x26, .int x27, .int x28, .ref h8, .ref h9, .int x29, .int x30, .long z0, .int x31, .int x32, .ref h10, .ref h11, .ref h12, .ref h13, .ref h14, .int x33, .int x34, .int x35, .int x36, .int x37, .int x38, .int x39, .int x40, .int x41, .ref h15, .ref h16, .int x42, .int x43, .int x44, .int x45, .int x46, .int x47, .int x48, .int x49, .ref h17, .int x50, .int x51, .int x52, .int x53, .int x54]))]) hP hD hS hA [0] (by decide) rfl
    have hKc := hK.sub (tys' := []) [] rfl
    refine va_calli (va_runV (As := [.int 1]) (rest := []) ⟨hx, hb, hml, hown, hG⟩ (cX12_throwsIf_1 l dC dI h0 h1 h2 h3 h4 h5 h6 h7 h8 h9 h10 h11 h12 h13 h14 h15 h16 h17 s.heap.size x1 x2 x3 x4 x5 x6 x7 x8 x9 x10 x11 x12 x13 x14 x15 x16 x17 x18 x19 x20 x21 x22 x23 x24 x25 x26 x27 x28 x29 x30 x31 x32 x33 x34 x35 x36 x37 x38 x39 x40 x41 x42 x43 x44 x45 x46 x47 x48 x49 x50 x51 x52 x53 x54 z0 ix16 ix17 ix22 ix23 ix24 ix25 ix26 ix27 ix28 ix32 ix33 ix34 ix35 ix36 ix37 ix42 ix43 ix47 ix48 ix50 ix54) (cwV 1 hG (gV wd_1562 wd_1564 wp_71 wd_17 wd_1565) rfl rfl rfl (by decide +kernel) ⟨Nat.le_of_ble_eq_true rfl, Nat.le_of_ble_eq_true rfl⟩) ⟨fun a U g mk q => by obtain ⟨q0, q1, qP, qK, qD⟩ := q; exact ⟨q0, q1, qP, va_K.moved (u := U) (U := U.calling g mk a) (Vm.Alike.refl U.vm) qK, qD⟩, va_recv hKc hPc (ci := 12) (q0 := 0) rfl rfl, fun U hU hW => ⟨rfl, by rw [hU], by rw [hU]; exact hPc, va_K.moved hW.alike hKc, hDc.weaken (fun _ _ _ _ => trivial)⟩⟩ rfl rfl hl.1 rfl (lv_room (Nat.le_of_ble_eq_true rfl)) dX12_octet_18 ⟨by decide, by decide⟩) hS (fun q _ h => hFc q h) hFc (fun r3 u4 t H1 locs ht hvm hw hB hz1 hk1 hS => ?_)
    have hw : r3 = 1 ∧ True := hw
    obtain ⟨er3, -⟩ := hw
    obtain ⟨hP1, hK1, hD1⟩ := hB
    rw [ht] at hP1
    have hK1 := va_K.moved hvm.symm hK1
    obtain ⟨hP, hD⟩ := nv_join (wf := [(h17, .inl (y0, 100, .inl f0)), (h0, .inr (12, .int 1 :: .ref h1 :: .ref h2 :: .int x2 :: .int x3 :: .int x4 :: .int x5 :: .int x6 :: .int x7 :: .int x8 :: .int x9 :: .int x10 :: [.int x11, .int x12, .int x13, .int x14, .int x15, .int x16, .ref h3, .ref h4, .ref h5, .ref h6, .int x17, .int x18, .int x19, .int x20, .int x21, .int x22, .int x23, .int x24, .ref h7, .int x25, .int x26, .int x27, .int x28, .ref h8, .ref h9, .int x29, .int x30, .long z0, .int x31, .int x32, .ref h10, .ref h11, .ref h12, .ref h13, .ref h14, .int x33, .int x34, .int x35, .int x36, .int x37, .int x38, .int x39, .int x40, .int x41, .ref h15, .ref h16, .int x42, .int x43, .int x44, .int x45, .int x46, .int x47, .int x48, .int x49, .ref h17, .int x50, .int x51, .int x52, .int x53, .int x54]))]) hP hD [0] [1] rfl rfl (by decide) (by decide) hk1 hFc hP1 hD1 rfl
    have hK := (hK.sub (tys' := [(y0, .byte)]) [0] rfl).app hK1
    generalize H1 = H at hP hS ⊢
    have hK : va_K (dC, dI) vwCl [(y0, .byte)] s := hK
    clear hKc hPc hDc hFc hP1 hD1 hK1 hk1 hz1
    subst er3
    refine lv_if_eq (tgt := 28) hx hb dX12_octet_21 (by decide) (fun c => absurd c (by decide)) (fun _ => ?_)
    refine lv_iconst (v := 0) hx hb dX12_octet_24 (by decide) ?_
    refine lv_goto (tgt := 34) hx hb dX12_octet_25 (by decide) ?_
    rw [hQ]
    obtain ⟨hP9, hD9⟩ := nv_sub2 (wc := [(h0, .inr (12, .int 1 :: .ref h1 :: .ref h2 :: .int x2 :: .int x3 :: .int x4 :: .int x5 :: .int x6 :: .int x7 :: .int x8 :: .int x9 :: .int x10 :: [.int x11, .int x12, .int x13, .int x14, .int x15, .int x16, .ref h3, .ref h4, .ref h5, .ref h6, .int x17, .int x18, .int x19, .int x20, .int x21, .int x22, .int x23, .int x24, .ref h7, .int x25, .int x26, .int x27, .int x28, .ref h8, .ref h9, .int x29, .int x30, .long z0, .int x31, .int x32, .ref h10, .ref h11, .ref h12, .ref h13, .ref h14, .int x33, .int x34, .int x35, .int x36, .int x37, .int x38, .int x39, .int x40, .int x41, .ref h15, .ref h16, .int x42, .int x43, .int x44, .int x45, .int x46, .int x47, .int x48, .int x49, .ref h17, .int x50, .int x51, .int x52, .int x53, .int x54])), (h17, .inl (y0, 100, .inl f0))]) hP hD [1, 0] (by decide) rfl
    have hK9 := hK.sub (tys' := [(y0, .byte)]) [0] rfl
    exact W.iret (v := 0) hx hb hr (fun t ht hW => ⟨⟨0, 1, rfl, ⟨iv_w (by decide : iv 0 0 0) (by decide) (by decide), iv_w (by decide : iv 1 1 1) (by decide) (by decide), trivial⟩, by rw [ht]; exact hP9, va_K.moved hW.alike hK9, hD9⟩, hS.F ht⟩) hS.2.2 dX12_octet_34
  · skip
    have j5 : iv x0 0 2147483647 := iv_nltL (iv_any x0) (by decide : iv 0 0 0) c1 (by decide)
    refine lv_iload_n hx hb dX12_octet_5 rfl (lv_at hl 1 rfl) ?_
    refine lv_aload_n hx hb dX12_octet_6 rfl (lv_at hl 0 rfl) ?_
    refine va_get (D := (dC, dI)) (ci := 12) (v := .int x50) (C := RX12) (T := TX12) (N := 72) hx hb hG inGX12 hown hK hP 0 rfl rfl 67 (by decide) (hG _ wd_1374) (fun _ h9 => h9) rfl dX12_octet_7 ?_
    refine lv_icmp_lt (tgt := 17) hx hb dX12_octet_10 (by decide) (fun c6 => ?_) (fun c6 => ?_)
    · skip
      have rl7 : x0.toInt < x50.toInt := Int32.lt_iff_toInt_lt.mp c6
      have j8 : iv x0 0 99 := iv_ltL j5 ix50 c6 (by decide)
      have j9 : iv x50 1 100 := iv_ltR j5 ix50 c6 (by decide)
      refine lv_iconst (v := 0) hx hb dX12_octet_17 (by decide) ?_
      obtain ⟨hPc, hDc, hFc⟩ := nv_sub3 (wc := [(h0, .inr (12, .int x1 :: .ref h1 :: .ref h2 :: .int x2 :: .int x3 :: .int x4 :: .int x5 :: .int x6 :: .int x7 :: .int x8 :: .int x9 :: .int x10 :: [.int x11, .int x12, .int x13, .int x14, .int x15, .int x16, .ref h3, .ref h4, .ref h5, .ref h6, .int x17, .int x18, .int x19, .int x20, .int x21, .int x22, .int x23, .int x24, .ref h7, .int x25, .int x26, .int x27, .int x28, .ref h8, .ref h9, .int x29, .int x30, .long z0, .int x31, .int x32, .ref h10, .ref h11, .ref h12, .ref h13, .ref h14, .int x33, .int x34, .int x35, .int x36, .int x37, .int x38, .int x39, .int x40, .int x41, .ref h15, .ref h16, .int x42, .int x43, .int x44, .int x45, .int x46, .int x47, .int x48, .int x49, .ref h17, .int x50, .int x51, .int x52, .int x53, .int x54]))]) hP hD hS hA [0] (by decide) rfl
      have hKc := hK.sub (tys' := []) [] rfl
      refine va_calli (va_runV (As := [.int 0]) (rest := []) ⟨hx, hb, hml, hown, hG⟩ (cX12_throwsIf_2 l dC dI h0 h1 h2 h3 h4 h5 h6 h7 h8 h9 h10 h11 h12 h13 h14 h15 h16 h17 s.heap.size x1 x2 x3 x4 x5 x6 x7 x8 x9 x10 x11 x12 x13 x14 x15 x16 x17 x18 x19 x20 x21 x22 x23 x24 x25 x26 x27 x28 x29 x30 x31 x32 x33 x34 x35 x36 x37 x38 x39 x40 x41 x42 x43 x44 x45 x46 x47 x48 x49 x50 x51 x52 x53 x54 z0 ix16 ix17 ix22 ix23 ix24 ix25 ix26 ix27 ix28 ix32 ix33 ix34 ix35 ix36 ix37 ix42 ix43 ix47 ix48 (iv_w j9 (by decide) (by decide)) ix54) (cwV 1 hG (gV wd_1562 wd_1564 wp_71 wd_17 wd_1565) rfl rfl rfl (by decide +kernel) ⟨Nat.le_of_ble_eq_true rfl, Nat.le_of_ble_eq_true rfl⟩) ⟨fun a U g mk q => by obtain ⟨q0, q1, qP, qK, qD⟩ := q; exact ⟨q0, q1, qP, va_K.moved (u := U) (U := U.calling g mk a) (Vm.Alike.refl U.vm) qK, qD⟩, va_recv hKc hPc (ci := 12) (q0 := 0) rfl rfl, fun U hU hW => ⟨rfl, by rw [hU], by rw [hU]; exact hPc, va_K.moved hW.alike hKc, hDc.weaken (fun _ _ _ _ => trivial)⟩⟩ rfl rfl hl.1 rfl (lv_room (Nat.le_of_ble_eq_true rfl)) dX12_octet_18 ⟨by decide, by decide⟩) hS (fun q _ h => hFc q h) hFc (fun r10 u11 t H1 locs ht hvm hw hB hz1 hk1 hS => ?_)
      have hw : r10 = 0 ∧ True := hw
      obtain ⟨er10, -⟩ := hw
      obtain ⟨hP1, hK1, hD1⟩ := hB
      rw [ht] at hP1
      have hK1 := va_K.moved hvm.symm hK1
      obtain ⟨hP, hD⟩ := nv_join (wf := [(h17, .inl (y0, 100, .inl f0)), (h0, .inr (12, .int 0 :: .ref h1 :: .ref h2 :: .int x2 :: .int x3 :: .int x4 :: .int x5 :: .int x6 :: .int x7 :: .int x8 :: .int x9 :: .int x10 :: [.int x11, .int x12, .int x13, .int x14, .int x15, .int x16, .ref h3, .ref h4, .ref h5, .ref h6, .int x17, .int x18, .int x19, .int x20, .int x21, .int x22, .int x23, .int x24, .ref h7, .int x25, .int x26, .int x27, .int x28, .ref h8, .ref h9, .int x29, .int x30, .long z0, .int x31, .int x32, .ref h10, .ref h11, .ref h12, .ref h13, .ref h14, .int x33, .int x34, .int x35, .int x36, .int x37, .int x38, .int x39, .int x40, .int x41, .ref h15, .ref h16, .int x42, .int x43, .int x44, .int x45, .int x46, .int x47, .int x48, .int x49, .ref h17, .int x50, .int x51, .int x52, .int x53, .int x54]))]) hP hD [0] [1] rfl rfl (by decide) (by decide) hk1 hFc hP1 hD1 rfl
      have hK := (hK.sub (tys' := [(y0, .byte)]) [0] rfl).app hK1
      generalize H1 = H at hP hS ⊢
      have hK : va_K (dC, dI) vwCl [(y0, .byte)] s := hK
      clear hKc hPc hDc hFc hP1 hD1 hK1 hk1 hz1
      subst er10
      refine lv_if_eq (tgt := 28) hx hb dX12_octet_21 (by decide) (fun _ => ?_) (fun c => absurd (by decide) c)
      refine lv_aload_n hx hb dX12_octet_28 rfl (lv_at hl 0 rfl) ?_
      refine va_get (D := (dC, dI)) (ci := 12) (v := .ref h17) (C := RX12) (T := TX12) (N := 72) hx hb hG inGX12 hown hK hP 1 rfl rfl 66 (by decide) (hG _ wd_1373) (fun _ h9 => h9) rfl dX12_octet_29 ?_
      refine lv_iload_n hx hb dX12_octet_32 rfl (lv_at hl 1 rfl) ?_
      refine va_bald hx hb hK hP 0 0 rfl rfl (iv_in j8 (by decide) (by decide) : vp_in x0 100) dX12_octet_33 ?_
      refine lv_topi (fun v12 ev12 => ?_)
      have iv12 : iv v12 (-128) 127 := iv_eq ev12 (if0 _)
      rw [hQ]
      obtain ⟨hP9, hD9⟩ := nv_sub2 (wc := [(h0, .inr (12, .int 0 :: .ref h1 :: .ref h2 :: .int x2 :: .int x3 :: .int x4 :: .int x5 :: .int x6 :: .int x7 :: .int x8 :: .int x9 :: .int x10 :: [.int x11, .int x12, .int x13, .int x14, .int x15, .int x16, .ref h3, .ref h4, .ref h5, .ref h6, .int x17, .int x18, .int x19, .int x20, .int x21, .int x22, .int x23, .int x24, .ref h7, .int x25, .int x26, .int x27, .int x28, .ref h8, .ref h9, .int x29, .int x30, .long z0, .int x31, .int x32, .ref h10, .ref h11, .ref h12, .ref h13, .ref h14, .int x33, .int x34, .int x35, .int x36, .int x37, .int x38, .int x39, .int x40, .int x41, .ref h15, .ref h16, .int x42, .int x43, .int x44, .int x45, .int x46, .int x47, .int x48, .int x49, .ref h17, .int x50, .int x51, .int x52, .int x53, .int x54])), (h17, .inl (y0, 100, .inl f0))]) hP hD [1, 0] (by decide) rfl
      have hK9 := hK.sub (tys' := [(y0, .byte)]) [0] rfl
      exact W.iret (v := v12) hx hb hr (fun t ht hW => ⟨⟨v12, 0, rfl, ⟨iv_w iv12 (by decide) (by decide), iv_w (by decide : iv 0 0 0) (by decide) (by decide), trivial⟩, by rw [ht]; exact hP9, va_K.moved hW.alike hK9, hD9⟩, hS.F ht⟩) hS.2.2 dX12_octet_34
    · skip
      have rl13 : x50.toInt ≤ x0.toInt := iv_nlt2 c6
      refine lv_iconst (v := 1) hx hb dX12_octet_13 (by decide) ?_
      refine lv_goto (tgt := 18) hx hb dX12_octet_14 (by decide) ?_
      obtain ⟨hPc, hDc, hFc⟩ := nv_sub3 (wc := [(h0, .inr (12, .int x1 :: .ref h1 :: .ref h2 :: .int x2 :: .int x3 :: .int x4 :: .int x5 :: .int x6 :: .int x7 :: .int x8 :: .int x9 :: .int x10 :: [.int x11, .int x12, .int x13, .int x14, .int x15, .int x16, .ref h3, .ref h4, .ref h5, .ref h6, .int x17, .int x18, .int x19, .int x20, .int x21, .int x22, .int x23, .int x24, .ref h7, .int x25, .int x26, .int x27, .int x28, .ref h8, .ref h9, .int x29, .int x30, .long z0, .int x31, .int x32, .ref h10, .ref h11, .ref h12, .ref h13, .ref h14, .int x33, .int x34, .int x35, .int x36, .int x37, .int x38, .int x39, .int x40, .int x41, .ref h15, .ref h16, .int x42, .int x43, .int x44, .int x45, .int x46, .int x47, .int x48, .int x49, .ref h17, .int x50, .int x51, .int x52, .int x53, .int x54]))]) hP hD hS hA [0] (by decide) rfl
      have hKc := hK.sub (tys' := []) [] rfl
      refine va_calli (va_runV (As := [.int 1]) (rest := []) ⟨hx, hb, hml, hown, hG⟩ (cX12_throwsIf_1 l dC dI h0 h1 h2 h3 h4 h5 h6 h7 h8 h9 h10 h11 h12 h13 h14 h15 h16 h17 s.heap.size x1 x2 x3 x4 x5 x6 x7 x8 x9 x10 x11 x12 x13 x14 x15 x16 x17 x18 x19 x20 x21 x22 x23 x24 x25 x26 x27 x28 x29 x30 x31 x32 x33 x34 x35 x36 x37 x38 x39 x40 x41 x42 x43 x44 x45 x46 x47 x48 x49 x50 x51 x52 x53 x54 z0 ix16 ix17 ix22 ix23 ix24 ix25 ix26 ix27 ix28 ix32 ix33 ix34 ix35 ix36 ix37 ix42 ix43 ix47 ix48 ix50 ix54) (cwV 1 hG (gV wd_1562 wd_1564 wp_71 wd_17 wd_1565) rfl rfl rfl (by decide +kernel) ⟨Nat.le_of_ble_eq_true rfl, Nat.le_of_ble_eq_true rfl⟩) ⟨fun a U g mk q => by obtain ⟨q0, q1, qP, qK, qD⟩ := q; exact ⟨q0, q1, qP, va_K.moved (u := U) (U := U.calling g mk a) (Vm.Alike.refl U.vm) qK, qD⟩, va_recv hKc hPc (ci := 12) (q0 := 0) rfl rfl, fun U hU hW => ⟨rfl, by rw [hU], by rw [hU]; exact hPc, va_K.moved hW.alike hKc, hDc.weaken (fun _ _ _ _ => trivial)⟩⟩ rfl rfl hl.1 rfl (lv_room (Nat.le_of_ble_eq_true rfl)) dX12_octet_18 ⟨by decide, by decide⟩) hS (fun q _ h => hFc q h) hFc (fun r14 u15 t H1 locs ht hvm hw hB hz1 hk1 hS => ?_)
      have hw : r14 = 1 ∧ True := hw
      obtain ⟨er14, -⟩ := hw
      obtain ⟨hP1, hK1, hD1⟩ := hB
      rw [ht] at hP1
      have hK1 := va_K.moved hvm.symm hK1
      obtain ⟨hP, hD⟩ := nv_join (wf := [(h17, .inl (y0, 100, .inl f0)), (h0, .inr (12, .int 1 :: .ref h1 :: .ref h2 :: .int x2 :: .int x3 :: .int x4 :: .int x5 :: .int x6 :: .int x7 :: .int x8 :: .int x9 :: .int x10 :: [.int x11, .int x12, .int x13, .int x14, .int x15, .int x16, .ref h3, .ref h4, .ref h5, .ref h6, .int x17, .int x18, .int x19, .int x20, .int x21, .int x22, .int x23, .int x24, .ref h7, .int x25, .int x26, .int x27, .int x28, .ref h8, .ref h9, .int x29, .int x30, .long z0, .int x31, .int x32, .ref h10, .ref h11, .ref h12, .ref h13, .ref h14, .int x33, .int x34, .int x35, .int x36, .int x37, .int x38, .int x39, .int x40, .int x41, .ref h15, .ref h16, .int x42, .int x43, .int x44, .int x45, .int x46, .int x47, .int x48, .int x49, .ref h17, .int x50, .int x51, .int x52, .int x53, .int x54]))]) hP hD [0] [1] rfl rfl (by decide) (by decide) hk1 hFc hP1 hD1 rfl
      have hK := (hK.sub (tys' := [(y0, .byte)]) [0] rfl).app hK1
      generalize H1 = H at hP hS ⊢
      have hK : va_K (dC, dI) vwCl [(y0, .byte)] s := hK
      clear hKc hPc hDc hFc hP1 hD1 hK1 hk1 hz1
      subst er14
      refine lv_if_eq (tgt := 28) hx hb dX12_octet_21 (by decide) (fun c => absurd c (by decide)) (fun _ => ?_)
      refine lv_iconst (v := 0) hx hb dX12_octet_24 (by decide) ?_
      refine lv_goto (tgt := 34) hx hb dX12_octet_25 (by decide) ?_
      rw [hQ]
      obtain ⟨hP9, hD9⟩ := nv_sub2 (wc := [(h0, .inr (12, .int 1 :: .ref h1 :: .ref h2 :: .int x2 :: .int x3 :: .int x4 :: .int x5 :: .int x6 :: .int x7 :: .int x8 :: .int x9 :: .int x10 :: [.int x11, .int x12, .int x13, .int x14, .int x15, .int x16, .ref h3, .ref h4, .ref h5, .ref h6, .int x17, .int x18, .int x19, .int x20, .int x21, .int x22, .int x23, .int x24, .ref h7, .int x25, .int x26, .int x27, .int x28, .ref h8, .ref h9, .int x29, .int x30, .long z0, .int x31, .int x32, .ref h10, .ref h11, .ref h12, .ref h13, .ref h14, .int x33, .int x34, .int x35, .int x36, .int x37, .int x38, .int x39, .int x40, .int x41, .ref h15, .ref h16, .int x42, .int x43, .int x44, .int x45, .int x46, .int x47, .int x48, .int x49, .ref h17, .int x50, .int x51, .int x52, .int x53, .int x54])), (h17, .inl (y0, 100, .inl f0))]) hP hD [1, 0] (by decide) rfl
      have hK9 := hK.sub (tys' := [(y0, .byte)]) [0] rfl
      exact W.iret (v := 0) hx hb hr (fun t ht hW => ⟨⟨0, 1, rfl, ⟨iv_w (by decide : iv 0 0 0) (by decide) (by decide), iv_w (by decide : iv 1 1 1) (by decide) (by decide), trivial⟩, by rw [ht]; exact hP9, va_K.moved hW.alike hK9, hD9⟩, hS.F ht⟩) hS.2.2 dX12_octet_34
set_option maxHeartbeats 100000000 in
set_option maxRecDepth 100000 in
theorem cX8_sign_1 (l : Launch) (dC : Nat → ClassId) (dI : Nat → Nat → Nat) (h0 h1 h2 : Nat) (y0 : ClassId) (sz : Nat) (x0 x1 x2 x3 : Int32) (f0 : Nat → Int32) (ix1 : iv x1 0 64) : Met l yX8_sign (Cond.code yX8_sign cX8_sign 2 (some .int) :: lw_G) ({ frames := 0, cells := 0, slots := 0, locals := 0 }) (va_Pc [.ref h0, .int x0] (fun U => U.heap.size = sz ∧ va_P (dC, dI) vwCl [(h0, .inr (8, [.ref h1, .ref h2, .int x1, .int x2, .int x3])), (h1, .inl (y0, 64, .inl f0))] U.heap ∧ va_K (dC, dI) vwCl [(y0, .int)] U ∧ va_D (fun _ => True) [(h0, .inr (8, [.ref h1, .ref h2, .int x1, .int x2, .int x3])), (h1, .inl (y0, 64, .inl f0))])) (va_Qi (fun (r : Int32) (u : Unit) => True) (fun (u : Unit) (t : State) => va_P (dC, dI) vwCl [(h0, .inr (8, [.ref h1, .ref h2, .int x1, .int x2, .int x3])), (h1, .inl (y0, 64, .inl f0))] t.heap ∧ va_K (dC, dI) vwCl [(y0, .int)] t ∧ va_D (va_A [(h0, .inr (8, [.ref h1, .ref h2, .int x1, .int x2, .int x3])), (h1, .inl (y0, 64, .inl f0))] sz) [(h0, .inr (8, [.ref h1, .ref h2, .int x1, .int x2, .int x3])), (h1, .inl (y0, 64, .inl f0))]) (va_A [(h0, .inr (8, [.ref h1, .ref h2, .int x1, .int x2, .int x3])), (h1, .inl (y0, 64, .inl f0))] sz)) 0 0 (va_A [(h0, .inr (8, [.ref h1, .ref h2, .int x1, .int x2, .int x3])), (h1, .inl (y0, 64, .inl f0))] sz) := by
  refine Met.ofW (cc := cX8_sign) (maxL := 2) (ret := (some .int)) (by decide) rfl ?_
  intro p e s m args below meth c s₁ B hml hv
  obtain ⟨rfl, hsz, hP, hK, hD0⟩ := hv
  have hx := B.exec
  have hb := B.bytes
  have hr := B.returns
  have hts0 := atoms_spec (ws := Cond.code yX8_sign cX8_sign 2 (some .int) :: lw_G) B.pre
  have hG : ∀ w ∈ lw_G, w.before _ s = true := fun w h => hts0 w (List.mem_cons_of_mem _ h)
  have hown : s.vm.findClass RX8 = some m.cls := findClass_of_methodNamed B.named
  have hlocks := B.notSynchronized
  subst hsz
  have hD := hD0.self (sz := s.heap.size)
  generalize hAe : va_A [(h0, .inr (8, [.ref h1, .ref h2, .int x1, .int x2, .int x3])), (h1, .inl (y0, 64, .inl f0))] s.heap.size = A at hD ⊢
  have hA : ∀ q : Nat, s.heap.size ≤ q → A q := fun q h => by rw [← hAe]; exact Or.inr h
  have hS : va_S A s.heap s.heap [] := va_S.rf
  have hP : va_P (dC, dI) vwCl [(h0, .inr (8, [.ref h1, .ref h2, .int x1, .int x2, .int x3])), (h1, .inl (y0, 64, .inl f0))] s.heap := hP
  have hl := lv_entry ([.ref h0, .int x0]) (n := 2) (Nat.le_of_ble_eq_true rfl)
  rw [lg_entry_eq]
  generalize (lg_sl ([.ref h0, .int x0]) ++ List.replicate (2 - (lg_sl ([.ref h0, .int x0])).length) Slot.unset).toArray = ls at hl ⊢
  have hl : lv_has ls 2 [(0, .ref h0), (1, .int x0)] := hl
  generalize ([.ref h0, .int x0] : List Value).toArray = ar at hG ⊢
  refine wq (fun Q hQ => ?_)
  refine lv_iload_n hx hb dX8_sign_0 rfl (lv_at hl 1 rfl) ?_
  refine jcut (a := ∀ (b8 : Int32) (H : Heap) (locs : List Loc) (hK : va_K (dC, dI) vwCl [(y0, .int)] s) (hP : va_P (dC, dI) vwCl [(h0, .inr (8, [.ref h1, .ref h2, .int x1, .int x2, .int x3])), (h1, .inl (y0, 64, .inl f0))] H) (hD : va_D A [(h0, .inr (8, [.ref h1, .ref h2, .int x1, .int x2, .int x3])), (h1, .inl (y0, 64, .inl f0))]) (hS : va_S A s.heap H locs) (ls : Array Slot) (hl : lv_has ls 2 []), W p l e (headSpec (Cond.code yX8_sign cX8_sign 2 (some .int) :: lw_G) ({ frames := 0, cells := 0, slots := 0, locals := 0 })).room s m ar below meth c H locs 0 0 Q (F0 m 20 ls [.int b8])) ?_ (fun j9 => ?_)
  · skip
    intro b8 H locs hK hP hD hS ls hl
    rw [hQ]
    obtain ⟨hP9, hD9⟩ := nv_sub2 (wc := [(h0, .inr (8, [.ref h1, .ref h2, .int x1, .int x2, .int x3])), (h1, .inl (y0, 64, .inl f0))]) hP hD [0, 1] (by decide) rfl
    have hK9 := hK.sub (tys' := [(y0, .int)]) [0] rfl
    exact W.iret (v := b8) hx hb hr (fun t ht hW => ⟨⟨b8, (), rfl, trivial, by rw [ht]; exact hP9, va_K.moved hW.alike hK9, hD9⟩, hS.F ht⟩) hS.2.2 dX8_sign_20
  refine lv_if_lt (tgt := 19) hx hb dX8_sign_1 (by decide) (fun c1 => ?_) (fun c1 => ?_)
  · skip
    have j10 : iv x0 (-2147483648) (-1) := iv_ltL (iv_any x0) (by decide : iv 0 0 0) c1 (by decide)
    refine lv_iconst (v := 0) hx hb dX8_sign_19 (by decide) ?_
    exact j9 0 _ _ hK hP hD hS ls (lv_sub hl [] rfl)
  · skip
    have j11 : iv x0 0 2147483647 := iv_nltL (iv_any x0) (by decide : iv 0 0 0) c1 (by decide)
    refine lv_iload_n hx hb dX8_sign_4 rfl (lv_at hl 1 rfl) ?_
    refine lv_bipush (v := 64) hx hb dX8_sign_5 (by decide) ?_
    refine lv_icmp_ge (tgt := 19) hx hb dX8_sign_7 (by decide) (fun c12 => ?_) (fun c12 => ?_)
    · skip
      have j13 : iv x0 64 2147483647 := iv_leR (by decide : iv 64 64 64) j11 c12 (by decide)
      refine lv_iconst (v := 0) hx hb dX8_sign_19 (by decide) ?_
      exact j9 0 _ _ hK hP hD hS ls (lv_sub hl [] rfl)
    · skip
      have j14 : iv x0 0 63 := iv_nleR (by decide : iv 64 64 64) j11 c12 (by decide)
      refine lv_aload_n hx hb dX8_sign_10 rfl (lv_at hl 0 rfl) ?_
      refine va_get (D := (dC, dI)) (ci := 8) (v := .ref h1) (C := RX8) (T := TX8) (N := 5) hx hb hG inGX8 hown hK hP 0 rfl rfl 0 (by decide) (hG _ wd_379) (fun _ h9 => h9) rfl dX8_sign_11 ?_
      refine lv_iload_n hx hb dX8_sign_14 rfl (lv_at hl 1 rfl) ?_
      refine va_iald hx hb hK hP 1 0 rfl rfl (iv_in j14 (by decide) (by decide) : vp_in x0 64) dX8_sign_15 ?_
      refine lv_topi (fun v15 ev15 => ?_)
      refine lv_goto (tgt := 20) hx hb dX8_sign_16 (by decide) ?_
      exact j9 v15 _ _ hK hP hD hS ls (lv_sub hl [] rfl)
set_option maxHeartbeats 100000000 in
set_option maxRecDepth 100000 in
theorem cX11_octet_2 (l : Launch) (dC : Nat → ClassId) (dI : Nat → Nat → Nat) (h0 h1 h2 h3 h4 h5 h6 : Nat) (y0 : ClassId) (sz : Nat) (x0 x1 x2 x3 x4 x5 : Int32) (f0 : Nat → Int32) (ix0 : iv x0 0 63) (ix1 : iv x1 0 2600) (ix3 : iv x3 0 64) (q0 : x0 < x3) : Met l yX11_octet (Cond.code yX11_octet cX11_octet 2 (some .int) :: lw_G) ({ frames := 1, cells := 0, slots := 0, locals := 21 }) (va_Pc [.ref h0, .int x0] (fun U => U.heap.size = sz ∧ va_P (dC, dI) vwCl [(h0, .inr (11, [.ref h1, .ref h2, .ref h3, .ref h4, .ref h5, .int x1, .int x2])), (h5, .inr (8, [.ref h6, .ref h2, .int x3, .int x4, .int x5])), (h6, .inl (y0, 64, .inl f0))] U.heap ∧ va_K (dC, dI) vwCl [(y0, .int)] U ∧ va_D (fun _ => True) [(h0, .inr (11, [.ref h1, .ref h2, .ref h3, .ref h4, .ref h5, .int x1, .int x2])), (h5, .inr (8, [.ref h6, .ref h2, .int x3, .int x4, .int x5])), (h6, .inl (y0, 64, .inl f0))])) (va_Qi (fun (r : Int32) (u : Unit) => True) (fun (u : Unit) (t : State) => va_P (dC, dI) vwCl [(h0, .inr (11, [.ref h1, .ref h2, .ref h3, .ref h4, .ref h5, .int x1, .int x2])), (h5, .inr (8, [.ref h6, .ref h2, .int x3, .int x4, .int x5])), (h6, .inl (y0, 64, .inl f0))] t.heap ∧ va_K (dC, dI) vwCl [(y0, .int)] t ∧ va_D (va_A [(h0, .inr (11, [.ref h1, .ref h2, .ref h3, .ref h4, .ref h5, .int x1, .int x2])), (h5, .inr (8, [.ref h6, .ref h2, .int x3, .int x4, .int x5])), (h6, .inl (y0, 64, .inl f0))] sz) [(h0, .inr (11, [.ref h1, .ref h2, .ref h3, .ref h4, .ref h5, .int x1, .int x2])), (h5, .inr (8, [.ref h6, .ref h2, .int x3, .int x4, .int x5])), (h6, .inl (y0, 64, .inl f0))]) (va_A [(h0, .inr (11, [.ref h1, .ref h2, .ref h3, .ref h4, .ref h5, .int x1, .int x2])), (h5, .inr (8, [.ref h6, .ref h2, .int x3, .int x4, .int x5])), (h6, .inl (y0, 64, .inl f0))] sz)) 0 0 (va_A [(h0, .inr (11, [.ref h1, .ref h2, .ref h3, .ref h4, .ref h5, .int x1, .int x2])), (h5, .inr (8, [.ref h6, .ref h2, .int x3, .int x4, .int x5])), (h6, .inl (y0, 64, .inl f0))] sz) := by
  refine Met.ofW (cc := cX11_octet) (maxL := 2) (ret := (some .int)) (by decide) rfl ?_
  intro p e s m args below meth c s₁ B hml hv
  obtain ⟨rfl, hsz, hP, hK, hD0⟩ := hv
  have hx := B.exec
  have hb := B.bytes
  have hr := B.returns
  have hts0 := atoms_spec (ws := Cond.code yX11_octet cX11_octet 2 (some .int) :: lw_G) B.pre
  have hG : ∀ w ∈ lw_G, w.before _ s = true := fun w h => hts0 w (List.mem_cons_of_mem _ h)
  have hown : s.vm.findClass RX11 = some m.cls := findClass_of_methodNamed B.named
  have hlocks := B.notSynchronized
  subst hsz
  have hD := hD0.self (sz := s.heap.size)
  generalize hAe : va_A [(h0, .inr (11, [.ref h1, .ref h2, .ref h3, .ref h4, .ref h5, .int x1, .int x2])), (h5, .inr (8, [.ref h6, .ref h2, .int x3, .int x4, .int x5])), (h6, .inl (y0, 64, .inl f0))] s.heap.size = A at hD ⊢
  have hA : ∀ q : Nat, s.heap.size ≤ q → A q := fun q h => by rw [← hAe]; exact Or.inr h
  have hS : va_S A s.heap s.heap [] := va_S.rf
  have hP : va_P (dC, dI) vwCl [(h0, .inr (11, [.ref h1, .ref h2, .ref h3, .ref h4, .ref h5, .int x1, .int x2])), (h5, .inr (8, [.ref h6, .ref h2, .int x3, .int x4, .int x5])), (h6, .inl (y0, 64, .inl f0))] s.heap := hP
  have hl := lv_entry ([.ref h0, .int x0]) (n := 2) (Nat.le_of_ble_eq_true rfl)
  rw [lg_entry_eq]
  generalize (lg_sl ([.ref h0, .int x0]) ++ List.replicate (2 - (lg_sl ([.ref h0, .int x0])).length) Slot.unset).toArray = ls at hl ⊢
  have hl : lv_has ls 2 [(0, .ref h0), (1, .int x0)] := hl
  generalize ([.ref h0, .int x0] : List Value).toArray = ar at hG ⊢
  refine wq (fun Q hQ => ?_)
  refine lv_iload_n hx hb dX11_octet_0 rfl (lv_at hl 1 rfl) ?_
  refine lv_if_lt (tgt := 15) hx hb dX11_octet_1 (by decide) (fun c => absurd c (iv_nlt ix0 (by decide : iv 0 0 0) (by decide))) (fun _ => ?_)
  refine lv_iload_n hx hb dX11_octet_4 rfl (lv_at hl 1 rfl) ?_
  refine lv_aload_n hx hb dX11_octet_5 rfl (lv_at hl 0 rfl) ?_
  refine va_get (D := (dC, dI)) (ci := 11) (v := .ref h5) (C := RX11) (T := TX11) (N := 7) hx hb hG inGX11 hown hK hP 0 rfl rfl 4 (by decide) (hG _ wd_399) (fun _ h9 => h9) rfl dX11_octet_6 ?_
  obtain ⟨hPc, hDc, hFc⟩ := nv_sub3 (wc := [(h5, .inr (8, [.ref h6, .ref h2, .int x3, .int x4, .int x5]))]) hP hD hS hA [1] (by decide) rfl
  have hKc := hK.sub (tys' := []) [] rfl
  refine va_calli (va_runV (As := []) (rest := [.int x0]) ⟨hx, hb, hml, hown, hG⟩ (cX8_length_1 l dC dI h5 h6 h2 s.heap.size x3 x4 x5 ix3) (cwV 0 hG (gV wd_870 wd_871 wd_872 wd_16 wd_873) rfl rfl rfl (by decide +kernel) ⟨Nat.le_of_ble_eq_true rfl, Nat.le_of_ble_eq_true rfl⟩) ⟨fun a U g mk q => by obtain ⟨q0, q1, qP, qK, qD⟩ := q; exact ⟨q0, q1, qP, va_K.moved (u := U) (U := U.calling g mk a) (Vm.Alike.refl U.vm) qK, qD⟩, va_recv hKc hPc (ci := 8) (q0 := 0) rfl rfl, fun U hU hW => ⟨rfl, by rw [hU], by rw [hU]; exact hPc, va_K.moved hW.alike hKc, hDc.weaken (fun _ _ _ _ => trivial)⟩⟩ rfl rfl hl.1 rfl (lv_room (Nat.le_of_ble_eq_true rfl)) dX11_octet_9 ⟨by decide, by decide⟩) hS (fun q _ h => hFc q h) hFc (fun r1 u2 t H1 locs ht hvm hw hB hz1 hk1 hS => ?_)
  have hw : r1 = x3 ∧ True := hw
  obtain ⟨er1, -⟩ := hw
  obtain ⟨hP1, hK1, hD1⟩ := hB
  rw [ht] at hP1
  have hK1 := va_K.moved hvm.symm hK1
  obtain ⟨hP, hD⟩ := nv_join (wf := [(h0, .inr (11, [.ref h1, .ref h2, .ref h3, .ref h4, .ref h5, .int x1, .int x2])), (h6, .inl (y0, 64, .inl f0)), (h5, .inr (8, [.ref h6, .ref h2, .int x3, .int x4, .int x5]))]) hP hD [1] [0, 2] rfl rfl (by decide) (by decide) hk1 hFc hP1 hD1 rfl
  have hK := (hK.sub (tys' := [(y0, .int)]) [0] rfl).app hK1
  generalize H1 = H at hP hS ⊢
  have hK : va_K (dC, dI) vwCl [(y0, .int)] s := hK
  refine lv_val (y := x3) er1 ?_
  refine lv_icmp_lt (tgt := 25) hx hb dX11_octet_12 (by decide) (fun _ => ?_) (fun c => absurd q0 c)
  refine lv_aload_n hx hb dX11_octet_25 rfl (lv_at hl 0 rfl) ?_
  refine va_get (D := (dC, dI)) (ci := 11) (v := .ref h5) (C := RX11) (T := TX11) (N := 7) hx hb hG inGX11 hown hK hP 0 rfl rfl 4 (by decide) (hG _ wd_399) (fun _ h9 => h9) rfl dX11_octet_26 ?_
  refine lv_iload_n hx hb dX11_octet_29 rfl (lv_at hl 1 rfl) ?_
  obtain ⟨hPc, hDc, hFc⟩ := nv_sub3 (wc := [(h5, .inr (8, [.ref h6, .ref h2, .int x3, .int x4, .int x5])), (h6, .inl (y0, 64, .inl f0))]) hP hD hS hA [2, 1] (by decide) rfl
  have hKc := hK.sub (tys' := [(y0, .int)]) [0] rfl
  refine va_calli (va_runV (As := [.int x0]) (rest := []) ⟨hx, hb, hml, hown, hG⟩ (cX8_sign_1 l dC dI h5 h6 h2 y0 H.size x0 x3 x4 x5 f0 ix3) (cwV 1 hG (gV wd_1261 wd_1262 wd_1263 wd_16 wd_1264) rfl rfl rfl (by decide +kernel) ⟨Nat.le_of_ble_eq_true rfl, Nat.le_of_ble_eq_true rfl⟩) ⟨fun a U g mk q => by obtain ⟨q0, q1, qP, qK, qD⟩ := q; exact ⟨q0, q1, qP, va_K.moved (u := U) (U := U.calling g mk a) (Vm.Alike.refl U.vm) qK, qD⟩, va_recv hKc hPc (ci := 8) (q0 := 0) rfl rfl, fun U hU hW => ⟨rfl, by rw [hU], by rw [hU]; exact hPc, va_K.moved hW.alike hKc, hDc.weaken (fun _ _ _ _ => trivial)⟩⟩ rfl rfl hl.1 rfl (lv_room (Nat.le_of_ble_eq_true rfl)) dX11_octet_30 ⟨by decide, by decide⟩) hS (fun q _ h => hFc q h) hFc (fun r3 u4 t H1 locs ht hvm hw hB hz1 hk1 hS => ?_)
  obtain ⟨hP1, hK1, hD1⟩ := hB
  rw [ht] at hP1
  have hK1 := va_K.moved hvm.symm hK1
  obtain ⟨hP, hD⟩ := nv_join (wf := [(h0, .inr (11, [.ref h1, .ref h2, .ref h3, .ref h4, .ref h5, .int x1, .int x2])), (h5, .inr (8, [.ref h6, .ref h2, .int x3, .int x4, .int x5])), (h6, .inl (y0, 64, .inl f0))]) hP hD [2, 1] [0] rfl rfl (by decide) (by decide) hk1 hFc hP1 hD1 rfl
  have hK := (hK.sub (tys' := []) [] rfl).app hK1
  generalize H1 = H at hP hS ⊢
  have hK : va_K (dC, dI) vwCl [(y0, .int)] s := hK
  rw [hQ]
  obtain ⟨hP9, hD9⟩ := nv_sub2 (wc := [(h0, .inr (11, [.ref h1, .ref h2, .ref h3, .ref h4, .ref h5, .int x1, .int x2])), (h5, .inr (8, [.ref h6, .ref h2, .int x3, .int x4, .int x5])), (h6, .inl (y0, 64, .inl f0))]) hP hD [0, 1, 2] (by decide) rfl
  have hK9 := hK.sub (tys' := [(y0, .int)]) [0] rfl
  exact W.iret (v := r3) hx hb hr (fun t ht hW => ⟨⟨r3, (), rfl, trivial, by rw [ht]; exact hP9, va_K.moved hW.alike hK9, hD9⟩, hS.F ht⟩) hS.2.2 dX11_octet_33
set_option maxHeartbeats 100000000 in
set_option maxRecDepth 100000 in
theorem cL_octet_2 (l : Launch) (dC : Nat → ClassId) (dI : Nat → Nat → Nat) (h0 h1 h2 h3 h4 h5 h6 h7 : Nat) (y0 y1 : ClassId) (sz : Nat) (x0 x1 x2 x3 x4 x5 : Int32) (f0 : Nat → Int32) (g0 : Nat → Int64) (ix0 : iv x0 0 63) (ix1 : iv x1 0 2600) (ix3 : iv x3 0 64) (q0 : x0 < x3) : Met l yL_octet (Cond.codeWith yL_octet cL_octet 4 (some .int) [(0, 9, 12, 38)] :: lw_G) ({ frames := 2, cells := 0, slots := 0, locals := 42 }) (va_Pc [.ref h0, .int x0, .ref h1] (fun U => U.heap.size = sz ∧ va_P (dC, dI) vwCl [(h0, .inr (11, [.ref h2, .ref h3, .ref h4, .ref h5, .ref h6, .int x1, .int x2])), (h6, .inr (8, [.ref h7, .ref h3, .int x3, .int x4, .int x5])), (h7, .inl (y0, 64, .inl f0)), (h1, .inl (y1, 1, .inr (.inl g0)))] U.heap ∧ va_K (dC, dI) vwCl [(y0, .int), (y1, .long)] U ∧ va_D (fun _ => True) [(h0, .inr (11, [.ref h2, .ref h3, .ref h4, .ref h5, .ref h6, .int x1, .int x2])), (h6, .inr (8, [.ref h7, .ref h3, .int x3, .int x4, .int x5])), (h7, .inl (y0, 64, .inl f0)), (h1, .inl (y1, 1, .inr (.inl g0)))])) (va_Qi (fun (r : Int32) (u : (Nat → Int64)) => r = 0 ∧ True) (fun (u : (Nat → Int64)) (t : State) => va_P (dC, dI) vwCl [(h0, .inr (11, [.ref h2, .ref h3, .ref h4, .ref h5, .ref h6, .int x1, .int x2])), (h6, .inr (8, [.ref h7, .ref h3, .int x3, .int x4, .int x5])), (h7, .inl (y0, 64, .inl f0)), (h1, .inl (y1, 1, .inr (.inl u)))] t.heap ∧ va_K (dC, dI) vwCl [(y0, .int), (y1, .long)] t ∧ va_D (va_A [(h0, .inr (11, [.ref h2, .ref h3, .ref h4, .ref h5, .ref h6, .int x1, .int x2])), (h6, .inr (8, [.ref h7, .ref h3, .int x3, .int x4, .int x5])), (h7, .inl (y0, 64, .inl f0)), (h1, .inl (y1, 1, .inr (.inl g0)))] sz) [(h0, .inr (11, [.ref h2, .ref h3, .ref h4, .ref h5, .ref h6, .int x1, .int x2])), (h6, .inr (8, [.ref h7, .ref h3, .int x3, .int x4, .int x5])), (h7, .inl (y0, 64, .inl f0)), (h1, .inl (y1, 1, .inr (.inl u)))]) (va_A [(h0, .inr (11, [.ref h2, .ref h3, .ref h4, .ref h5, .ref h6, .int x1, .int x2])), (h6, .inr (8, [.ref h7, .ref h3, .int x3, .int x4, .int x5])), (h7, .inl (y0, 64, .inl f0)), (h1, .inl (y1, 1, .inr (.inl g0)))] sz)) 0 0 (va_A [(h0, .inr (11, [.ref h2, .ref h3, .ref h4, .ref h5, .ref h6, .int x1, .int x2])), (h6, .inr (8, [.ref h7, .ref h3, .int x3, .int x4, .int x5])), (h7, .inl (y0, 64, .inl f0)), (h1, .inl (y1, 1, .inr (.inl g0)))] sz) := by
  refine va_MetW (cc := cL_octet) (maxL := 4) (ret := (some .int)) (by decide) rfl ?_
  intro p e s m args below meth c s₁ B hml hv
  obtain ⟨rfl, hsz, hP, hK, hD0⟩ := hv
  have hx := B.exec
  have hb := B.bytes
  have hr := B.returns
  have hts0 := atoms_spec (ws := Cond.codeWith yL_octet cL_octet 4 (some .int) [(0, 9, 12, 38)] :: lw_G) B.pre
  have htab := vx_table (x := x) B (hts0 _ List.mem_cons_self)
  have hG : ∀ w ∈ lw_G, w.before _ s = true := fun w h => hts0 w (List.mem_cons_of_mem _ h)
  have hown : s.vm.findClass RL = some m.cls := findClass_of_methodNamed B.named
  have hlocks := B.notSynchronized
  subst hsz
  have hD := hD0.self (sz := s.heap.size)
  generalize hAe : va_A [(h0, .inr (11, [.ref h2, .ref h3, .ref h4, .ref h5, .ref h6, .int x1, .int x2])), (h6, .inr (8, [.ref h7, .ref h3, .int x3, .int x4, .int x5])), (h7, .inl (y0, 64, .inl f0)), (h1, .inl (y1, 1, .inr (.inl g0)))] s.heap.size = A at hD ⊢
  have hA : ∀ q : Nat, s.heap.size ≤ q → A q := fun q h => by rw [← hAe]; exact Or.inr h
  have hS : va_S A s.heap s.heap [] := va_S.rf
  have hP : va_P (dC, dI) vwCl [(h0, .inr (11, [.ref h2, .ref h3, .ref h4, .ref h5, .ref h6, .int x1, .int x2])), (h6, .inr (8, [.ref h7, .ref h3, .int x3, .int x4, .int x5])), (h7, .inl (y0, 64, .inl f0)), (h1, .inl (y1, 1, .inr (.inl g0)))] s.heap := hP
  have hl := lv_entry ([.ref h0, .int x0, .ref h1]) (n := 4) (Nat.le_of_ble_eq_true rfl)
  rw [lg_entry_eq]
  generalize (lg_sl ([.ref h0, .int x0, .ref h1]) ++ List.replicate (4 - (lg_sl ([.ref h0, .int x0, .ref h1])).length) Slot.unset).toArray = ls at hl ⊢
  have hl : lv_has ls 4 [(0, .ref h0), (1, .int x0), (2, .ref h1)] := hl
  generalize ([.ref h0, .int x0, .ref h1] : List Value).toArray = ar at hG ⊢
  refine wq (fun Q hQ => ?_)
  refine lv_aload_n hx hb dL_octet_0 rfl (lv_at hl 2 rfl) ?_
  refine lv_iconst (v := 0) hx hb dL_octet_1 (by decide) ?_
  refine lv_aload_n hx hb dL_octet_2 rfl (lv_at hl 0 rfl) ?_
  refine lv_iload_n hx hb dL_octet_3 rfl (lv_at hl 1 rfl) ?_
  obtain ⟨hPc, hDc, hFc⟩ := nv_sub3 (wc := [(h0, .inr (11, [.ref h2, .ref h3, .ref h4, .ref h5, .ref h6, .int x1, .int x2])), (h6, .inr (8, [.ref h7, .ref h3, .int x3, .int x4, .int x5])), (h7, .inl (y0, 64, .inl f0))]) hP hD hS hA [0, 1, 2] (by decide) rfl
  have hKc := hK.sub (tys' := [(y0, .int)]) [0] rfl
  refine va_calli (va_runV (As := [.int x0]) (rest := [.int 0, .ref h1]) ⟨hx, hb, hml, hown, hG⟩ (cX11_octet_2 l dC dI h0 h2 h3 h4 h5 h6 h7 y0 s.heap.size x0 x1 x2 x3 x4 x5 f0 ix0 ix1 ix3 q0) (cwV 1 hG (gV wd_1241 wd_1242 wd_1243 wd_1 wd_1244) rfl rfl rfl (by decide +kernel) ⟨Nat.le_of_ble_eq_true rfl, Nat.le_of_ble_eq_true rfl⟩) ⟨fun a U g mk q => by obtain ⟨q0, q1, qP, qK, qD⟩ := q; exact ⟨q0, q1, qP, va_K.moved (u := U) (U := U.calling g mk a) (Vm.Alike.refl U.vm) qK, qD⟩, va_recv hKc hPc (ci := 11) (q0 := 0) rfl rfl, fun U hU hW => ⟨rfl, by rw [hU], by rw [hU]; exact hPc, va_K.moved hW.alike hKc, hDc.weaken (fun _ _ _ _ => trivial)⟩⟩ rfl rfl hl.1 rfl (lv_room (Nat.le_of_ble_eq_true rfl)) dL_octet_4 ⟨by decide, by decide⟩) hS (fun q _ h => hFc q h) hFc (fun r1 u2 t H1 locs ht hvm hw hB hz1 hk1 hS => ?_)
  obtain ⟨hP1, hK1, hD1⟩ := hB
  rw [ht] at hP1
  have hK1 := va_K.moved hvm.symm hK1
  obtain ⟨hP, hD⟩ := nv_join (wf := [(h1, .inl (y1, 1, .inr (.inl g0))), (h0, .inr (11, [.ref h2, .ref h3, .ref h4, .ref h5, .ref h6, .int x1, .int x2])), (h6, .inr (8, [.ref h7, .ref h3, .int x3, .int x4, .int x5])), (h7, .inl (y0, 64, .inl f0))]) hP hD [0, 1, 2] [3] rfl rfl (by decide) (by decide) hk1 hFc hP1 hD1 rfl
  have hK := (hK.sub (tys' := [(y1, .long)]) [1] rfl).app hK1
  generalize H1 = H at hP hS ⊢
  have hK : va_K (dC, dI) vwCl [(y1, .long), (y0, .int)] s := hK
  refine lv_i2l (v := _) hx hb dL_octet_7 rfl ?_
  refine lv_topl (fun w3 ew3 => ?_)
  refine va_last hx hb hK hP hD hS 0 0 rfl rfl (iv_in (by decide : iv 0 0 0) (by decide) (by decide) : vp_in 0 1) dL_octet_8 (fun H locs hP hD hS => ?_)
  obtain ⟨nf4, enf4⟩ : ∃ z, z = vp_updL g0 (0 : Int32).toNatClampNeg w3 := ⟨_, rfl⟩
  obtain ⟨hP, hD⟩ := nv_eq (ws' := [(h1, .inl (y1, 1, .inr (.inl nf4))), (h0, .inr (11, [.ref h2, .ref h3, .ref h4, .ref h5, .ref h6, .int x1, .int x2])), (h6, .inr (8, [.ref h7, .ref h3, .int x3, .int x4, .int x5])), (h7, .inl (y0, 64, .inl f0))]) hP hD (by subst enf4; rfl)
  refine lv_goto (tgt := 15) hx hb dL_octet_9 (by decide) ?_
  refine lv_iconst (v := 0) hx hb dL_octet_15 (by decide) ?_
  rw [hQ]
  obtain ⟨hP9, hD9⟩ := nv_sub2 (wc := [(h0, .inr (11, [.ref h2, .ref h3, .ref h4, .ref h5, .ref h6, .int x1, .int x2])), (h6, .inr (8, [.ref h7, .ref h3, .int x3, .int x4, .int x5])), (h7, .inl (y0, 64, .inl f0)), (h1, .inl (y1, 1, .inr (.inl nf4)))]) hP hD [1, 2, 3, 0] (by decide) rfl
  have hK9 := hK.sub (tys' := [(y0, .int), (y1, .long)]) [1, 0] rfl
  exact W.iret (v := 0) hx hb hr (fun t ht hW => ⟨⟨0, nf4, rfl, ⟨rfl, trivial⟩, by rw [ht]; exact hP9, va_K.moved hW.alike hK9, hD9⟩, hS.F ht⟩) hS.2.2 dL_octet_16
set_option maxHeartbeats 100000000 in
set_option maxRecDepth 100000 in
theorem cX11_octet_3 (l : Launch) (hst : l.stackTraces = false) (dC : Nat → ClassId) (dI : Nat → Nat → Nat) (adK adV : Nat → Nat) (h0 h1 h2 h3 h4 h5 h6 : Nat) (sz : Nat) (x0 x1 x2 x3 x4 x5 : Int32) (ix0 : iv x0 0 2147483647) (ix1 : iv x1 0 2600) (ix3 : iv x3 0 64) (q0 : ¬ x0 < x3) : vx_Met l yX11_octet (Cond.code yX11_octet cX11_octet 2 (some .int) :: lw_G) ({ frames := 6, cells := 1, slots := 6, locals := 82 }) (va_Pc [.ref h0, .int x0] (fun U => U.heap.size = sz ∧ va_P (dC, dI) vwCl [(h0, .inr (11, [.ref h1, .ref h2, .ref h3, .ref h4, .ref h5, .int x1, .int x2])), (h5, .inr (8, [.ref h6, .ref h2, .int x3, .int x4, .int x5]))] U.heap ∧ va_K (dC, dI) vwCl [] U ∧ va_D (fun _ => True) [(h0, .inr (11, [.ref h1, .ref h2, .ref h3, .ref h4, .ref h5, .int x1, .int x2])), (h5, .inr (8, [.ref h6, .ref h2, .int x3, .int x4, .int x5]))] ∧ ev adK adV (va_A [(h0, .inr (11, [.ref h1, .ref h2, .ref h3, .ref h4, .ref h5, .int x1, .int x2])), (h5, .inr (8, [.ref h6, .ref h2, .int x3, .int x4, .int x5]))] sz) U U.heap)) (va_Qi (fun (_ : Int32) (_ : Unit) => False) (fun _ _ => True) (va_A [(h0, .inr (11, [.ref h1, .ref h2, .ref h3, .ref h4, .ref h5, .int x1, .int x2])), (h5, .inr (8, [.ref h6, .ref h2, .int x3, .int x4, .int x5]))] sz)) (vx_X (fun (_ : Unit) => True) (fun (E : String) (_ : Unit) (t : State) => E = "java/util/NoSuchElementException" ∧ va_P (dC, dI) vwCl [(h0, .inr (11, [.ref h1, .ref h2, .ref h3, .ref h4, .ref h5, .int x1, .int x2])), (h5, .inr (8, [.ref h6, .ref h2, .int x3, .int x4, .int x5]))] t.heap ∧ va_K (dC, dI) vwCl [] t ∧ va_D (va_A [(h0, .inr (11, [.ref h1, .ref h2, .ref h3, .ref h4, .ref h5, .int x1, .int x2])), (h5, .inr (8, [.ref h6, .ref h2, .int x3, .int x4, .int x5]))] sz) [(h0, .inr (11, [.ref h1, .ref h2, .ref h3, .ref h4, .ref h5, .int x1, .int x2])), (h5, .inr (8, [.ref h6, .ref h2, .int x3, .int x4, .int x5]))]) (va_A [(h0, .inr (11, [.ref h1, .ref h2, .ref h3, .ref h4, .ref h5, .int x1, .int x2])), (h5, .inr (8, [.ref h6, .ref h2, .int x3, .int x4, .int x5]))] sz)) 1 6 (va_A [(h0, .inr (11, [.ref h1, .ref h2, .ref h3, .ref h4, .ref h5, .int x1, .int x2])), (h5, .inr (8, [.ref h6, .ref h2, .int x3, .int x4, .int x5]))] sz) := by
  refine vx_ofW (cc := cX11_octet) (maxL := 2) (ret := (some .int)) (by decide) rfl ?_
  intro p e s m args below meth c s₁ B hml htab hv
  obtain ⟨rfl, hsz, hP, hK, hD0, hE⟩ := hv
  have hx := B.exec
  have hb := B.bytes
  have hr := B.returns
  have hts0 := atoms_spec (ws := Cond.code yX11_octet cX11_octet 2 (some .int) :: lw_G) B.pre
  have hG : ∀ w ∈ lw_G, w.before _ s = true := fun w h => hts0 w (List.mem_cons_of_mem _ h)
  have hown : s.vm.findClass RX11 = some m.cls := findClass_of_methodNamed B.named
  have hlocks := B.notSynchronized
  subst hsz
  have hD := hD0.self (sz := s.heap.size)
  generalize hAe : va_A [(h0, .inr (11, [.ref h1, .ref h2, .ref h3, .ref h4, .ref h5, .int x1, .int x2])), (h5, .inr (8, [.ref h6, .ref h2, .int x3, .int x4, .int x5]))] s.heap.size = A at hD hE ⊢
  have hA : ∀ q : Nat, s.heap.size ≤ q → A q := fun q h => by rw [← hAe]; exact Or.inr h
  have hS : va_S A s.heap s.heap [] := va_S.rf
  have hP : va_P (dC, dI) vwCl [(h0, .inr (11, [.ref h1, .ref h2, .ref h3, .ref h4, .ref h5, .int x1, .int x2])), (h5, .inr (8, [.ref h6, .ref h2, .int x3, .int x4, .int x5]))] s.heap := hP
  have hl := lv_entry ([.ref h0, .int x0]) (n := 2) (Nat.le_of_ble_eq_true rfl)
  rw [lg_entry_eq]
  generalize (lg_sl ([.ref h0, .int x0]) ++ List.replicate (2 - (lg_sl ([.ref h0, .int x0])).length) Slot.unset).toArray = ls at hl ⊢
  have hl : lv_has ls 2 [(0, .ref h0), (1, .int x0)] := hl
  refine lv_iload_n hx hb dX11_octet_0 rfl (lv_at hl 1 rfl) ?_
  refine lv_if_lt (tgt := 15) hx hb dX11_octet_1 (by decide) (fun c => absurd c (iv_nlt ix0 (by decide : iv 0 0 0) (by decide))) (fun _ => ?_)
  refine lv_iload_n hx hb dX11_octet_4 rfl (lv_at hl 1 rfl) ?_
  refine lv_aload_n hx hb dX11_octet_5 rfl (lv_at hl 0 rfl) ?_
  refine va_get (D := (dC, dI)) (ci := 11) (v := .ref h5) (C := RX11) (T := TX11) (N := 7) hx hb hG inGX11 hown hK hP 0 rfl rfl 4 (by decide) (hG _ wd_399) (fun _ h9 => h9) rfl dX11_octet_6 ?_
  obtain ⟨hPc, hDc, hFc⟩ := nv_sub3 (wc := [(h5, .inr (8, [.ref h6, .ref h2, .int x3, .int x4, .int x5]))]) hP hD hS hA [1] (by decide) rfl
  have hKc := hK.sub (tys' := []) [] rfl
  refine va_calli (va_runV (As := []) (rest := [.int x0]) ⟨hx, hb, hml, hown, hG⟩ (cX8_length_1 l dC dI h5 h6 h2 s.heap.size x3 x4 x5 ix3) (cwV 0 hG (gV wd_870 wd_871 wd_872 wd_16 wd_873) rfl rfl rfl (by decide +kernel) ⟨Nat.le_of_ble_eq_true rfl, Nat.le_of_ble_eq_true rfl⟩) ⟨fun a U g mk q => by obtain ⟨q0, q1, qP, qK, qD⟩ := q; exact ⟨q0, q1, qP, va_K.moved (u := U) (U := U.calling g mk a) (Vm.Alike.refl U.vm) qK, qD⟩, va_recv hKc hPc (ci := 8) (q0 := 0) rfl rfl, fun U hU hW => ⟨rfl, by rw [hU], by rw [hU]; exact hPc, va_K.moved hW.alike hKc, hDc.weaken (fun _ _ _ _ => trivial)⟩⟩ rfl rfl hl.1 rfl (lv_room (Nat.le_of_ble_eq_true rfl)) dX11_octet_9 ⟨by decide, by decide⟩) hS (fun q _ h => hFc q h) hFc (fun r1 u2 t H1 locs ht hvm hw hB hz1 hk1 hS => ?_)
  have hw : r1 = x3 ∧ True := hw
  obtain ⟨er1, -⟩ := hw
  obtain ⟨hP1, hK1, hD1⟩ := hB
  rw [ht] at hP1
  have hK1 := va_K.moved hvm.symm hK1
  obtain ⟨hP, hD⟩ := nv_join (wf := [(h0, .inr (11, [.ref h1, .ref h2, .ref h3, .ref h4, .ref h5, .int x1, .int x2])), (h5, .inr (8, [.ref h6, .ref h2, .int x3, .int x4, .int x5]))]) hP hD [1] [0] rfl rfl (by decide) (by decide) hk1 hFc hP1 hD1 rfl
  have hK := (hK.sub (tys' := []) [] rfl).app hK1
  generalize H1 = H at hP hS ⊢
  have hK : va_K (dC, dI) vwCl [] s := hK
  refine lv_val (y := x3) er1 ?_
  refine lv_icmp_lt (tgt := 25) hx hb dX11_octet_12 (by decide) (fun c => absurd c q0) (fun _ => ?_)
  obtain ⟨hP9, hD9⟩ := nv_sub2 (wc := [(h0, .inr (11, [.ref h1, .ref h2, .ref h3, .ref h4, .ref h5, .int x1, .int x2])), (h5, .inr (8, [.ref h6, .ref h2, .int x3, .int x4, .int x5]))]) hP hD [0, 1] (by decide) rfl
  have hK9 := hK.sub (tys' := []) [] rfl
  refine nx_throw (own := RX11) (cls := "java/util/NoSuchElementException") (text := evT5) (names := ["java/lang/RuntimeException", "java/lang/Exception"]) hx hb hst (by decide +kernel) (by decide +kernel) (by decide +kernel) (by decide +kernel) hown (by decide) (by decide) (hG _ wd_1245) (hG _ wd_25) (evR5 hE) (evA2 hE hG) evG2_149 hE.2.2.2.1 hE.2.2.2.2.1 hS (by rw [hml]; exact hl.1) dX11_octet_15 dX11_octet_18 dX11_octet_19 dX11_octet_21 dX11_octet_24 (fun x hx9 => (htab x hx9).elim) (by decide) (by decide) (by decide) (by decide) hlocks (fun t hvm9 hz9 hk9 => ⟨(), trivial, ⟨rfl, hP9.kept (fun k q hk => hk9 q.1 (vx_lt hP9 hk)), va_K.moved hvm9 hK9, hD9⟩, Nat.le_trans hS.1 hz9, fun q hq hA9 => (hk9 q (Nat.lt_of_lt_of_le hq hS.1)).trans (hS.2.1 q hq hA9)⟩) hS.2.2 (by decide) (by decide)
set_option maxHeartbeats 100000000 in
set_option maxRecDepth 100000 in
theorem cL_octet_3 (l : Launch) (hst : l.stackTraces = false) (dC : Nat → ClassId) (dI : Nat → Nat → Nat) (adK adV : Nat → Nat) (h0 h1 h2 h3 h4 h5 h6 h7 : Nat) (sz : Nat) (x0 x1 x2 x3 x4 x5 : Int32) (ix0 : iv x0 0 2147483647) (ix1 : iv x1 0 2600) (ix3 : iv x3 0 64) (q0 : ¬ x0 < x3) : Met l yL_octet (Cond.codeWith yL_octet cL_octet 4 (some .int) [(0, 9, 12, 38)] :: lw_G) ({ frames := 7, cells := 1, slots := 6, locals := 103 }) (va_Pc [.ref h0, .int x0, .ref h1] (fun U => U.heap.size = sz ∧ va_P (dC, dI) vwCl [(h0, .inr (11, [.ref h2, .ref h3, .ref h4, .ref h5, .ref h6, .int x1, .int x2])), (h6, .inr (8, [.ref h7, .ref h3, .int x3, .int x4, .int x5]))] U.heap ∧ va_K (dC, dI) vwCl [] U ∧ va_D (fun _ => True) [(h0, .inr (11, [.ref h2, .ref h3, .ref h4, .ref h5, .ref h6, .int x1, .int x2])), (h6, .inr (8, [.ref h7, .ref h3, .int x3, .int x4, .int x5]))] ∧ ev adK adV (va_A [(h0, .inr (11, [.ref h2, .ref h3, .ref h4, .ref h5, .ref h6, .int x1, .int x2])), (h6, .inr (8, [.ref h7, .ref h3, .int x3, .int x4, .int x5]))] sz) U U.heap)) (va_Qi (fun (r : Int32) (u : Unit) => r = 1 ∧ True) (fun (u : Unit) (t : State) => va_P (dC, dI) vwCl [(h0, .inr (11, [.ref h2, .ref h3, .ref h4, .ref h5, .ref h6, .int x1, .int x2])), (h6, .inr (8, [.ref h7, .ref h3, .int x3, .int x4, .int x5]))] t.heap ∧ va_K (dC, dI) vwCl [] t ∧ va_D (va_A [(h0, .inr (11, [.ref h2, .ref h3, .ref h4, .ref h5, .ref h6, .int x1, .int x2])), (h6, .inr (8, [.ref h7, .ref h3, .int x3, .int x4, .int x5]))] sz) [(h0, .inr (11, [.ref h2, .ref h3, .ref h4, .ref h5, .ref h6, .int x1, .int x2])), (h6, .inr (8, [.ref h7, .ref h3, .int x3, .int x4, .int x5]))]) (va_A [(h0, .inr (11, [.ref h2, .ref h3, .ref h4, .ref h5, .ref h6, .int x1, .int x2])), (h6, .inr (8, [.ref h7, .ref h3, .int x3, .int x4, .int x5]))] sz)) 1 6 (va_A [(h0, .inr (11, [.ref h2, .ref h3, .ref h4, .ref h5, .ref h6, .int x1, .int x2])), (h6, .inr (8, [.ref h7, .ref h3, .int x3, .int x4, .int x5]))] sz) := by
  refine va_MetW (cc := cL_octet) (maxL := 4) (ret := (some .int)) (by decide) rfl ?_
  intro p e s m args below meth c s₁ B hml hv
  obtain ⟨rfl, hsz, hP, hK, hD0, hE⟩ := hv
  have hx := B.exec
  have hb := B.bytes
  have hr := B.returns
  have hts0 := atoms_spec (ws := Cond.codeWith yL_octet cL_octet 4 (some .int) [(0, 9, 12, 38)] :: lw_G) B.pre
  have htab := vx_table (x := x) B (hts0 _ List.mem_cons_self)
  have hG : ∀ w ∈ lw_G, w.before _ s = true := fun w h => hts0 w (List.mem_cons_of_mem _ h)
  have hown : s.vm.findClass RL = some m.cls := findClass_of_methodNamed B.named
  have hlocks := B.notSynchronized
  subst hsz
  have hD := hD0.self (sz := s.heap.size)
  generalize hAe : va_A [(h0, .inr (11, [.ref h2, .ref h3, .ref h4, .ref h5, .ref h6, .int x1, .int x2])), (h6, .inr (8, [.ref h7, .ref h3, .int x3, .int x4, .int x5]))] s.heap.size = A at hD hE ⊢
  have hA : ∀ q : Nat, s.heap.size ≤ q → A q := fun q h => by rw [← hAe]; exact Or.inr h
  have hS : va_S A s.heap s.heap [] := va_S.rf
  have hP : va_P (dC, dI) vwCl [(h0, .inr (11, [.ref h2, .ref h3, .ref h4, .ref h5, .ref h6, .int x1, .int x2])), (h6, .inr (8, [.ref h7, .ref h3, .int x3, .int x4, .int x5]))] s.heap := hP
  have hl := lv_entry ([.ref h0, .int x0, .ref h1]) (n := 4) (Nat.le_of_ble_eq_true rfl)
  rw [lg_entry_eq]
  generalize (lg_sl ([.ref h0, .int x0, .ref h1]) ++ List.replicate (4 - (lg_sl ([.ref h0, .int x0, .ref h1])).length) Slot.unset).toArray = ls at hl ⊢
  have hl : lv_has ls 4 [(0, .ref h0), (1, .int x0), (2, .ref h1)] := hl
  generalize ([.ref h0, .int x0, .ref h1] : List Value).toArray = ar at hG ⊢
  refine wq (fun Q hQ => ?_)
  refine lv_aload_n hx hb dL_octet_0 rfl (lv_at hl 2 rfl) ?_
  refine lv_iconst (v := 0) hx hb dL_octet_1 (by decide) ?_
  refine lv_aload_n hx hb dL_octet_2 rfl (lv_at hl 0 rfl) ?_
  refine lv_iload_n hx hb dL_octet_3 rfl (lv_at hl 1 rfl) ?_
  obtain ⟨hPc, hDc, hFc⟩ := nv_sub3 (wc := [(h0, .inr (11, [.ref h2, .ref h3, .ref h4, .ref h5, .ref h6, .int x1, .int x2])), (h6, .inr (8, [.ref h7, .ref h3, .int x3, .int x4, .int x5]))]) hP hD hS hA [0, 1] (by decide) rfl
  have hKc := hK.sub (tys' := []) [] rfl
  refine vx_calli (vx_runV (As := [.int x0]) (rest := [.int 0, .ref h1]) ⟨hx, hb, hml, hown, hG⟩ (cX11_octet_3 l hst dC dI adK adV h0 h2 h3 h4 h5 h6 h7 s.heap.size x0 x1 x2 x3 x4 x5 ix0 ix1 ix3 q0) (cwV 1 hG (gV wd_1241 wd_1242 wd_1243 wd_1 wd_1244) rfl rfl rfl (by decide +kernel) ⟨Nat.le_of_ble_eq_true rfl, Nat.le_of_ble_eq_true rfl⟩) ⟨fun a U g mk q => by obtain ⟨q0, q1, qP, qK, qD, qE⟩ := q; exact ⟨q0, q1, qP, va_K.moved (u := U) (U := U.calling g mk a) (Vm.Alike.refl U.vm) qK, qD, qE.same rfl⟩, va_recv hKc hPc (ci := 11) (q0 := 0) rfl rfl, fun U hU hW => ⟨rfl, by rw [hU], by rw [hU]; exact hPc, va_K.moved hW.alike hKc, hDc.weaken (fun _ _ _ _ => trivial), by rw [hU]; exact ((hE.kept hS.2.1).narrow hFc).warm hW⟩⟩ rfl rfl hl.1 rfl (lv_room (Nat.le_of_ble_eq_true rfl)) dL_octet_4 ⟨by decide, by decide⟩) hS (fun q _ h => hFc q h) hFc (fun q _ h => hFc q h) (fun E9 ce q1 u9 t H1 locs ht hvm hpx hB hz1 hk1 hS hce hcv hcl => ?_) (fun r u t H1 locs ht hvm hw hB hz1 hk1 hS => hw.elim)
  obtain ⟨rfl, hP1, hK1, hD1⟩ := hB
  rw [ht] at hP1
  have hK1 := va_K.moved hvm.symm hK1
  obtain ⟨hP, hD⟩ := nv_join (wf := [(h0, .inr (11, [.ref h2, .ref h3, .ref h4, .ref h5, .ref h6, .int x1, .int x2])), (h6, .inr (8, [.ref h7, .ref h3, .int x3, .int x4, .int x5]))]) hP hD [0, 1] [] rfl rfl (by decide) (by decide) hk1 hFc hP1 hD1 rfl
  have hK := (hK.sub (tys' := []) [] rfl).app hK1
  generalize H1 = H at hP hS hce ⊢
  have hK : va_K (dC, dI) vwCl [] s := hK
  refine vx_widen (k := 1) (n := 6) (by decide) (by decide) ?_
  refine vx_catch (name := "java/util/NoSuchElementException") hown [] { startPc := 0, endPc := 9, handlerPc := 12, catchType := 38 } [] (by rw [htab]; rfl) (fun z hz => nomatch hz) (by decide) (by decide) (hG _ wd_1240) (evC2 hE) hce hcv hcl ?_
  refine lv_astore_n (lv' := [(3, .ref q1), (0, .ref h0), (1, .int x0), (2, .ref h1)]) hx hb dL_octet_12 rfl hl (by decide) rfl (fun ls hl => ?_)
  refine lv_iconst (v := 1) hx hb dL_octet_13 (by decide) ?_
  rw [hQ]
  obtain ⟨hP9, hD9⟩ := nv_sub2 (wc := [(h0, .inr (11, [.ref h2, .ref h3, .ref h4, .ref h5, .ref h6, .int x1, .int x2])), (h6, .inr (8, [.ref h7, .ref h3, .int x3, .int x4, .int x5]))]) hP hD [0, 1] (by decide) rfl
  have hK9 := hK.sub (tys' := []) [] rfl
  refine W.widen (k := 1) (n := 6) (by decide) (by decide) ?_
  exact W.iret (v := 1) hx hb hr (fun t ht hW => ⟨⟨1, (), rfl, ⟨rfl, trivial⟩, by rw [ht]; exact hP9, va_K.moved hW.alike hK9, hD9⟩, hS.F ht⟩) hS.2.2 dL_octet_14
