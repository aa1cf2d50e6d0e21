set_option maxHeartbeats 100000000 in
set_option maxRecDepth 100000 in
theorem cX9_fastBeat_1 (l : Launch) (dC : Nat → ClassId) (dI : Nat → Nat → Nat) (h0 h1 h2 : Nat) (y0 y1 : ClassId) (sz : Nat) (x0 x1 x2 x3 : Int32) (f0 f1 : Nat → Int32) (ix3 : iv x3 0 1) : Met l yX9_fastBeat (Cond.code yX9_fastBeat cX9_fastBeat 1 none :: lw_G) ({ frames := 3, cells := 0, slots := 0, locals := 62 }) (va_Pc [.ref h0] (fun U => U.heap.size = sz ∧ va_P (dC, dI) vwCl [(h0, .inr (9, [.ref h1, .ref h2, .int x0, .int x1, .int x2, .int x3])), (h2, .inl (y0, 3, .inl f0)), (h1, .inl (y1, 3, .inl f1))] U.heap ∧ va_K (dC, dI) vwCl [(y0, .int), (y1, .int)] U ∧ va_D (fun _ => True) [(h0, .inr (9, [.ref h1, .ref h2, .int x0, .int x1, .int x2, .int x3])), (h2, .inl (y0, 3, .inl f0)), (h1, .inl (y1, 3, .inl f1))])) (va_Qv (fun (u : Int32 × Int32 × Int32 × Int32 × (Nat → Int32)) => iv u.2.2.2.1 0 1 ∧ True) (fun (u : Int32 × Int32 × Int32 × Int32 × (Nat → Int32)) (t : State) => va_P (dC, dI) vwCl [(h0, .inr (9, [.ref h1, .ref h2, .int u.1, .int u.2.1, .int u.2.2.1, .int u.2.2.2.1])), (h2, .inl (y0, 3, .inl f0)), (h1, .inl (y1, 3, .inl u.2.2.2.2))] t.heap ∧ va_K (dC, dI) vwCl [(y0, .int), (y1, .int)] t ∧ va_D (va_A [(h0, .inr (9, [.ref h1, .ref h2, .int x0, .int x1, .int x2, .int x3])), (h2, .inl (y0, 3, .inl f0)), (h1, .inl (y1, 3, .inl f1))] sz) [(h0, .inr (9, [.ref h1, .ref h2, .int u.1, .int u.2.1, .int u.2.2.1, .int u.2.2.2.1])), (h2, .inl (y0, 3, .inl f0)), (h1, .inl (y1, 3, .inl u.2.2.2.2))]) (va_A [(h0, .inr (9, [.ref h1, .ref h2, .int x0, .int x1, .int x2, .int x3])), (h2, .inl (y0, 3, .inl f0)), (h1, .inl (y1, 3, .inl f1))] sz)) 0 0 (va_A [(h0, .inr (9, [.ref h1, .ref h2, .int x0, .int x1, .int x2, .int x3])), (h2, .inl (y0, 3, .inl f0)), (h1, .inl (y1, 3, .inl f1))] sz) := by
  refine Met.ofW (cc := cX9_fastBeat) (maxL := 1) (ret := none) (by decide) rfl ?_
  intro p e s m args below meth c s₁ B hml hv
  obtain ⟨rfl, hsz, hP, hK, hD0⟩ := hv
  have hx := B.exec
  have hb := B.bytes
  have hr := B.returns
  have hts0 := atoms_spec (ws := Cond.code yX9_fastBeat cX9_fastBeat 1 none :: lw_G) B.pre
  have hG : ∀ w ∈ lw_G, w.before _ s = true := fun w h => hts0 w (List.mem_cons_of_mem _ h)
  have hown : s.vm.findClass RX9 = some m.cls := findClass_of_methodNamed B.named
  have hlocks := B.notSynchronized
  subst hsz
  have hD := hD0.self (sz := s.heap.size)
  generalize hAe : va_A [(h0, .inr (9, [.ref h1, .ref h2, .int x0, .int x1, .int x2, .int x3])), (h2, .inl (y0, 3, .inl f0)), (h1, .inl (y1, 3, .inl f1))] s.heap.size = A at hD ⊢
  have hA : ∀ q : Nat, s.heap.size ≤ q → A q := fun q h => by rw [← hAe]; exact Or.inr h
  have hS : va_S A s.heap s.heap [] := va_S.rf
  have hP : va_P (dC, dI) vwCl [(h0, .inr (9, [.ref h1, .ref h2, .int x0, .int x1, .int x2, .int x3])), (h2, .inl (y0, 3, .inl f0)), (h1, .inl (y1, 3, .inl f1))] s.heap := hP
  have hl := lv_entry ([.ref h0]) (n := 1) (Nat.le_of_ble_eq_true rfl)
  rw [lg_entry_eq]
  generalize (lg_sl ([.ref h0]) ++ List.replicate (1 - (lg_sl ([.ref h0])).length) Slot.unset).toArray = ls at hl ⊢
  have hl : lv_has ls 1 [(0, .ref h0)] := hl
  generalize ([.ref h0] : List Value).toArray = ar at hG ⊢
  refine wq (fun Q hQ => ?_)
  refine lv_aload_n hx hb dX9_fastBeat_0 rfl (lv_at hl 0 rfl) ?_
  refine va_get (D := (dC, dI)) (ci := 9) (v := .int x0) (C := RX9) (T := TX9) (N := 6) hx hb hG inGX9 hown hK hP 0 rfl rfl 2 (by decide) (hG _ wd_97) (fun _ h9 => h9) rfl dX9_fastBeat_1 ?_
  refine lv_bipush (v := 8) hx hb dX9_fastBeat_4 (by decide) ?_
  refine lv_ishr hx hb dX9_fastBeat_6 ?_
  refine lv_topi (fun v1 ev1 => ?_)
  have iv1 : iv v1 (-8388608) 8388607 := iv_eq ev1 (iv_shr 8 (by decide) (iv_any x0) (by decide) (by decide))
  refine lv_iconst (v := 3) hx hb dX9_fastBeat_7 (by decide) ?_
  refine lv_iand hx hb dX9_fastBeat_8 ?_
  refine lv_topi (fun v2 ev2 => ?_)
  have iv2 : iv v2 0 3 := iv_eq ev2 (iv_and (x := v1) (iv_w (by decide : iv 3 3 3) (by decide) (by decide) : iv 3 0 3))
  refine lv_iconst (v := 2) hx hb dX9_fastBeat_9 (by decide) ?_
  refine jcut (a := ∀ (b6 : Int32) (b7 : Int32) (b8 : Int32) (b9 : Int32) (b10 : Nat → Int32) (ib9 : iv b9 0 1) (H : Heap) (locs : List Loc) (hK : va_K (dC, dI) vwCl [(y0, .int), (y1, .int)] s) (hP : va_P (dC, dI) vwCl [(h0, .inr (9, [.ref h1, .ref h2, .int b6, .int b7, .int b8, .int b9])), (h2, .inl (y0, 3, .inl f0)), (h1, .inl (y1, 3, .inl b10))] H) (hD : va_D A [(h0, .inr (9, [.ref h1, .ref h2, .int b6, .int b7, .int b8, .int b9])), (h2, .inl (y0, 3, .inl f0)), (h1, .inl (y1, 3, .inl b10))]) (hS : va_S A s.heap H locs) (ls : Array Slot) (hl : lv_has ls 1 []), W p l e (headSpec (Cond.code yX9_fastBeat cX9_fastBeat 1 none :: lw_G) ({ frames := 3, cells := 0, slots := 0, locals := 62 })).room s m ar below meth c H locs 0 0 Q (F0 m 17 ls [])) ?_ (fun j11 => ?_)
  · skip
    intro b6 b7 b8 b9 b10 ib9 H locs hK hP hD hS ls hl
    rw [hQ]
    obtain ⟨hP9, hD9⟩ := nv_sub2 (wc := [(h0, .inr (9, [.ref h1, .ref h2, .int b6, .int b7, .int b8, .int b9])), (h2, .inl (y0, 3, .inl f0)), (h1, .inl (y1, 3, .inl b10))]) hP hD [0, 1, 2] (by decide) rfl
    have hK9 := hK.sub (tys' := [(y0, .int), (y1, .int)]) [0, 1] rfl
    exact W.vret hx hb hr (fun t ht hW => ⟨⟨(b6, b7, b8, b9, b10), rfl, ⟨iv_w ib9 (by decide) (by decide), trivial⟩, by rw [ht]; exact hP9, va_K.moved hW.alike hK9, hD9⟩, hS.F ht⟩) hS.2.2 dX9_fastBeat_17
  refine lv_icmp_ne (tgt := 17) hx hb dX9_fastBeat_10 (by decide) (fun c3 => ?_) (fun c3 => ?_)
  · skip
    exact j11 x0 x1 x2 x3 f1 ix3 _ _ hK hP hD hS ls (lv_sub hl [] rfl)
  · skip
    subst c3
    refine lv_aload_n hx hb dX9_fastBeat_13 rfl (lv_at hl 0 rfl) ?_
    obtain ⟨hPc, hDc, hFc⟩ := nv_sub3 (wc := [(h0, .inr (9, [.ref h1, .ref h2, .int x0, .int x1, .int x2, .int x3])), (h2, .inl (y0, 3, .inl f0)), (h1, .inl (y1, 3, .inl f1))]) hP hD hS hA [0, 1, 2] (by decide) rfl
    have hKc := hK.sub (tys' := [(y0, .int), (y1, .int)]) [0, 1] rfl
    refine va_callv (va_runV (As := []) (rest := []) ⟨hx, hb, hml, hown, hG⟩ (cX9_beat_1 l dC dI h0 h1 h2 y0 y1 s.heap.size x0 x1 x2 x3 f0 f1 ix3) (cwV 0 hG (gV wd_1093 wd_1095 wp_51 wd_5 wd_1096) rfl rfl rfl (by decide +kernel) ⟨Nat.le_of_ble_eq_true rfl, Nat.le_of_ble_eq_true rfl⟩) ⟨fun a U g mk q => by obtain ⟨q0, q1, qP, qK, qD⟩ := q; exact ⟨q0, q1, qP, va_K.moved (u := U) (U := U.calling g mk a) (Vm.Alike.refl U.vm) qK, qD⟩, va_recv hKc hPc (ci := 9) (q0 := 0) rfl rfl, fun U hU hW => ⟨rfl, by rw [hU], by rw [hU]; exact hPc, va_K.moved hW.alike hKc, hDc.weaken (fun _ _ _ _ => trivial)⟩⟩ rfl rfl hl.1 rfl (lv_room (Nat.le_of_ble_eq_true rfl)) dX9_fastBeat_14 ⟨by decide, by decide⟩) hS (fun q _ h => hFc q h) hFc (fun u13 t H1 locs ht hvm hw hB hz1 hk1 hS => ?_)
    obtain ⟨u13_0, u13_1, u13_2, u13_3, u13_4⟩ := u13
    have hw : iv u13_2 (-2147483648) 2147483646 ∧ iv u13_3 0 1 ∧ True := hw
    obtain ⟨iu13_2, iu13_3, -⟩ := hw
    obtain ⟨hP1, hK1, hD1⟩ := hB
    rw [ht] at hP1
    have hK1 := va_K.moved hvm.symm hK1
    obtain ⟨hP, hD⟩ := nv_join (wf := [(h0, .inr (9, [.ref h1, .ref h2, .int u13_0, .int u13_1, .int u13_2, .int u13_3])), (h2, .inl (y0, 3, .inl f0)), (h1, .inl (y1, 3, .inl u13_4))]) hP hD [0, 1, 2] [] rfl rfl (by decide) (by decide) hk1 hFc hP1 hD1 rfl
    have hK := (hK.sub (tys' := []) [] rfl).app hK1
    generalize H1 = H at hP hS ⊢
    have hK : va_K (dC, dI) vwCl [(y0, .int), (y1, .int)] s := hK
    exact j11 u13_0 u13_1 u13_2 u13_3 u13_4 iu13_3 _ _ hK hP hD hS ls (lv_sub hl [] rfl)
set_option maxHeartbeats 100000000 in
set_option maxRecDepth 100000 in
theorem cX9_slowBeat_1 (l : Launch) (dC : Nat → ClassId) (dI : Nat → Nat → Nat) (h0 h1 h2 : Nat) (y0 y1 : ClassId) (sz : Nat) (x0 x1 x2 x3 : Int32) (f0 f1 : Nat → Int32) (ix3 : iv x3 0 1) : Met l yX9_slowBeat (Cond.code yX9_slowBeat cX9_slowBeat 1 none :: lw_G) ({ frames := 3, cells := 0, slots := 0, locals := 62 }) (va_Pc [.ref h0] (fun U => U.heap.size = sz ∧ va_P (dC, dI) vwCl [(h0, .inr (9, [.ref h1, .ref h2, .int x0, .int x1, .int x2, .int x3])), (h2, .inl (y0, 3, .inl f0)), (h1, .inl (y1, 3, .inl f1))] U.heap ∧ va_K (dC, dI) vwCl [(y0, .int), (y1, .int)] U ∧ va_D (fun _ => True) [(h0, .inr (9, [.ref h1, .ref h2, .int x0, .int x1, .int x2, .int x3])), (h2, .inl (y0, 3, .inl f0)), (h1, .inl (y1, 3, .inl f1))])) (va_Qv (fun (u : Int32 × Int32 × Int32 × Int32 × (Nat → Int32)) => iv u.2.2.2.1 0 1 ∧ True) (fun (u : Int32 × Int32 × Int32 × Int32 × (Nat → Int32)) (t : State) => va_P (dC, dI) vwCl [(h0, .inr (9, [.ref h1, .ref h2, .int u.1, .int u.2.1, .int u.2.2.1, .int u.2.2.2.1])), (h2, .inl (y0, 3, .inl f0)), (h1, .inl (y1, 3, .inl u.2.2.2.2))] t.heap ∧ va_K (dC, dI) vwCl [(y0, .int), (y1, .int)] t ∧ va_D (va_A [(h0, .inr (9, [.ref h1, .ref h2, .int x0, .int x1, .int x2, .int x3])), (h2, .inl (y0, 3, .inl f0)), (h1, .inl (y1, 3, .inl f1))] sz) [(h0, .inr (9, [.ref h1, .ref h2, .int u.1, .int u.2.1, .int u.2.2.1, .int u.2.2.2.1])), (h2, .inl (y0, 3, .inl f0)), (h1, .inl (y1, 3, .inl u.2.2.2.2))]) (va_A [(h0, .inr (9, [.ref h1, .ref h2, .int x0, .int x1, .int x2, .int x3])), (h2, .inl (y0, 3, .inl f0)), (h1, .inl (y1, 3, .inl f1))] sz)) 0 0 (va_A [(h0, .inr (9, [.ref h1, .ref h2, .int x0, .int x1, .int x2, .int x3])), (h2, .inl (y0, 3, .inl f0)), (h1, .inl (y1, 3, .inl f1))] sz) := by
  refine Met.ofW (cc := cX9_slowBeat) (maxL := 1) (ret := none) (by decide) rfl ?_
  intro p e s m args below meth c s₁ B hml hv
  obtain ⟨rfl, hsz, hP, hK, hD0⟩ := hv
  have hx := B.exec
  have hb := B.bytes
  have hr := B.returns
  have hts0 := atoms_spec (ws := Cond.code yX9_slowBeat cX9_slowBeat 1 none :: lw_G) B.pre
  have hG : ∀ w ∈ lw_G, w.before _ s = true := fun w h => hts0 w (List.mem_cons_of_mem _ h)
  have hown : s.vm.findClass RX9 = some m.cls := findClass_of_methodNamed B.named
  have hlocks := B.notSynchronized
  subst hsz
  have hD := hD0.self (sz := s.heap.size)
  generalize hAe : va_A [(h0, .inr (9, [.ref h1, .ref h2, .int x0, .int x1, .int x2, .int x3])), (h2, .inl (y0, 3, .inl f0)), (h1, .inl (y1, 3, .inl f1))] s.heap.size = A at hD ⊢
  have hA : ∀ q : Nat, s.heap.size ≤ q → A q := fun q h => by rw [← hAe]; exact Or.inr h
  have hS : va_S A s.heap s.heap [] := va_S.rf
  have hP : va_P (dC, dI) vwCl [(h0, .inr (9, [.ref h1, .ref h2, .int x0, .int x1, .int x2, .int x3])), (h2, .inl (y0, 3, .inl f0)), (h1, .inl (y1, 3, .inl f1))] s.heap := hP
  have hl := lv_entry ([.ref h0]) (n := 1) (Nat.le_of_ble_eq_true rfl)
  rw [lg_entry_eq]
  generalize (lg_sl ([.ref h0]) ++ List.replicate (1 - (lg_sl ([.ref h0])).length) Slot.unset).toArray = ls at hl ⊢
  have hl : lv_has ls 1 [(0, .ref h0)] := hl
  generalize ([.ref h0] : List Value).toArray = ar at hG ⊢
  refine wq (fun Q hQ => ?_)
  refine lv_aload_n hx hb dX9_slowBeat_0 rfl (lv_at hl 0 rfl) ?_
  refine va_get (D := (dC, dI)) (ci := 9) (v := .int x0) (C := RX9) (T := TX9) (N := 6) hx hb hG inGX9 hown hK hP 0 rfl rfl 2 (by decide) (hG _ wd_97) (fun _ h9 => h9) rfl dX9_slowBeat_1 ?_
  refine lv_bipush (v := 8) hx hb dX9_slowBeat_4 (by decide) ?_
  refine lv_ishr hx hb dX9_slowBeat_6 ?_
  refine lv_topi (fun v1 ev1 => ?_)
  have iv1 : iv v1 (-8388608) 8388607 := iv_eq ev1 (iv_shr 8 (by decide) (iv_any x0) (by decide) (by decide))
  refine lv_iconst (v := 3) hx hb dX9_slowBeat_7 (by decide) ?_
  refine lv_iand hx hb dX9_slowBeat_8 ?_
  refine lv_topi (fun v2 ev2 => ?_)
  have iv2 : iv v2 0 3 := iv_eq ev2 (iv_and (x := v1) (iv_w (by decide : iv 3 3 3) (by decide) (by decide) : iv 3 0 3))
  refine lv_iconst (v := 1) hx hb dX9_slowBeat_9 (by decide) ?_
  refine jcut (a := ∀ (b6 : Int32) (b7 : Int32) (b8 : Int32) (b9 : Int32) (b10 : Nat → Int32) (ib9 : iv b9 0 1) (H : Heap) (locs : List Loc) (hK : va_K (dC, dI) vwCl [(y0, .int), (y1, .int)] s) (hP : va_P (dC, dI) vwCl [(h0, .inr (9, [.ref h1, .ref h2, .int b6, .int b7, .int b8, .int b9])), (h2, .inl (y0, 3, .inl f0)), (h1, .inl (y1, 3, .inl b10))] H) (hD : va_D A [(h0, .inr (9, [.ref h1, .ref h2, .int b6, .int b7, .int b8, .int b9])), (h2, .inl (y0, 3, .inl f0)), (h1, .inl (y1, 3, .inl b10))]) (hS : va_S A s.heap H locs) (ls : Array Slot) (hl : lv_has ls 1 []), W p l e (headSpec (Cond.code yX9_slowBeat cX9_slowBeat 1 none :: lw_G) ({ frames := 3, cells := 0, slots := 0, locals := 62 })).room s m ar below meth c H locs 0 0 Q (F0 m 17 ls [])) ?_ (fun j11 => ?_)
  · skip
    intro b6 b7 b8 b9 b10 ib9 H locs hK hP hD hS ls hl
    rw [hQ]
    obtain ⟨hP9, hD9⟩ := nv_sub2 (wc := [(h0, .inr (9, [.ref h1, .ref h2, .int b6, .int b7, .int b8, .int b9])), (h2, .inl (y0, 3, .inl f0)), (h1, .inl (y1, 3, .inl b10))]) hP hD [0, 1, 2] (by decide) rfl
    have hK9 := hK.sub (tys' := [(y0, .int), (y1, .int)]) [0, 1] rfl
    exact W.vret hx hb hr (fun t ht hW => ⟨⟨(b6, b7, b8, b9, b10), rfl, ⟨iv_w ib9 (by decide) (by decide), trivial⟩, by rw [ht]; exact hP9, va_K.moved hW.alike hK9, hD9⟩, hS.F ht⟩) hS.2.2 dX9_slowBeat_17
  refine lv_icmp_ne (tgt := 17) hx hb dX9_slowBeat_10 (by decide) (fun c3 => ?_) (fun c3 => ?_)
  · skip
    exact j11 x0 x1 x2 x3 f1 ix3 _ _ hK hP hD hS ls (lv_sub hl [] rfl)
  · skip
    subst c3
    refine lv_aload_n hx hb dX9_slowBeat_13 rfl (lv_at hl 0 rfl) ?_
    obtain ⟨hPc, hDc, hFc⟩ := nv_sub3 (wc := [(h0, .inr (9, [.ref h1, .ref h2, .int x0, .int x1, .int x2, .int x3])), (h2, .inl (y0, 3, .inl f0)), (h1, .inl (y1, 3, .inl f1))]) hP hD hS hA [0, 1, 2] (by decide) rfl
    have hKc := hK.sub (tys' := [(y0, .int), (y1, .int)]) [0, 1] rfl
    refine va_callv (va_runV (As := []) (rest := []) ⟨hx, hb, hml, hown, hG⟩ (cX9_beat_1 l dC dI h0 h1 h2 y0 y1 s.heap.size x0 x1 x2 x3 f0 f1 ix3) (cwV 0 hG (gV wd_1093 wd_1095 wp_51 wd_5 wd_1096) rfl rfl rfl (by decide +kernel) ⟨Nat.le_of_ble_eq_true rfl, Nat.le_of_ble_eq_true rfl⟩) ⟨fun a U g mk q => by obtain ⟨q0, q1, qP, qK, qD⟩ := q; exact ⟨q0, q1, qP, va_K.moved (u := U) (U := U.calling g mk a) (Vm.Alike.refl U.vm) qK, qD⟩, va_recv hKc hPc (ci := 9) (q0 := 0) rfl rfl, fun U hU hW => ⟨rfl, by rw [hU], by rw [hU]; exact hPc, va_K.moved hW.alike hKc, hDc.weaken (fun _ _ _ _ => trivial)⟩⟩ rfl rfl hl.1 rfl (lv_room (Nat.le_of_ble_eq_true rfl)) dX9_slowBeat_14 ⟨by decide, by decide⟩) hS (fun q _ h => hFc q h) hFc (fun u13 t H1 locs ht hvm hw hB hz1 hk1 hS => ?_)
    obtain ⟨u13_0, u13_1, u13_2, u13_3, u13_4⟩ := u13
    have hw : iv u13_2 (-2147483648) 2147483646 ∧ iv u13_3 0 1 ∧ True := hw
    obtain ⟨iu13_2, iu13_3, -⟩ := hw
    obtain ⟨hP1, hK1, hD1⟩ := hB
    rw [ht] at hP1
    have hK1 := va_K.moved hvm.symm hK1
    obtain ⟨hP, hD⟩ := nv_join (wf := [(h0, .inr (9, [.ref h1, .ref h2, .int u13_0, .int u13_1, .int u13_2, .int u13_3])), (h2, .inl (y0, 3, .inl f0)), (h1, .inl (y1, 3, .inl u13_4))]) hP hD [0, 1, 2] [] rfl rfl (by decide) (by decide) hk1 hFc hP1 hD1 rfl
    have hK := (hK.sub (tys' := []) [] rfl).app hK1
    generalize H1 = H at hP hS ⊢
    have hK : va_K (dC, dI) vwCl [(y0, .int), (y1, .int)] s := hK
    exact j11 u13_0 u13_1 u13_2 u13_3 u13_4 iu13_3 _ _ hK hP hD hS ls (lv_sub hl [] rfl)
set_option maxHeartbeats 100000000 in
set_option maxRecDepth 100000 in
theorem cX2_passTime_1 (l : Launch) (dC : Nat → ClassId) (dI : Nat → Nat → Nat) (h0 h1 h2 h3 h4 h5 h6 h7 h8 h9 : Nat) (y0 y1 y2 : ClassId) (sz : Nat) (x0 x1 x2 x3 x4 x5 x6 x7 x8 x9 : Int32) (f0 f1 f2 : Nat → Int32) (ix0 : iv x0 0 10) (ix5 : iv x5 0 1) (ix9 : iv x9 0 1) : Met l yX2_passTime (Cond.code yX2_passTime cX2_passTime 5 none :: lw_G) ({ frames := 4, cells := 0, slots := 0, locals := 82 }) (va_Pc [.ref h0, .int x0] (fun U => U.heap.size = sz ∧ va_P (dC, dI) vwCl [(h0, .inr (2, [.ref h1, .ref h2, .ref h3, .int x1, .int x2, .int x3, .int x4, .int x5])), (h1, .inl (y0, 16, .inl f0)), (h3, .inr (1, [.ref h4, .ref h5, .ref h6, .ref h7])), (h7, .inr (9, [.ref h8, .ref h9, .int x6, .int x7, .int x8, .int x9])), (h9, .inl (y1, 3, .inl f1)), (h8, .inl (y2, 3, .inl f2))] U.heap ∧ va_K (dC, dI) vwCl [(y0, .int), (y1, .int), (y2, .int)] U ∧ va_D (fun _ => True) [(h0, .inr (2, [.ref h1, .ref h2, .ref h3, .int x1, .int x2, .int x3, .int x4, .int x5])), (h1, .inl (y0, 16, .inl f0)), (h3, .inr (1, [.ref h4, .ref h5, .ref h6, .ref h7])), (h7, .inr (9, [.ref h8, .ref h9, .int x6, .int x7, .int x8, .int x9])), (h9, .inl (y1, 3, .inl f1)), (h8, .inl (y2, 3, .inl f2))])) (va_Qv (fun (u : Int32 × Int32 × Int32 × Int32 × Int32 × (Nat → Int32)) => iv u.2.2.2.2.1 0 1 ∧ True) (fun (u : Int32 × Int32 × Int32 × Int32 × Int32 × (Nat → Int32)) (t : State) => va_P (dC, dI) vwCl [(h0, .inr (2, [.ref h1, .ref h2, .ref h3, .int u.1, .int x2, .int x3, .int x4, .int x5])), (h1, .inl (y0, 16, .inl f0)), (h3, .inr (1, [.ref h4, .ref h5, .ref h6, .ref h7])), (h7, .inr (9, [.ref h8, .ref h9, .int u.2.1, .int u.2.2.1, .int u.2.2.2.1, .int u.2.2.2.2.1])), (h9, .inl (y1, 3, .inl f1)), (h8, .inl (y2, 3, .inl u.2.2.2.2.2))] t.heap ∧ va_K (dC, dI) vwCl [(y0, .int), (y1, .int), (y2, .int)] t ∧ va_D (va_A [(h0, .inr (2, [.ref h1, .ref h2, .ref h3, .int x1, .int x2, .int x3, .int x4, .int x5])), (h1, .inl (y0, 16, .inl f0)), (h3, .inr (1, [.ref h4, .ref h5, .ref h6, .ref h7])), (h7, .inr (9, [.ref h8, .ref h9, .int x6, .int x7, .int x8, .int x9])), (h9, .inl (y1, 3, .inl f1)), (h8, .inl (y2, 3, .inl f2))] sz) [(h0, .inr (2, [.ref h1, .ref h2, .ref h3, .int u.1, .int x2, .int x3, .int x4, .int x5])), (h1, .inl (y0, 16, .inl f0)), (h3, .inr (1, [.ref h4, .ref h5, .ref h6, .ref h7])), (h7, .inr (9, [.ref h8, .ref h9, .int u.2.1, .int u.2.2.1, .int u.2.2.2.1, .int u.2.2.2.2.1])), (h9, .inl (y1, 3, .inl f1)), (h8, .inl (y2, 3, .inl u.2.2.2.2.2))]) (va_A [(h0, .inr (2, [.ref h1, .ref h2, .ref h3, .int x1, .int x2, .int x3, .int x4, .int x5])), (h1, .inl (y0, 16, .inl f0)), (h3, .inr (1, [.ref h4, .ref h5, .ref h6, .ref h7])), (h7, .inr (9, [.ref h8, .ref h9, .int x6, .int x7, .int x8, .int x9])), (h9, .inl (y1, 3, .inl f1)), (h8, .inl (y2, 3, .inl f2))] sz)) 0 0 (va_A [(h0, .inr (2, [.ref h1, .ref h2, .ref h3, .int x1, .int x2, .int x3, .int x4, .int x5])), (h1, .inl (y0, 16, .inl f0)), (h3, .inr (1, [.ref h4, .ref h5, .ref h6, .ref h7])), (h7, .inr (9, [.ref h8, .ref h9, .int x6, .int x7, .int x8, .int x9])), (h9, .inl (y1, 3, .inl f1)), (h8, .inl (y2, 3, .inl f2))] sz) := by
  refine Met.ofW (cc := cX2_passTime) (maxL := 5) (ret := none) (by decide) rfl ?_
  intro p e s m args below meth c s₁ B hml hv
  obtain ⟨rfl, hsz, hP, hK, hD0⟩ := hv
  have hx := B.exec
  have hb := B.bytes
  have hr := B.returns
  have hts0 := atoms_spec (ws := Cond.code yX2_passTime cX2_passTime 5 none :: lw_G) B.pre
  have hG : ∀ w ∈ lw_G, w.before _ s = true := fun w h => hts0 w (List.mem_cons_of_mem _ h)
  have hown : s.vm.findClass RX2 = some m.cls := findClass_of_methodNamed B.named
  have hlocks := B.notSynchronized
  subst hsz
  have hD := hD0.self (sz := s.heap.size)
  generalize hAe : va_A [(h0, .inr (2, [.ref h1, .ref h2, .ref h3, .int x1, .int x2, .int x3, .int x4, .int x5])), (h1, .inl (y0, 16, .inl f0)), (h3, .inr (1, [.ref h4, .ref h5, .ref h6, .ref h7])), (h7, .inr (9, [.ref h8, .ref h9, .int x6, .int x7, .int x8, .int x9])), (h9, .inl (y1, 3, .inl f1)), (h8, .inl (y2, 3, .inl f2))] s.heap.size = A at hD ⊢
  have hA : ∀ q : Nat, s.heap.size ≤ q → A q := fun q h => by rw [← hAe]; exact Or.inr h
  have hS : va_S A s.heap s.heap [] := va_S.rf
  have hP : va_P (dC, dI) vwCl [(h0, .inr (2, [.ref h1, .ref h2, .ref h3, .int x1, .int x2, .int x3, .int x4, .int x5])), (h1, .inl (y0, 16, .inl f0)), (h3, .inr (1, [.ref h4, .ref h5, .ref h6, .ref h7])), (h7, .inr (9, [.ref h8, .ref h9, .int x6, .int x7, .int x8, .int x9])), (h9, .inl (y1, 3, .inl f1)), (h8, .inl (y2, 3, .inl f2))] s.heap := hP
  have hl := lv_entry ([.ref h0, .int x0]) (n := 5) (Nat.le_of_ble_eq_true rfl)
  rw [lg_entry_eq]
  generalize (lg_sl ([.ref h0, .int x0]) ++ List.replicate (5 - (lg_sl ([.ref h0, .int x0])).length) Slot.unset).toArray = ls at hl ⊢
  have hl : lv_has ls 5 [(0, .ref h0), (1, .int x0)] := hl
  generalize ([.ref h0, .int x0] : List Value).toArray = ar at hG ⊢
  refine wq (fun Q hQ => ?_)
  refine lv_aload_n hx hb dX2_passTime_0 rfl (lv_at hl 0 rfl) ?_
  refine va_get (D := (dC, dI)) (ci := 2) (v := .ref h1) (C := RX2) (T := TX2) (N := 8) hx hb hG inGX2 hown hK hP 0 rfl rfl 0 (by decide) (hG _ wd_149) (fun _ h9 => h9) rfl dX2_passTime_1 ?_
  refine lv_iconst (v := 2) hx hb dX2_passTime_4 (by decide) ?_
  refine va_iald hx hb hK hP 1 0 rfl rfl (iv_in (by decide : iv 2 2 2) (by decide) (by decide) : vp_in 2 16) dX2_passTime_5 ?_
  refine lv_topi (fun v1 ev1 => ?_)
  refine lv_bipush (v := 32) hx hb dX2_passTime_6 (by decide) ?_
  refine lv_iand hx hb dX2_passTime_8 ?_
  refine lv_topi (fun v2 ev2 => ?_)
  have iv2 : iv v2 0 32 := iv_eq ev2 (iv_and (x := v1) (iv_w (by decide : iv 32 32 32) (by decide) (by decide) : iv 32 0 32))
  refine jcut (a := ∀ (b5 : Int32) (ib5 : iv b5 0 1) (H : Heap) (locs : List Loc) (hK : va_K (dC, dI) vwCl [(y0, .int), (y1, .int), (y2, .int)] s) (hP : va_P (dC, dI) vwCl [(h0, .inr (2, [.ref h1, .ref h2, .ref h3, .int x1, .int x2, .int x3, .int x4, .int x5])), (h1, .inl (y0, 16, .inl f0)), (h3, .inr (1, [.ref h4, .ref h5, .ref h6, .ref h7])), (h7, .inr (9, [.ref h8, .ref h9, .int x6, .int x7, .int x8, .int x9])), (h9, .inl (y1, 3, .inl f1)), (h8, .inl (y2, 3, .inl f2))] H) (hD : va_D A [(h0, .inr (2, [.ref h1, .ref h2, .ref h3, .int x1, .int x2, .int x3, .int x4, .int x5])), (h1, .inl (y0, 16, .inl f0)), (h3, .inr (1, [.ref h4, .ref h5, .ref h6, .ref h7])), (h7, .inr (9, [.ref h8, .ref h9, .int x6, .int x7, .int x8, .int x9])), (h9, .inl (y1, 3, .inl f1)), (h8, .inl (y2, 3, .inl f2))]) (hS : va_S A s.heap H locs) (ls : Array Slot) (hl : lv_has ls 5 [(0, .ref h0), (1, .int x0)]), W p l e (headSpec (Cond.code yX2_passTime cX2_passTime 5 none :: lw_G) ({ frames := 4, cells := 0, slots := 0, locals := 82 })).room s m ar below meth c H locs 0 0 Q (F0 m 17 ls [.int b5])) ?_ (fun j6 => ?_)
  · skip
    intro b5 ib5 H locs hK hP hD hS ls hl
    refine lv_istore_n (lv' := [(2, .int b5), (0, .ref h0), (1, .int x0)]) hx hb dX2_passTime_17 rfl hl (by decide) rfl (fun ls hl => ?_)
    refine lv_aload_n hx hb dX2_passTime_18 rfl (lv_at hl 1 rfl) ?_
    refine va_get (D := (dC, dI)) (ci := 2) (v := .ref h1) (C := RX2) (T := TX2) (N := 8) hx hb hG inGX2 hown hK hP 0 rfl rfl 0 (by decide) (hG _ wd_149) (fun _ h9 => h9) rfl dX2_passTime_19 ?_
    refine lv_iconst (v := 2) hx hb dX2_passTime_22 (by decide) ?_
    refine va_iald hx hb hK hP 1 0 rfl rfl (iv_in (by decide : iv 2 2 2) (by decide) (by decide) : vp_in 2 16) dX2_passTime_23 ?_
    refine lv_topi (fun v7 ev7 => ?_)
    refine lv_sipush (v := 128) hx hb dX2_passTime_24 (by decide) ?_
    refine lv_iand hx hb dX2_passTime_27 ?_
    refine lv_topi (fun v8 ev8 => ?_)
    have iv8 : iv v8 0 128 := iv_eq ev8 (iv_and (x := v7) (iv_w (by decide : iv 128 128 128) (by decide) (by decide) : iv 128 0 128))
    refine jcut (a := ∀ (b11 : Int32) (ib11 : iv b11 0 1) (H : Heap) (locs : List Loc) (hK : va_K (dC, dI) vwCl [(y0, .int), (y1, .int), (y2, .int)] s) (hP : va_P (dC, dI) vwCl [(h0, .inr (2, [.ref h1, .ref h2, .ref h3, .int x1, .int x2, .int x3, .int x4, .int x5])), (h1, .inl (y0, 16, .inl f0)), (h3, .inr (1, [.ref h4, .ref h5, .ref h6, .ref h7])), (h7, .inr (9, [.ref h8, .ref h9, .int x6, .int x7, .int x8, .int x9])), (h9, .inl (y1, 3, .inl f1)), (h8, .inl (y2, 3, .inl f2))] H) (hD : va_D A [(h0, .inr (2, [.ref h1, .ref h2, .ref h3, .int x1, .int x2, .int x3, .int x4, .int x5])), (h1, .inl (y0, 16, .inl f0)), (h3, .inr (1, [.ref h4, .ref h5, .ref h6, .ref h7])), (h7, .inr (9, [.ref h8, .ref h9, .int x6, .int x7, .int x8, .int x9])), (h9, .inl (y1, 3, .inl f1)), (h8, .inl (y2, 3, .inl f2))]) (hS : va_S A s.heap H locs) (ls : Array Slot) (hl : lv_has ls 5 [(2, .int b5), (0, .ref h0), (1, .int x0)]), W p l e (headSpec (Cond.code yX2_passTime cX2_passTime 5 none :: lw_G) ({ frames := 4, cells := 0, slots := 0, locals := 82 })).room s m ar below meth c H locs 0 0 Q (F0 m 36 ls [.int b11])) ?_ (fun j12 => ?_)
    · skip
      intro b11 ib11 H locs hK hP hD hS ls hl
      refine lv_istore_n (lv' := [(3, .int b11), (2, .int b5), (0, .ref h0), (1, .int x0)]) hx hb dX2_passTime_36 rfl hl (by decide) rfl (fun ls hl => ?_)
      refine lv_iconst (v := 0) hx hb dX2_passTime_37 (by decide) ?_
      refine lv_istore (lv' := [(4, .int 0), (3, .int b11), (2, .int b5), (0, .ref h0), (1, .int x0)]) hx hb dX2_passTime_38 hl (by decide) rfl (fun ls hl => ?_)
      refine jcut (a := ∀ (n : Nat) (b388 : Int32) (b389 : Int32) (b390 : Int32) (b391 : Int32) (b392 : Int32) (b393 : Int32) (b394 : Int32) (b395 : Int32) (b396 : Nat → Int32) (ib388 : iv b388 0 10) (ib389 : iv b389 0 1) (ib390 : iv b390 0 1) (ib395 : iv b395 0 1) (hm : (10 - b388.toInt).toNat < n) (H : Heap) (locs : List Loc) (hK : va_K (dC, dI) vwCl [(y0, .int), (y1, .int), (y2, .int)] s) (hP : va_P (dC, dI) vwCl [(h0, .inr (2, [.ref h1, .ref h2, .ref h3, .int b391, .int x2, .int x3, .int x4, .int x5])), (h1, .inl (y0, 16, .inl f0)), (h3, .inr (1, [.ref h4, .ref h5, .ref h6, .ref h7])), (h7, .inr (9, [.ref h8, .ref h9, .int b392, .int b393, .int b394, .int b395])), (h9, .inl (y1, 3, .inl f1)), (h8, .inl (y2, 3, .inl b396))] H) (hD : va_D A [(h0, .inr (2, [.ref h1, .ref h2, .ref h3, .int b391, .int x2, .int x3, .int x4, .int x5])), (h1, .inl (y0, 16, .inl f0)), (h3, .inr (1, [.ref h4, .ref h5, .ref h6, .ref h7])), (h7, .inr (9, [.ref h8, .ref h9, .int b392, .int b393, .int b394, .int b395])), (h9, .inl (y1, 3, .inl f1)), (h8, .inl (y2, 3, .inl b396))]) (hS : va_S A s.heap H locs) (ls : Array Slot) (hl : lv_has ls 5 [(4, .int b388), (3, .int b389), (2, .int b390), (0, .ref h0), (1, .int x0)]), W p l e (headSpec (Cond.code yX2_passTime cX2_passTime 5 none :: lw_G) ({ frames := 4, cells := 0, slots := 0, locals := 82 })).room s m ar below meth c H locs 0 0 Q (F0 m 40 ls [])) ?_ (fun lp440 => ?_)
      · skip
        intro n
        induction n with
        | zero => intro b388 b389 b390 b391 b392 b393 b394 b395 b396 ib388 ib389 ib390 ib395 hm H locs hK hP hD hS ls hl; exact absurd hm (Nat.not_lt_zero _)
        | succ n ih =>
          intro b388 b389 b390 b391 b392 b393 b394 b395 b396 ib388 ib389 ib390 ib395 hm H locs hK hP hD hS ls hl
          refine lv_iload hx hb dX2_passTime_40 (lv_at hl 0 rfl) ?_
          refine lv_iload_n hx hb dX2_passTime_42 rfl (lv_at hl 4 rfl) ?_
          refine lv_icmp_ge (tgt := 100) hx hb dX2_passTime_43 (by decide) (fun c441 => ?_) (fun c441 => ?_)
          · skip
            have rl475 : x0.toInt ≤ b388.toInt := Int32.le_iff_toInt_le.mp c441
            rw [hQ]
            obtain ⟨hP9, hD9⟩ := nv_sub2 (wc := [(h0, .inr (2, [.ref h1, .ref h2, .ref h3, .int b391, .int x2, .int x3, .int x4, .int x5])), (h1, .inl (y0, 16, .inl f0)), (h3, .inr (1, [.ref h4, .ref h5, .ref h6, .ref h7])), (h7, .inr (9, [.ref h8, .ref h9, .int b392, .int b393, .int b394, .int b395])), (h9, .inl (y1, 3, .inl f1)), (h8, .inl (y2, 3, .inl b396))]) hP hD [0, 1, 2, 3, 4, 5] (by decide) rfl
            have hK9 := hK.sub (tys' := [(y0, .int), (y1, .int), (y2, .int)]) [0, 1, 2] rfl
            exact W.vret hx hb hr (fun t ht hW => ⟨⟨(b391, b392, b393, b394, b395, b396), rfl, ⟨iv_w ib395 (by decide) (by decide), trivial⟩, by rw [ht]; exact hP9, va_K.moved hW.alike hK9, hD9⟩, hS.F ht⟩) hS.2.2 dX2_passTime_100
          · skip
            have rl476 : b388.toInt < x0.toInt := iv_nle2 c441
            have j477 : iv x0 1 10 := iv_nleL ix0 ib388 c441 (by decide)
            have j478 : iv b388 0 9 := iv_nleR ix0 ib388 c441 (by decide)
            refine lv_aload_n hx hb dX2_passTime_46 rfl (lv_at hl 3 rfl) ?_
            refine lv_dup hx hb dX2_passTime_47 rfl ?_
            refine va_get (D := (dC, dI)) (ci := 2) (v := .int b391) (C := RX2) (T := TX2) (N := 8) hx hb hG inGX2 hown hK hP 0 rfl rfl 3 (by decide) (hG _ wd_152) (fun _ h9 => h9) rfl dX2_passTime_48 ?_
            refine lv_iconst (v := 1) hx hb dX2_passTime_51 (by decide) ?_
            refine lv_iadd hx hb dX2_passTime_52 ?_
            refine lv_topi (fun v479 ev479 => ?_)
            refine va_put (D := (dC, dI)) (ci := 2) (v := .int v479) (ty := .int) (C := RX2) (T := TX2) (N := 8) hx hb hG inGX2 tyX2 tyX2_ok nmX2 hown hK hP hD hS 0 rfl rfl 3 (by decide) (hG _ wd_152) (fun _ h9 => h9) rfl (by decide +kernel) rfl rfl (Nat.le_of_ble_eq_true rfl) dX2_passTime_53 (fun H locs hP hD hS => ?_)
            obtain ⟨hP, hD⟩ := nv_eq (ws' := [(h0, .inr (2, [.ref h1, .ref h2, .ref h3, .int v479, .int x2, .int x3, .int x4, .int x5])), (h1, .inl (y0, 16, .inl f0)), (h3, .inr (1, [.ref h4, .ref h5, .ref h6, .ref h7])), (h7, .inr (9, [.ref h8, .ref h9, .int b392, .int b393, .int b394, .int b395])), (h9, .inl (y1, 3, .inl f1)), (h8, .inl (y2, 3, .inl b396))]) hP hD rfl
            refine lv_iload_n hx hb dX2_passTime_56 rfl (lv_at hl 1 rfl) ?_
            refine jcut (a := ∀ (b486 : Int32) (b487 : Int32) (b488 : Int32) (b489 : Int32) (b490 : Int32) (b491 : Nat → Int32) (ib486 : iv b486 0 1) (ib490 : iv b490 0 1) (H : Heap) (locs : List Loc) (hK : va_K (dC, dI) vwCl [(y0, .int), (y1, .int), (y2, .int)] s) (hP : va_P (dC, dI) vwCl [(h0, .inr (2, [.ref h1, .ref h2, .ref h3, .int v479, .int x2, .int x3, .int x4, .int x5])), (h1, .inl (y0, 16, .inl f0)), (h3, .inr (1, [.ref h4, .ref h5, .ref h6, .ref h7])), (h7, .inr (9, [.ref h8, .ref h9, .int b487, .int b488, .int b489, .int b490])), (h9, .inl (y1, 3, .inl f1)), (h8, .inl (y2, 3, .inl b491))] H) (hD : va_D A [(h0, .inr (2, [.ref h1, .ref h2, .ref h3, .int v479, .int x2, .int x3, .int x4, .int x5])), (h1, .inl (y0, 16, .inl f0)), (h3, .inr (1, [.ref h4, .ref h5, .ref h6, .ref h7])), (h7, .inr (9, [.ref h8, .ref h9, .int b487, .int b488, .int b489, .int b490])), (h9, .inl (y1, 3, .inl f1)), (h8, .inl (y2, 3, .inl b491))]) (hS : va_S A s.heap H locs) (ls : Array Slot) (hl : lv_has ls 5 [(4, .int b388), (3, .int b486), (2, .int b390), (0, .ref h0), (1, .int x0)]), W p l e (headSpec (Cond.code yX2_passTime cX2_passTime 5 none :: lw_G) ({ frames := 4, cells := 0, slots := 0, locals := 82 })).room s m ar below meth c H locs 0 0 Q (F0 m 70 ls [])) ?_ (fun j492 => ?_)
            · skip
              intro b486 b487 b488 b489 b490 b491 ib486 ib490 H locs hK hP hD hS ls hl
              refine lv_iload_n hx hb dX2_passTime_70 rfl (lv_at hl 2 rfl) ?_
              refine jcut (a := ∀ (b502 : Int32) (b503 : Int32) (b504 : Int32) (b505 : Int32) (b506 : Int32) (b507 : Nat → Int32) (ib502 : iv b502 0 1) (ib506 : iv b506 0 1) (H : Heap) (locs : List Loc) (hK : va_K (dC, dI) vwCl [(y0, .int), (y1, .int), (y2, .int)] s) (hP : va_P (dC, dI) vwCl [(h0, .inr (2, [.ref h1, .ref h2, .ref h3, .int v479, .int x2, .int x3, .int x4, .int x5])), (h1, .inl (y0, 16, .inl f0)), (h3, .inr (1, [.ref h4, .ref h5, .ref h6, .ref h7])), (h7, .inr (9, [.ref h8, .ref h9, .int b503, .int b504, .int b505, .int b506])), (h9, .inl (y1, 3, .inl f1)), (h8, .inl (y2, 3, .inl b507))] H) (hD : va_D A [(h0, .inr (2, [.ref h1, .ref h2, .ref h3, .int v479, .int x2, .int x3, .int x4, .int x5])), (h1, .inl (y0, 16, .inl f0)), (h3, .inr (1, [.ref h4, .ref h5, .ref h6, .ref h7])), (h7, .inr (9, [.ref h8, .ref h9, .int b503, .int b504, .int b505, .int b506])), (h9, .inl (y1, 3, .inl f1)), (h8, .inl (y2, 3, .inl b507))]) (hS : va_S A s.heap H locs) (ls : Array Slot) (hl : lv_has ls 5 [(4, .int b388), (3, .int b486), (2, .int b502), (0, .ref h0), (1, .int x0)]), W p l e (headSpec (Cond.code yX2_passTime cX2_passTime 5 none :: lw_G) ({ frames := 4, cells := 0, slots := 0, locals := 82 })).room s m ar below meth c H locs 0 0 Q (F0 m 94 ls [])) ?_ (fun j508 => ?_)
              · skip
                intro b502 b503 b504 b505 b506 b507 ib502 ib506 H locs hK hP hD hS ls hl
                obtain ⟨v509, ev509⟩ : ∃ y : Int32, y = b388 + Int32.ofInt 1 := ⟨_, rfl⟩
                have iv509 : iv v509 1 10 := iv_eq ev509 (iv_add j478 (by decide : iv (Int32.ofInt 1) 1 1) (by decide) (by decide))
                have tv509 : v509.toInt = b388.toInt + 1 := iv_addT ev509 j478 (by decide) (by decide) (by decide)
                refine lv_iinc (v := v509) (lv' := [(4, .int v509), (3, .int b486), (2, .int b502), (0, .ref h0), (1, .int x0)]) hx hb dX2_passTime_94 hl (k := 0) rfl ev509.symm (by decide) rfl (fun ls hl => ?_)
                refine lv_goto (tgt := 40) hx hb dX2_passTime_97 (by decide) ?_
                exact ih v509 b486 b502 v479 b503 b504 b505 b506 b507 (iv_w iv509 (by decide) (by decide)) ib486 ib502 ib506 (by omega) _ _ hK hP hD hS ls hl
              refine lv_if_eq (tgt := 94) hx hb dX2_passTime_71 (by decide) (fun c493 => ?_) (fun c493 => ?_)
              · skip
                subst c493
                exact j508 0 b487 b488 b489 b490 b491 (iv_w (by decide : iv 0 0 0) (by decide) (by decide)) ib490 _ _ hK hP hD hS ls hl
              · skip
                have j510 : iv b390 1 1 := iv_neLo ib390 (by decide : iv 0 0 0) c493 (by decide)
                refine lv_aload_n hx hb dX2_passTime_74 rfl (lv_at hl 3 rfl) ?_
                refine va_get (D := (dC, dI)) (ci := 2) (v := .int v479) (C := RX2) (T := TX2) (N := 8) hx hb hG inGX2 hown hK hP 0 rfl rfl 3 (by decide) (hG _ wd_152) (fun _ h9 => h9) rfl dX2_passTime_75 ?_
                refine lv_bipush (v := 15) hx hb dX2_passTime_78 (by decide) ?_
                refine lv_iand hx hb dX2_passTime_80 ?_
                refine lv_topi (fun v511 ev511 => ?_)
                have iv511 : iv v511 0 15 := iv_eq ev511 (iv_and (x := v479) (iv_w (by decide : iv 15 15 15) (by decide) (by decide) : iv 15 0 15))
                refine lv_if_ne (tgt := 94) hx hb dX2_passTime_81 (by decide) (fun c512 => ?_) (fun c512 => ?_)
                · skip
                  have j513 : iv v511 1 15 := iv_neLo iv511 (by decide : iv 0 0 0) c512 (by decide)
                  exact j508 b390 b487 b488 b489 b490 b491 (iv_w j510 (by decide) (by decide)) ib490 _ _ hK hP hD hS ls hl
                · skip
                  subst c512
                  refine lv_aload_n hx hb dX2_passTime_84 rfl (lv_at hl 3 rfl) ?_
                  refine va_get (D := (dC, dI)) (ci := 2) (v := .ref h3) (C := RX2) (T := TX2) (N := 8) hx hb hG inGX2 hown hK hP 0 rfl rfl 2 (by decide) (hG _ wd_151) (fun _ h9 => h9) rfl dX2_passTime_85 ?_
                  obtain ⟨hPc, hDc, hFc⟩ := nv_sub3 (wc := [(h3, .inr (1, [.ref h4, .ref h5, .ref h6, .ref h7]))]) hP hD hS hA [2] (by decide) rfl
                  have hKc := hK.sub (tys' := []) [] rfl
                  refine va_callr (va_runV (As := []) (rest := []) ⟨hx, hb, hml, hown, hG⟩ (cX1_timer_1 l dC dI h3 h4 h5 h6 h7 H.size) (cwV 0 hG (gV wd_973 wd_974 wd_975 wd_2 wd_976) rfl rfl rfl (by decide +kernel) ⟨Nat.le_of_ble_eq_true rfl, Nat.le_of_ble_eq_true rfl⟩) ⟨fun a U g mk q => by obtain ⟨q0, q1, qP, qK, qD⟩ := q; exact ⟨q0, q1, qP, va_K.moved (u := U) (U := U.calling g mk a) (Vm.Alike.refl U.vm) qK, qD⟩, va_recv hKc hPc (ci := 1) (q0 := 0) rfl rfl, fun U hU hW => ⟨rfl, by rw [hU], by rw [hU]; exact hPc, va_K.moved hW.alike hKc, hDc.weaken (fun _ _ _ _ => trivial)⟩⟩ rfl rfl hl.1 rfl (lv_room (Nat.le_of_ble_eq_true rfl)) dX2_passTime_88 ⟨by decide, by decide⟩) hS (fun q _ h => hFc q h) hFc (fun u515 r514a t H1 locs ht hvm hw hB hz1 hk1 hS => ?_)
                  obtain ⟨hra, hP1, hK1, hD1⟩ := hB
                  rw [ht] at hP1
                  have hK1 := va_K.moved hvm.symm hK1
                  obtain ⟨hP, hD⟩ := nv_join (wf := [(h0, .inr (2, [.ref h1, .ref h2, .ref h3, .int v479, .int x2, .int x3, .int x4, .int x5])), (h1, .inl (y0, 16, .inl f0)), (h7, .inr (9, [.ref h8, .ref h9, .int b487, .int b488, .int b489, .int b490])), (h9, .inl (y1, 3, .inl f1)), (h8, .inl (y2, 3, .inl b491)), (h3, .inr (1, [.ref h4, .ref h5, .ref h6, .ref h7]))]) hP hD [2] [0, 1, 3, 4, 5] rfl rfl (by decide) (by decide) hk1 hFc hP1 hD1 rfl
                  have hK := (hK.sub (tys' := [(y0, .int), (y1, .int), (y2, .int)]) [0, 1, 2] rfl).app hK1
                  generalize H1 = H at hP hS ⊢
                  have hK : va_K (dC, dI) vwCl [(y0, .int), (y1, .int), (y2, .int)] s := hK
                  rw [hra]
                  obtain ⟨hPc, hDc, hFc⟩ := nv_sub3 (wc := [(h7, .inr (9, [.ref h8, .ref h9, .int b487, .int b488, .int b489, .int b490])), (h9, .inl (y1, 3, .inl f1)), (h8, .inl (y2, 3, .inl b491))]) hP hD hS hA [2, 3, 4] (by decide) rfl
                  have hKc := hK.sub (tys' := [(y1, .int), (y2, .int)]) [1, 2] rfl
                  refine va_callv (va_runV (As := []) (rest := []) ⟨hx, hb, hml, hown, hG⟩ (cX9_slowBeat_1 l dC dI h7 h8 h9 y1 y2 H.size b487 b488 b489 b490 f1 b491 ib490) (cwV 0 hG (gV wd_1110 wd_1111 wd_1112 wd_5 wd_1113) rfl rfl rfl (by decide +kernel) ⟨Nat.le_of_ble_eq_true rfl, Nat.le_of_ble_eq_true rfl⟩) ⟨fun a U g mk q => by obtain ⟨q0, q1, qP, qK, qD⟩ := q; exact ⟨q0, q1, qP, va_K.moved (u := U) (U := U.calling g mk a) (Vm.Alike.refl U.vm) qK, qD⟩, va_recv hKc hPc (ci := 9) (q0 := 0) rfl rfl, fun U hU hW => ⟨rfl, by rw [hU], by rw [hU]; exact hPc, va_K.moved hW.alike hKc, hDc.weaken (fun _ _ _ _ => trivial)⟩⟩ rfl rfl hl.1 rfl (lv_room (Nat.le_of_ble_eq_true rfl)) dX2_passTime_91 ⟨by decide, by decide⟩) hS (fun q _ h => hFc q h) hFc (fun u517 t H1 locs ht hvm hw hB hz1 hk1 hS => ?_)
                  obtain ⟨u517_0, u517_1, u517_2, u517_3, u517_4⟩ := u517
                  have hw : iv u517_3 0 1 ∧ True := hw
                  obtain ⟨iu517_3, -⟩ := hw
                  obtain ⟨hP1, hK1, hD1⟩ := hB
                  rw [ht] at hP1
                  have hK1 := va_K.moved hvm.symm hK1
                  obtain ⟨hP, hD⟩ := nv_join (wf := [(h0, .inr (2, [.ref h1, .ref h2, .ref h3, .int v479, .int x2, .int x3, .int x4, .int x5])), (h1, .inl (y0, 16, .inl f0)), (h3, .inr (1, [.ref h4, .ref h5, .ref h6, .ref h7])), (h7, .inr (9, [.ref h8, .ref h9, .int u517_0, .int u517_1, .int u517_2, .int u517_3])), (h9, .inl (y1, 3, .inl f1)), (h8, .inl (y2, 3, .inl u517_4))]) hP hD [2, 3, 4] [0, 1, 5] rfl rfl (by decide) (by decide) hk1 hFc hP1 hD1 rfl
                  have hK := (hK.sub (tys' := [(y0, .int)]) [0] rfl).app hK1
                  generalize H1 = H at hP hS ⊢
                  have hK : va_K (dC, dI) vwCl [(y0, .int), (y1, .int), (y2, .int)] s := hK
                  exact j508 b390 u517_0 u517_1 u517_2 u517_3 u517_4 (iv_w j510 (by decide) (by decide)) iu517_3 _ _ hK hP hD hS ls hl
            refine lv_if_eq (tgt := 70) hx hb dX2_passTime_57 (by decide) (fun c480 => ?_) (fun c480 => ?_)
            · skip
              subst c480
              exact j492 0 b392 b393 b394 b395 b396 (iv_w (by decide : iv 0 0 0) (by decide) (by decide)) ib395 _ _ hK hP hD hS ls hl
            · skip
              have j518 : iv b389 1 1 := iv_neLo ib389 (by decide : iv 0 0 0) c480 (by decide)
              refine lv_aload_n hx hb dX2_passTime_60 rfl (lv_at hl 3 rfl) ?_
              refine va_get (D := (dC, dI)) (ci := 2) (v := .ref h3) (C := RX2) (T := TX2) (N := 8) hx hb hG inGX2 hown hK hP 0 rfl rfl 2 (by decide) (hG _ wd_151) (fun _ h9 => h9) rfl dX2_passTime_61 ?_
              obtain ⟨hPc, hDc, hFc⟩ := nv_sub3 (wc := [(h3, .inr (1, [.ref h4, .ref h5, .ref h6, .ref h7]))]) hP hD hS hA [2] (by decide) rfl
              have hKc := hK.sub (tys' := []) [] rfl
              refine va_callr (va_runV (As := []) (rest := []) ⟨hx, hb, hml, hown, hG⟩ (cX1_timer_1 l dC dI h3 h4 h5 h6 h7 H.size) (cwV 0 hG (gV wd_973 wd_974 wd_975 wd_2 wd_976) rfl rfl rfl (by decide +kernel) ⟨Nat.le_of_ble_eq_true rfl, Nat.le_of_ble_eq_true rfl⟩) ⟨fun a U g mk q => by obtain ⟨q0, q1, qP, qK, qD⟩ := q; exact ⟨q0, q1, qP, va_K.moved (u := U) (U := U.calling g mk a) (Vm.Alike.refl U.vm) qK, qD⟩, va_recv hKc hPc (ci := 1) (q0 := 0) rfl rfl, fun U hU hW => ⟨rfl, by rw [hU], by rw [hU]; exact hPc, va_K.moved hW.alike hKc, hDc.weaken (fun _ _ _ _ => trivial)⟩⟩ rfl rfl hl.1 rfl (lv_room (Nat.le_of_ble_eq_true rfl)) dX2_passTime_64 ⟨by decide, by decide⟩) hS (fun q _ h => hFc q h) hFc (fun u520 r519a t H1 locs ht hvm hw hB hz1 hk1 hS => ?_)
              obtain ⟨hra, hP1, hK1, hD1⟩ := hB
              rw [ht] at hP1
              have hK1 := va_K.moved hvm.symm hK1
              obtain ⟨hP, hD⟩ := nv_join (wf := [(h0, .inr (2, [.ref h1, .ref h2, .ref h3, .int v479, .int x2, .int x3, .int x4, .int x5])), (h1, .inl (y0, 16, .inl f0)), (h7, .inr (9, [.ref h8, .ref h9, .int b392, .int b393, .int b394, .int b395])), (h9, .inl (y1, 3, .inl f1)), (h8, .inl (y2, 3, .inl b396)), (h3, .inr (1, [.ref h4, .ref h5, .ref h6, .ref h7]))]) hP hD [2] [0, 1, 3, 4, 5] rfl rfl (by decide) (by decide) hk1 hFc hP1 hD1 rfl
              have hK := (hK.sub (tys' := [(y0, .int), (y1, .int), (y2, .int)]) [0, 1, 2] rfl).app hK1
              generalize H1 = H at hP hS ⊢
              have hK : va_K (dC, dI) vwCl [(y0, .int), (y1, .int), (y2, .int)] s := hK
              rw [hra]
              obtain ⟨hPc, hDc, hFc⟩ := nv_sub3 (wc := [(h7, .inr (9, [.ref h8, .ref h9, .int b392, .int b393, .int b394, .int b395])), (h9, .inl (y1, 3, .inl f1)), (h8, .inl (y2, 3, .inl b396))]) hP hD hS hA [2, 3, 4] (by decide) rfl
              have hKc := hK.sub (tys' := [(y1, .int), (y2, .int)]) [1, 2] rfl
              refine va_callv (va_runV (As := []) (rest := []) ⟨hx, hb, hml, hown, hG⟩ (cX9_fastBeat_1 l dC dI h7 h8 h9 y1 y2 H.size b392 b393 b394 b395 f1 b396 ib395) (cwV 0 hG (gV wd_1089 wd_1090 wd_1091 wd_5 wd_1092) rfl rfl rfl (by decide +kernel) ⟨Nat.le_of_ble_eq_true rfl, Nat.le_of_ble_eq_true rfl⟩) ⟨fun a U g mk q => by obtain ⟨q0, q1, qP, qK, qD⟩ := q; exact ⟨q0, q1, qP, va_K.moved (u := U) (U := U.calling g mk a) (Vm.Alike.refl U.vm) qK, qD⟩, va_recv hKc hPc (ci := 9) (q0 := 0) rfl rfl, fun U hU hW => ⟨rfl, by rw [hU], by rw [hU]; exact hPc, va_K.moved hW.alike hKc, hDc.weaken (fun _ _ _ _ => trivial)⟩⟩ rfl rfl hl.1 rfl (lv_room (Nat.le_of_ble_eq_true rfl)) dX2_passTime_67 ⟨by decide, by decide⟩) hS (fun q _ h => hFc q h) hFc (fun u522 t H1 locs ht hvm hw hB hz1 hk1 hS => ?_)
              obtain ⟨u522_0, u522_1, u522_2, u522_3, u522_4⟩ := u522
              have hw : iv u522_3 0 1 ∧ True := hw
              obtain ⟨iu522_3, -⟩ := hw
              obtain ⟨hP1, hK1, hD1⟩ := hB
              rw [ht] at hP1
              have hK1 := va_K.moved hvm.symm hK1
              obtain ⟨hP, hD⟩ := nv_join (wf := [(h0, .inr (2, [.ref h1, .ref h2, .ref h3, .int v479, .int x2, .int x3, .int x4, .int x5])), (h1, .inl (y0, 16, .inl f0)), (h3, .inr (1, [.ref h4, .ref h5, .ref h6, .ref h7])), (h7, .inr (9, [.ref h8, .ref h9, .int u522_0, .int u522_1, .int u522_2, .int u522_3])), (h9, .inl (y1, 3, .inl f1)), (h8, .inl (y2, 3, .inl u522_4))]) hP hD [2, 3, 4] [0, 1, 5] rfl rfl (by decide) (by decide) hk1 hFc hP1 hD1 rfl
              have hK := (hK.sub (tys' := [(y0, .int)]) [0] rfl).app hK1
              generalize H1 = H at hP hS ⊢
              have hK : va_K (dC, dI) vwCl [(y0, .int), (y1, .int), (y2, .int)] s := hK
              exact j492 b389 u522_0 u522_1 u522_2 u522_3 u522_4 (iv_w j518 (by decide) (by decide)) iu522_3 _ _ hK hP hD hS ls hl
      exact lp440 _ 0 b11 b5 x1 x6 x7 x8 x9 f2 (iv_w (by decide : iv 0 0 0) (by decide) (by decide)) ib11 ib5 ix9 (Nat.lt_succ_self _) _ _ hK hP hD hS ls hl
    refine lv_if_ne (tgt := 35) hx hb dX2_passTime_28 (by decide) (fun c9 => ?_) (fun c9 => ?_)
    · skip
      have j523 : iv v8 1 128 := iv_neLo iv8 (by decide : iv 0 0 0) c9 (by decide)
      refine lv_iconst (v := 0) hx hb dX2_passTime_35 (by decide) ?_
      exact j12 0 (iv_w (by decide : iv 0 0 0) (by decide) (by decide)) _ _ hK hP hD hS ls hl
    · skip
      subst c9
      refine lv_iconst (v := 1) hx hb dX2_passTime_31 (by decide) ?_
      refine lv_goto (tgt := 36) hx hb dX2_passTime_32 (by decide) ?_
      exact j12 1 (iv_w (by decide : iv 1 1 1) (by decide) (by decide)) _ _ hK hP hD hS ls hl
  refine lv_if_ne (tgt := 16) hx hb dX2_passTime_9 (by decide) (fun c3 => ?_) (fun c3 => ?_)
  · skip
    have j524 : iv v2 1 32 := iv_neLo iv2 (by decide : iv 0 0 0) c3 (by decide)
    refine lv_iconst (v := 0) hx hb dX2_passTime_16 (by decide) ?_
    exact j6 0 (iv_w (by decide : iv 0 0 0) (by decide) (by decide)) _ _ hK hP hD hS ls hl
  · skip
    subst c3
    refine lv_iconst (v := 1) hx hb dX2_passTime_12 (by decide) ?_
    refine lv_goto (tgt := 17) hx hb dX2_passTime_13 (by decide) ?_
    exact j6 1 (iv_w (by decide : iv 1 1 1) (by decide) (by decide)) _ _ hK hP hD hS ls hl
set_option maxHeartbeats 100000000 in
set_option maxRecDepth 100000 in
theorem cX9_takeFirst_1 (l : Launch) (dC : Nat → ClassId) (dI : Nat → Nat → Nat) (h0 h1 h2 : Nat) (y0 : ClassId) (sz : Nat) (x0 x1 x2 x3 : Int32) (f0 : Nat → Int32) (ix3 : iv x3 0 1) : Met l yX9_takeFirst (Cond.code yX9_takeFirst cX9_takeFirst 1 none :: lw_G) ({ frames := 0, cells := 0, slots := 0, locals := 0 }) (va_Pc [.ref h0] (fun U => U.heap.size = sz ∧ va_P (dC, dI) vwCl [(h0, .inr (9, [.ref h1, .ref h2, .int x0, .int x1, .int x2, .int x3])), (h1, .inl (y0, 3, .inl f0))] U.heap ∧ va_K (dC, dI) vwCl [(y0, .int)] U ∧ va_D (fun _ => True) [(h0, .inr (9, [.ref h1, .ref h2, .int x0, .int x1, .int x2, .int x3])), (h1, .inl (y0, 3, .inl f0))])) (va_Qv (fun (u : (Nat → Int32)) => True) (fun (u : (Nat → Int32)) (t : State) => va_P (dC, dI) vwCl [(h0, .inr (9, [.ref h1, .ref h2, .int x0, .int x1, .int x2, .int x3])), (h1, .inl (y0, 3, .inl u))] t.heap ∧ va_K (dC, dI) vwCl [(y0, .int)] t ∧ va_D (va_A [(h0, .inr (9, [.ref h1, .ref h2, .int x0, .int x1, .int x2, .int x3])), (h1, .inl (y0, 3, .inl f0))] sz) [(h0, .inr (9, [.ref h1, .ref h2, .int x0, .int x1, .int x2, .int x3])), (h1, .inl (y0, 3, .inl u))]) (va_A [(h0, .inr (9, [.ref h1, .ref h2, .int x0, .int x1, .int x2, .int x3])), (h1, .inl (y0, 3, .inl f0))] sz)) 0 0 (va_A [(h0, .inr (9, [.ref h1, .ref h2, .int x0, .int x1, .int x2, .int x3])), (h1, .inl (y0, 3, .inl f0))] sz) := by
  refine Met.ofW (cc := cX9_takeFirst) (maxL := 1) (ret := none) (by decide) rfl ?_
  intro p e s m args below meth c s₁ B hml hv
  obtain ⟨rfl, hsz, hP, hK, hD0⟩ := hv
  have hx := B.exec
  have hb := B.bytes
  have hr := B.returns
  have hts0 := atoms_spec (ws := Cond.code yX9_takeFirst cX9_takeFirst 1 none :: lw_G) B.pre
  have hG : ∀ w ∈ lw_G, w.before _ s = true := fun w h => hts0 w (List.mem_cons_of_mem _ h)
  have hown : s.vm.findClass RX9 = some m.cls := findClass_of_methodNamed B.named
  have hlocks := B.notSynchronized
  subst hsz
  have hD := hD0.self (sz := s.heap.size)
  generalize hAe : va_A [(h0, .inr (9, [.ref h1, .ref h2, .int x0, .int x1, .int x2, .int x3])), (h1, .inl (y0, 3, .inl f0))] s.heap.size = A at hD ⊢
  have hA : ∀ q : Nat, s.heap.size ≤ q → A q := fun q h => by rw [← hAe]; exact Or.inr h
  have hS : va_S A s.heap s.heap [] := va_S.rf
  have hP : va_P (dC, dI) vwCl [(h0, .inr (9, [.ref h1, .ref h2, .int x0, .int x1, .int x2, .int x3])), (h1, .inl (y0, 3, .inl f0))] s.heap := hP
  have hl := lv_entry ([.ref h0]) (n := 1) (Nat.le_of_ble_eq_true rfl)
  rw [lg_entry_eq]
  generalize (lg_sl ([.ref h0]) ++ List.replicate (1 - (lg_sl ([.ref h0])).length) Slot.unset).toArray = ls at hl ⊢
  have hl : lv_has ls 1 [(0, .ref h0)] := hl
  generalize ([.ref h0] : List Value).toArray = ar at hG ⊢
  refine wq (fun Q hQ => ?_)
  refine lv_aload_n hx hb dX9_takeFirst_0 rfl (lv_at hl 0 rfl) ?_
  refine va_get (D := (dC, dI)) (ci := 9) (v := .ref h1) (C := RX9) (T := TX9) (N := 6) hx hb hG inGX9 hown hK hP 0 rfl rfl 0 (by decide) (hG _ wd_95) (fun _ h9 => h9) rfl dX9_takeFirst_1 ?_
  refine lv_iconst (v := 0) hx hb dX9_takeFirst_4 (by decide) ?_
  refine lv_dup2_11 hx hb dX9_takeFirst_5 rfl rfl ?_
  refine va_iald hx hb hK hP 1 0 rfl rfl (iv_in (by decide : iv 0 0 0) (by decide) (by decide) : vp_in 0 3) dX9_takeFirst_6 ?_
  refine lv_topi (fun v1 ev1 => ?_)
  refine lv_bipush (v := (-2)) hx hb dX9_takeFirst_7 (by decide) ?_
  refine lv_iand hx hb dX9_takeFirst_9 ?_
  refine lv_topi (fun v2 ev2 => ?_)
  refine va_iast hx hb hK hP hD hS 1 0 rfl rfl (iv_in (by decide : iv 0 0 0) (by decide) (by decide) : vp_in 0 3) dX9_takeFirst_10 (fun H locs hP hD hS => ?_)
  obtain ⟨nf3, enf3⟩ : ∃ z, z = upd f0 (0 : Int32).toNatClampNeg v2 := ⟨_, rfl⟩
  obtain ⟨hP, hD⟩ := nv_eq (ws' := [(h0, .inr (9, [.ref h1, .ref h2, .int x0, .int x1, .int x2, .int x3])), (h1, .inl (y0, 3, .inl nf3))]) hP hD (by subst enf3; rfl)
  rw [hQ]
  obtain ⟨hP9, hD9⟩ := nv_sub2 (wc := [(h0, .inr (9, [.ref h1, .ref h2, .int x0, .int x1, .int x2, .int x3])), (h1, .inl (y0, 3, .inl nf3))]) hP hD [0, 1] (by decide) rfl
  have hK9 := hK.sub (tys' := [(y0, .int)]) [0] rfl
  exact W.vret hx hb hr (fun t ht hW => ⟨⟨nf3, rfl, trivial, by rw [ht]; exact hP9, va_K.moved hW.alike hK9, hD9⟩, hS.F ht⟩) hS.2.2 dX9_takeFirst_11
set_option maxHeartbeats 100000000 in
set_option maxRecDepth 100000 in
theorem cX2_interrupt_1 (l : Launch) (dC : Nat → ClassId) (dI : Nat → Nat → Nat) (h0 h1 h2 h3 h4 h5 h6 h7 h8 h9 : Nat) (y0 y1 y2 y3 : ClassId) (sz : Nat) (x0 x1 x2 x3 x4 x5 x6 x7 x8 x9 x10 x11 x12 x13 x14 x15 x16 x17 x18 x19 x20 : Int32) (f0 f1 f2 f3 : Nat → Int32) (ix5 : iv x5 0 1) (ix9 : iv x9 0 1) : Met l yX2_interrupt (Cond.code yX2_interrupt cX2_interrupt 2 (some .int) :: lw_G) ({ frames := 5, cells := 0, slots := 0, locals := 110 }) (va_Pc [.ref h0, .int x0] (fun U => U.heap.size = sz ∧ va_P (dC, dI) vwCl [(h0, .inr (2, [.ref h1, .ref h2, .ref h3, .int x1, .int x2, .int x3, .int x4, .int x5])), (h3, .inr (1, [.ref h4, .ref h5, .ref h6, .ref h7])), (h7, .inr (9, [.ref h8, .ref h9, .int x6, .int x7, .int x8, .int x9])), (h8, .inl (y0, 3, .inl f0)), (h1, .inl (y1, 16, .inl f1)), (h5, .inr (7, [.int x10, .int x11, .int x12, .int x13, .int x14])), (h9, .inl (y2, 3, .inl f2)), (h6, .inr (5, [.int x15, .int x16, .int x17, .int x18, .int x19, .int x20])), (h4, .inl (y3, 32768, .inl f3))] U.heap ∧ va_K (dC, dI) vwCl [(y0, .int), (y1, .int), (y2, .int), (y3, .int)] U ∧ va_D (fun _ => True) [(h0, .inr (2, [.ref h1, .ref h2, .ref h3, .int x1, .int x2, .int x3, .int x4, .int x5])), (h3, .inr (1, [.ref h4, .ref h5, .ref h6, .ref h7])), (h7, .inr (9, [.ref h8, .ref h9, .int x6, .int x7, .int x8, .int x9])), (h8, .inl (y0, 3, .inl f0)), (h1, .inl (y1, 16, .inl f1)), (h5, .inr (7, [.int x10, .int x11, .int x12, .int x13, .int x14])), (h9, .inl (y2, 3, .inl f2)), (h6, .inr (5, [.int x15, .int x16, .int x17, .int x18, .int x19, .int x20])), (h4, .inl (y3, 32768, .inl f3))])) (va_Qi (fun (r : Int32) (u : Int32 × Int32 × Int32 × Int32 × Int32 × (Nat → Int32) × (Nat → Int32) × Int32 × Int32 × Int32 × Int32 × (Nat → Int32) × Int32 × Int32 × Int32 × Int32 × Int32 × Int32 × (Nat → Int32)) => r = 6 ∧ iv u.2.2.2.2.1 0 1 ∧ True) (fun (u : Int32 × Int32 × Int32 × Int32 × Int32 × (Nat → Int32) × (Nat → Int32) × Int32 × Int32 × Int32 × Int32 × (Nat → Int32) × Int32 × Int32 × Int32 × Int32 × Int32 × Int32 × (Nat → Int32)) (t : State) => va_P (dC, dI) vwCl [(h0, .inr (2, [.ref h1, .ref h2, .ref h3, .int x1, .int u.1, .int x3, .int x4, .int x5])), (h3, .inr (1, [.ref h4, .ref h5, .ref h6, .ref h7])), (h7, .inr (9, [.ref h8, .ref h9, .int u.2.1, .int u.2.2.1, .int u.2.2.2.1, .int u.2.2.2.2.1])), (h8, .inl (y0, 3, .inl u.2.2.2.2.2.1)), (h1, .inl (y1, 16, .inl u.2.2.2.2.2.2.1)), (h5, .inr (7, [.int x10, .int u.2.2.2.2.2.2.2.1, .int u.2.2.2.2.2.2.2.2.1, .int u.2.2.2.2.2.2.2.2.2.1, .int u.2.2.2.2.2.2.2.2.2.2.1])), (h9, .inl (y2, 3, .inl u.2.2.2.2.2.2.2.2.2.2.2.1)), (h6, .inr (5, [.int u.2.2.2.2.2.2.2.2.2.2.2.2.1, .int u.2.2.2.2.2.2.2.2.2.2.2.2.2.1, .int u.2.2.2.2.2.2.2.2.2.2.2.2.2.2.1, .int u.2.2.2.2.2.2.2.2.2.2.2.2.2.2.2.1, .int u.2.2.2.2.2.2.2.2.2.2.2.2.2.2.2.2.1, .int u.2.2.2.2.2.2.2.2.2.2.2.2.2.2.2.2.2.1])), (h4, .inl (y3, 32768, .inl u.2.2.2.2.2.2.2.2.2.2.2.2.2.2.2.2.2.2))] t.heap ∧ va_K (dC, dI) vwCl [(y0, .int), (y1, .int), (y2, .int), (y3, .int)] t ∧ va_D (va_A [(h0, .inr (2, [.ref h1, .ref h2, .ref h3, .int x1, .int x2, .int x3, .int x4, .int x5])), (h3, .inr (1, [.ref h4, .ref h5, .ref h6, .ref h7])), (h7, .inr (9, [.ref h8, .ref h9, .int x6, .int x7, .int x8, .int x9])), (h8, .inl (y0, 3, .inl f0)), (h1, .inl (y1, 16, .inl f1)), (h5, .inr (7, [.int x10, .int x11, .int x12, .int x13, .int x14])), (h9, .inl (y2, 3, .inl f2)), (h6, .inr (5, [.int x15, .int x16, .int x17, .int x18, .int x19, .int x20])), (h4, .inl (y3, 32768, .inl f3))] sz) [(h0, .inr (2, [.ref h1, .ref h2, .ref h3, .int x1, .int u.1, .int x3, .int x4, .int x5])), (h3, .inr (1, [.ref h4, .ref h5, .ref h6, .ref h7])), (h7, .inr (9, [.ref h8, .ref h9, .int u.2.1, .int u.2.2.1, .int u.2.2.2.1, .int u.2.2.2.2.1])), (h8, .inl (y0, 3, .inl u.2.2.2.2.2.1)), (h1, .inl (y1, 16, .inl u.2.2.2.2.2.2.1)), (h5, .inr (7, [.int x10, .int u.2.2.2.2.2.2.2.1, .int u.2.2.2.2.2.2.2.2.1, .int u.2.2.2.2.2.2.2.2.2.1, .int u.2.2.2.2.2.2.2.2.2.2.1])), (h9, .inl (y2, 3, .inl u.2.2.2.2.2.2.2.2.2.2.2.1)), (h6, .inr (5, [.int u.2.2.2.2.2.2.2.2.2.2.2.2.1, .int u.2.2.2.2.2.2.2.2.2.2.2.2.2.1, .int u.2.2.2.2.2.2.2.2.2.2.2.2.2.2.1, .int u.2.2.2.2.2.2.2.2.2.2.2.2.2.2.2.1, .int u.2.2.2.2.2.2.2.2.2.2.2.2.2.2.2.2.1, .int u.2.2.2.2.2.2.2.2.2.2.2.2.2.2.2.2.2.1])), (h4, .inl (y3, 32768, .inl u.2.2.2.2.2.2.2.2.2.2.2.2.2.2.2.2.2.2))]) (va_A [(h0, .inr (2, [.ref h1, .ref h2, .ref h3, .int x1, .int x2, .int x3, .int x4, .int x5])), (h3, .inr (1, [.ref h4, .ref h5, .ref h6, .ref h7])), (h7, .inr (9, [.ref h8, .ref h9, .int x6, .int x7, .int x8, .int x9])), (h8, .inl (y0, 3, .inl f0)), (h1, .inl (y1, 16, .inl f1)), (h5, .inr (7, [.int x10, .int x11, .int x12, .int x13, .int x14])), (h9, .inl (y2, 3, .inl f2)), (h6, .inr (5, [.int x15, .int x16, .int x17, .int x18, .int x19, .int x20])), (h4, .inl (y3, 32768, .inl f3))] sz)) 0 0 (va_A [(h0, .inr (2, [.ref h1, .ref h2, .ref h3, .int x1, .int x2, .int x3, .int x4, .int x5])), (h3, .inr (1, [.ref h4, .ref h5, .ref h6, .ref h7])), (h7, .inr (9, [.ref h8, .ref h9, .int x6, .int x7, .int x8, .int x9])), (h8, .inl (y0, 3, .inl f0)), (h1, .inl (y1, 16, .inl f1)), (h5, .inr (7, [.int x10, .int x11, .int x12, .int x13, .int x14])), (h9, .inl (y2, 3, .inl f2)), (h6, .inr (5, [.int x15, .int x16, .int x17, .int x18, .int x19, .int x20])), (h4, .inl (y3, 32768, .inl f3))] sz) := by
  refine Met.ofW (cc := cX2_interrupt) (maxL := 2) (ret := (some .int)) (by decide) rfl ?_
  intro p e s m args below meth c s₁ B hml hv
  obtain ⟨rfl, hsz, hP, hK, hD0⟩ := hv
  have hx := B.exec
  have hb := B.bytes
  have hr := B.returns
  have hts0 := atoms_spec (ws := Cond.code yX2_interrupt cX2_interrupt 2 (some .int) :: lw_G) B.pre
  have hG : ∀ w ∈ lw_G, w.before _ s = true := fun w h => hts0 w (List.mem_cons_of_mem _ h)
  have hown : s.vm.findClass RX2 = some m.cls := findClass_of_methodNamed B.named
  have hlocks := B.notSynchronized
  subst hsz
  have hD := hD0.self (sz := s.heap.size)
  generalize hAe : va_A [(h0, .inr (2, [.ref h1, .ref h2, .ref h3, .int x1, .int x2, .int x3, .int x4, .int x5])), (h3, .inr (1, [.ref h4, .ref h5, .ref h6, .ref h7])), (h7, .inr (9, [.ref h8, .ref h9, .int x6, .int x7, .int x8, .int x9])), (h8, .inl (y0, 3, .inl f0)), (h1, .inl (y1, 16, .inl f1)), (h5, .inr (7, [.int x10, .int x11, .int x12, .int x13, .int x14])), (h9, .inl (y2, 3, .inl f2)), (h6, .inr (5, [.int x15, .int x16, .int x17, .int x18, .int x19, .int x20])), (h4, .inl (y3, 32768, .inl f3))] s.heap.size = A at hD ⊢
  have hA : ∀ q : Nat, s.heap.size ≤ q → A q := fun q h => by rw [← hAe]; exact Or.inr h
  have hS : va_S A s.heap s.heap [] := va_S.rf
  have hP : va_P (dC, dI) vwCl [(h0, .inr (2, [.ref h1, .ref h2, .ref h3, .int x1, .int x2, .int x3, .int x4, .int x5])), (h3, .inr (1, [.ref h4, .ref h5, .ref h6, .ref h7])), (h7, .inr (9, [.ref h8, .ref h9, .int x6, .int x7, .int x8, .int x9])), (h8, .inl (y0, 3, .inl f0)), (h1, .inl (y1, 16, .inl f1)), (h5, .inr (7, [.int x10, .int x11, .int x12, .int x13, .int x14])), (h9, .inl (y2, 3, .inl f2)), (h6, .inr (5, [.int x15, .int x16, .int x17, .int x18, .int x19, .int x20])), (h4, .inl (y3, 32768, .inl f3))] s.heap := hP
  have hl := lv_entry ([.ref h0, .int x0]) (n := 2) (Nat.le_of_ble_eq_true rfl)
  rw [lg_entry_eq]
  generalize (lg_sl ([.ref h0, .int x0]) ++ List.replicate (2 - (lg_sl ([.ref h0, .int x0])).length) Slot.unset).toArray = ls at hl ⊢
  have hl : lv_has ls 2 [(0, .ref h0), (1, .int x0)] := hl
  generalize ([.ref h0, .int x0] : List Value).toArray = ar at hG ⊢
  refine wq (fun Q hQ => ?_)
  refine lv_iload_n hx hb dX2_interrupt_0 rfl (lv_at hl 1 rfl) ?_
  refine lv_ldc hx hb hown (hG _ wd_981) dX2_interrupt_1 ?_
  refine jcut (a := ∀ (b6 : Int32) (b7 : Nat → Int32) (H : Heap) (locs : List Loc) (hK : va_K (dC, dI) vwCl [(y0, .int), (y1, .int), (y2, .int), (y3, .int)] s) (hP : va_P (dC, dI) vwCl [(h0, .inr (2, [.ref h1, .ref h2, .ref h3, .int x1, .int x2, .int x3, .int x4, .int x5])), (h3, .inr (1, [.ref h4, .ref h5, .ref h6, .ref h7])), (h7, .inr (9, [.ref h8, .ref h9, .int x6, .int x7, .int x8, .int x9])), (h8, .inl (y0, 3, .inl b7)), (h1, .inl (y1, 16, .inl f1)), (h5, .inr (7, [.int x10, .int x11, .int x12, .int x13, .int x14])), (h9, .inl (y2, 3, .inl f2)), (h6, .inr (5, [.int x15, .int x16, .int x17, .int x18, .int x19, .int x20])), (h4, .inl (y3, 32768, .inl f3))] H) (hD : va_D A [(h0, .inr (2, [.ref h1, .ref h2, .ref h3, .int x1, .int x2, .int x3, .int x4, .int x5])), (h3, .inr (1, [.ref h4, .ref h5, .ref h6, .ref h7])), (h7, .inr (9, [.ref h8, .ref h9, .int x6, .int x7, .int x8, .int x9])), (h8, .inl (y0, 3, .inl b7)), (h1, .inl (y1, 16, .inl f1)), (h5, .inr (7, [.int x10, .int x11, .int x12, .int x13, .int x14])), (h9, .inl (y2, 3, .inl f2)), (h6, .inr (5, [.int x15, .int x16, .int x17, .int x18, .int x19, .int x20])), (h4, .inl (y3, 32768, .inl f3))]) (hS : va_S A s.heap H locs) (ls : Array Slot) (hl : lv_has ls 2 [(0, .ref h0), (1, .int b6)]), W p l e (headSpec (Cond.code yX2_interrupt cX2_interrupt 2 (some .int) :: lw_G) ({ frames := 5, cells := 0, slots := 0, locals := 110 })).room s m ar below meth c H locs 0 0 Q (F0 m 16 ls [])) ?_ (fun j8 => ?_)
  · skip
    intro b6 b7 H locs hK hP hD hS ls hl
    refine lv_aload_n hx hb dX2_interrupt_16 rfl (lv_at hl 0 rfl) ?_
    refine lv_aload_n hx hb dX2_interrupt_17 rfl (lv_at hl 0 rfl) ?_
    refine va_get (D := (dC, dI)) (ci := 2) (v := .ref h1) (C := RX2) (T := TX2) (N := 8) hx hb hG inGX2 hown hK hP 0 rfl rfl 0 (by decide) (hG _ wd_149) (fun _ h9 => h9) rfl dX2_interrupt_18 ?_
    refine lv_iconst (v := 0) hx hb dX2_interrupt_21 (by decide) ?_
    refine va_iald hx hb hK hP 4 1 rfl rfl (iv_in (by decide : iv 0 0 0) (by decide) (by decide) : vp_in 0 16) dX2_interrupt_22 ?_
    refine lv_topi (fun v9 ev9 => ?_)
    obtain ⟨hPc, hDc, hFc⟩ := nv_sub3 (wc := [(h0, .inr (2, [.ref h1, .ref h2, .ref h3, .int x1, .int x2, .int x3, .int x4, .int x5])), (h1, .inl (y1, 16, .inl f1)), (h3, .inr (1, [.ref h4, .ref h5, .ref h6, .ref h7])), (h5, .inr (7, [.int x10, .int x11, .int x12, .int x13, .int x14])), (h7, .inr (9, [.ref h8, .ref h9, .int x6, .int x7, .int x8, .int x9])), (h9, .inl (y2, 3, .inl f2)), (h8, .inl (y0, 3, .inl b7)), (h6, .inr (5, [.int x15, .int x16, .int x17, .int x18, .int x19, .int x20])), (h4, .inl (y3, 32768, .inl f3))]) hP hD hS hA [0, 4, 1, 5, 2, 6, 3, 7, 8] (by decide) rfl
    have hKc := hK.sub (tys' := [(y1, .int), (y2, .int), (y0, .int), (y3, .int)]) [1, 2, 0, 3] rfl
    refine va_callv (va_runV (As := [.int v9]) (rest := []) ⟨hx, hb, hml, hown, hG⟩ (cX2_pushWord_1 l dC dI h0 h1 h2 h3 h4 h5 h6 h7 h8 h9 y1 y2 y0 y3 H.size v9 x1 x2 x3 x4 x5 x10 x11 x12 x13 x14 x6 x7 x8 x9 x15 x16 x17 x18 x19 x20 f1 f2 b7 f3 ix5 ix9) (cwV 1 hG (gV wd_997 wd_999 wp_34 wd_6 wd_1000) rfl rfl rfl (by decide +kernel) ⟨Nat.le_of_ble_eq_true rfl, Nat.le_of_ble_eq_true rfl⟩) ⟨fun a U g mk q => by obtain ⟨q0, q1, qP, qK, qD⟩ := q; exact ⟨q0, q1, qP, va_K.moved (u := U) (U := U.calling g mk a) (Vm.Alike.refl U.vm) qK, qD⟩, va_recv hKc hPc (ci := 2) (q0 := 0) rfl rfl, fun U hU hW => ⟨rfl, by rw [hU], by rw [hU]; exact hPc, va_K.moved hW.alike hKc, hDc.weaken (fun _ _ _ _ => trivial)⟩⟩ rfl rfl hl.1 rfl (lv_room (Nat.le_of_ble_eq_true rfl)) dX2_interrupt_23 ⟨by decide, by decide⟩) hS (fun q _ h => hFc q h) hFc (fun u11 t H1 locs ht hvm hw hB hz1 hk1 hS => ?_)
    obtain ⟨u11_0, u11_1, u11_2, u11_3, u11_4, u11_5, u11_6, u11_7, u11_8, u11_9, u11_10, u11_11, u11_12, u11_13, u11_14, u11_15, u11_16, u11_17⟩ := u11
    have hw : iv u11_8 0 1 ∧ True := hw
    obtain ⟨iu11_8, -⟩ := hw
    obtain ⟨hP1, hK1, hD1⟩ := hB
    rw [ht] at hP1
    have hK1 := va_K.moved hvm.symm hK1
    obtain ⟨hP, hD⟩ := nv_join (wf := [(h0, .inr (2, [.ref h1, .ref h2, .ref h3, .int x1, .int x2, .int x3, .int x4, .int x5])), (h1, .inl (y1, 16, .inl u11_0)), (h3, .inr (1, [.ref h4, .ref h5, .ref h6, .ref h7])), (h5, .inr (7, [.int x10, .int u11_1, .int u11_2, .int u11_3, .int u11_4])), (h7, .inr (9, [.ref h8, .ref h9, .int u11_5, .int u11_6, .int u11_7, .int u11_8])), (h9, .inl (y2, 3, .inl u11_9)), (h8, .inl (y0, 3, .inl u11_10)), (h6, .inr (5, [.int u11_11, .int u11_12, .int u11_13, .int u11_14, .int u11_15, .int u11_16])), (h4, .inl (y3, 32768, .inl u11_17))]) hP hD [0, 4, 1, 5, 2, 6, 3, 7, 8] [] rfl rfl (by decide) (by decide) hk1 hFc hP1 hD1 rfl
    have hK := (hK.sub (tys' := []) [] rfl).app hK1
    generalize H1 = H at hP hS ⊢
    have hK : va_K (dC, dI) vwCl [(y1, .int), (y2, .int), (y0, .int), (y3, .int)] s := hK
    refine lv_aload_n hx hb dX2_interrupt_26 rfl (lv_at hl 0 rfl) ?_
    refine lv_aload_n hx hb dX2_interrupt_27 rfl (lv_at hl 0 rfl) ?_
    refine va_get (D := (dC, dI)) (ci := 2) (v := .ref h1) (C := RX2) (T := TX2) (N := 8) hx hb hG inGX2 hown hK hP 0 rfl rfl 0 (by decide) (hG _ wd_149) (fun _ h9 => h9) rfl dX2_interrupt_28 ?_
    refine lv_iconst (v := 2) hx hb dX2_interrupt_31 (by decide) ?_
    refine va_iald hx hb hK hP 1 0 rfl rfl (iv_in (by decide : iv 2 2 2) (by decide) (by decide) : vp_in 2 16) dX2_interrupt_32 ?_
    refine lv_topi (fun v12 ev12 => ?_)
    obtain ⟨hPc, hDc, hFc⟩ := nv_sub3 (wc := [(h0, .inr (2, [.ref h1, .ref h2, .ref h3, .int x1, .int x2, .int x3, .int x4, .int x5])), (h1, .inl (y1, 16, .inl u11_0)), (h3, .inr (1, [.ref h4, .ref h5, .ref h6, .ref h7])), (h5, .inr (7, [.int x10, .int u11_1, .int u11_2, .int u11_3, .int u11_4])), (h7, .inr (9, [.ref h8, .ref h9, .int u11_5, .int u11_6, .int u11_7, .int u11_8])), (h9, .inl (y2, 3, .inl u11_9)), (h8, .inl (y0, 3, .inl u11_10)), (h6, .inr (5, [.int u11_11, .int u11_12, .int u11_13, .int u11_14, .int u11_15, .int u11_16])), (h4, .inl (y3, 32768, .inl u11_17))]) hP hD hS hA [0, 1, 2, 3, 4, 5, 6, 7, 8] (by decide) rfl
    have hKc := hK.sub (tys' := [(y1, .int), (y2, .int), (y0, .int), (y3, .int)]) [0, 1, 2, 3] rfl
    refine va_callv (va_runV (As := [.int v12]) (rest := []) ⟨hx, hb, hml, hown, hG⟩ (cX2_pushWord_1 l dC dI h0 h1 h2 h3 h4 h5 h6 h7 h8 h9 y1 y2 y0 y3 H.size v12 x1 x2 x3 x4 x5 x10 u11_1 u11_2 u11_3 u11_4 u11_5 u11_6 u11_7 u11_8 u11_11 u11_12 u11_13 u11_14 u11_15 u11_16 u11_0 u11_9 u11_10 u11_17 ix5 iu11_8) (cwV 1 hG (gV wd_997 wd_999 wp_34 wd_6 wd_1000) rfl rfl rfl (by decide +kernel) ⟨Nat.le_of_ble_eq_true rfl, Nat.le_of_ble_eq_true rfl⟩) ⟨fun a U g mk q => by obtain ⟨q0, q1, qP, qK, qD⟩ := q; exact ⟨q0, q1, qP, va_K.moved (u := U) (U := U.calling g mk a) (Vm.Alike.refl U.vm) qK, qD⟩, va_recv hKc hPc (ci := 2) (q0 := 0) rfl rfl, fun U hU hW => ⟨rfl, by rw [hU], by rw [hU]; exact hPc, va_K.moved hW.alike hKc, hDc.weaken (fun _ _ _ _ => trivial)⟩⟩ rfl rfl hl.1 rfl (lv_room (Nat.le_of_ble_eq_true rfl)) dX2_interrupt_33 ⟨by decide, by decide⟩) hS (fun q _ h => hFc q h) hFc (fun u14 t H1 locs ht hvm hw hB hz1 hk1 hS => ?_)
    obtain ⟨u14_0, u14_1, u14_2, u14_3, u14_4, u14_5, u14_6, u14_7, u14_8, u14_9, u14_10, u14_11, u14_12, u14_13, u14_14, u14_15, u14_16, u14_17⟩ := u14
    have hw : iv u14_8 0 1 ∧ True := hw
    obtain ⟨iu14_8, -⟩ := hw
    obtain ⟨hP1, hK1, hD1⟩ := hB
    rw [ht] at hP1
    have hK1 := va_K.moved hvm.symm hK1
    obtain ⟨hP, hD⟩ := nv_join (wf := [(h0, .inr (2, [.ref h1, .ref h2, .ref h3, .int x1, .int x2, .int x3, .int x4, .int x5])), (h1, .inl (y1, 16, .inl u14_0)), (h3, .inr (1, [.ref h4, .ref h5, .ref h6, .ref h7])), (h5, .inr (7, [.int x10, .int u14_1, .int u14_2, .int u14_3, .int u14_4])), (h7, .inr (9, [.ref h8, .ref h9, .int u14_5, .int u14_6, .int u14_7, .int u14_8])), (h9, .inl (y2, 3, .inl u14_9)), (h8, .inl (y0, 3, .inl u14_10)), (h6, .inr (5, [.int u14_11, .int u14_12, .int u14_13, .int u14_14, .int u14_15, .int u14_16])), (h4, .inl (y3, 32768, .inl u14_17))]) hP hD [0, 1, 2, 3, 4, 5, 6, 7, 8] [] rfl rfl (by decide) (by decide) hk1 hFc hP1 hD1 rfl
    have hK := (hK.sub (tys' := []) [] rfl).app hK1
    generalize H1 = H at hP hS ⊢
    have hK : va_K (dC, dI) vwCl [(y1, .int), (y2, .int), (y0, .int), (y3, .int)] s := hK
    refine lv_aload_n hx hb dX2_interrupt_36 rfl (lv_at hl 0 rfl) ?_
    refine va_get (D := (dC, dI)) (ci := 2) (v := .ref h1) (C := RX2) (T := TX2) (N := 8) hx hb hG inGX2 hown hK hP 0 rfl rfl 0 (by decide) (hG _ wd_149) (fun _ h9 => h9) rfl dX2_interrupt_37 ?_
    refine lv_iconst (v := 2) hx hb dX2_interrupt_40 (by decide) ?_
    refine lv_iconst (v := 0) hx hb dX2_interrupt_41 (by decide) ?_
    refine va_iast hx hb hK hP hD hS 1 0 rfl rfl (iv_in (by decide : iv 2 2 2) (by decide) (by decide) : vp_in 2 16) dX2_interrupt_42 (fun H locs hP hD hS => ?_)
    obtain ⟨nf15, enf15⟩ : ∃ z, z = upd u14_0 (2 : Int32).toNatClampNeg 0 := ⟨_, rfl⟩
    obtain ⟨hP, hD⟩ := nv_eq (ws' := [(h0, .inr (2, [.ref h1, .ref h2, .ref h3, .int x1, .int x2, .int x3, .int x4, .int x5])), (h1, .inl (y1, 16, .inl nf15)), (h3, .inr (1, [.ref h4, .ref h5, .ref h6, .ref h7])), (h5, .inr (7, [.int x10, .int u14_1, .int u14_2, .int u14_3, .int u14_4])), (h7, .inr (9, [.ref h8, .ref h9, .int u14_5, .int u14_6, .int u14_7, .int u14_8])), (h9, .inl (y2, 3, .inl u14_9)), (h8, .inl (y0, 3, .inl u14_10)), (h6, .inr (5, [.int u14_11, .int u14_12, .int u14_13, .int u14_14, .int u14_15, .int u14_16])), (h4, .inl (y3, 32768, .inl u14_17))]) hP hD (by subst enf15; rfl)
    refine lv_aload_n hx hb dX2_interrupt_43 rfl (lv_at hl 0 rfl) ?_
    refine lv_iconst (v := 0) hx hb dX2_interrupt_44 (by decide) ?_
    refine lv_aload_n hx hb dX2_interrupt_45 rfl (lv_at hl 0 rfl) ?_
    refine va_get (D := (dC, dI)) (ci := 2) (v := .ref h3) (C := RX2) (T := TX2) (N := 8) hx hb hG inGX2 hown hK hP 0 rfl rfl 2 (by decide) (hG _ wd_151) (fun _ h9 => h9) rfl dX2_interrupt_46 ?_
    refine lv_iload_n hx hb dX2_interrupt_49 rfl (lv_at hl 1 rfl) ?_
    obtain ⟨hPc, hDc, hFc⟩ := nv_sub3 (wc := [(h3, .inr (1, [.ref h4, .ref h5, .ref h6, .ref h7])), (h4, .inl (y3, 32768, .inl u14_17)), (h7, .inr (9, [.ref h8, .ref h9, .int u14_5, .int u14_6, .int u14_7, .int u14_8])), (h9, .inl (y2, 3, .inl u14_9)), (h8, .inl (y0, 3, .inl u14_10)), (h6, .inr (5, [.int u14_11, .int u14_12, .int u14_13, .int u14_14, .int u14_15, .int u14_16])), (h5, .inr (7, [.int x10, .int u14_1, .int u14_2, .int u14_3, .int u14_4]))]) hP hD hS hA [2, 8, 4, 5, 6, 7, 3] (by decide) rfl
    have hKc := hK.sub (tys' := [(y3, .int), (y2, .int), (y0, .int)]) [3, 1, 2] rfl
    refine va_calli (va_runV (As := [.int b6]) (rest := [.int 0, .ref h0]) ⟨hx, hb, hml, hown, hG⟩ (cX1_readWord_1 l dC dI h3 h4 h5 h6 h7 h8 h9 y3 y2 y0 H.size b6 u14_5 u14_6 u14_7 u14_8 u14_11 u14_12 u14_13 u14_14 u14_15 u14_16 x10 u14_1 u14_2 u14_3 u14_4 u14_17 u14_9 u14_10 iu14_8) (cwV 1 hG (gV wd_1005 wd_1006 wd_1007 wd_2 wd_1008) rfl rfl rfl (by decide +kernel) ⟨Nat.le_of_ble_eq_true rfl, Nat.le_of_ble_eq_true rfl⟩) ⟨fun a U g mk q => by obtain ⟨q0, q1, qP, qK, qD⟩ := q; exact ⟨q0, q1, qP, va_K.moved (u := U) (U := U.calling g mk a) (Vm.Alike.refl U.vm) qK, qD⟩, va_recv hKc hPc (ci := 1) (q0 := 0) rfl rfl, fun U hU hW => ⟨rfl, by rw [hU], by rw [hU]; exact hPc, va_K.moved hW.alike hKc, hDc.weaken (fun _ _ _ _ => trivial)⟩⟩ rfl rfl hl.1 rfl (lv_room (Nat.le_of_ble_eq_true rfl)) dX2_interrupt_50 ⟨by decide, by decide⟩) hS (fun q _ h => hFc q h) hFc (fun r16 u17 t H1 locs ht hvm hw hB hz1 hk1 hS => ?_)
    obtain ⟨u17_0, u17_1⟩ := u17
    obtain ⟨hP1, hK1, hD1⟩ := hB
    rw [ht] at hP1
    have hK1 := va_K.moved hvm.symm hK1
    obtain ⟨hP, hD⟩ := nv_join (wf := [(h0, .inr (2, [.ref h1, .ref h2, .ref h3, .int x1, .int x2, .int x3, .int x4, .int x5])), (h1, .inl (y1, 16, .inl nf15)), (h3, .inr (1, [.ref h4, .ref h5, .ref h6, .ref h7])), (h4, .inl (y3, 32768, .inl u14_17)), (h7, .inr (9, [.ref h8, .ref h9, .int u17_0, .int u14_6, .int u14_7, .int u14_8])), (h9, .inl (y2, 3, .inl u14_9)), (h8, .inl (y0, 3, .inl u17_1)), (h6, .inr (5, [.int u14_11, .int u14_12, .int u14_13, .int u14_14, .int u14_15, .int u14_16])), (h5, .inr (7, [.int x10, .int u14_1, .int u14_2, .int u14_3, .int u14_4]))]) hP hD [2, 8, 4, 5, 6, 7, 3] [0, 1] rfl rfl (by decide) (by decide) hk1 hFc hP1 hD1 rfl
    have hK := (hK.sub (tys' := [(y1, .int)]) [0] rfl).app hK1
    generalize H1 = H at hP hS ⊢
    have hK : va_K (dC, dI) vwCl [(y1, .int), (y3, .int), (y2, .int), (y0, .int)] s := hK
    obtain ⟨hPc, hDc, hFc⟩ := nv_sub3 (wc := [(h0, .inr (2, [.ref h1, .ref h2, .ref h3, .int x1, .int x2, .int x3, .int x4, .int x5])), (h1, .inl (y1, 16, .inl nf15))]) hP hD hS hA [0, 1] (by decide) rfl
    have hKc := hK.sub (tys' := [(y1, .int)]) [0] rfl
    refine va_callv (va_runV (As := [.int 0, .int r16]) (rest := []) ⟨hx, hb, hml, hown, hG⟩ (cX2_writeRegister_1 l dC dI h0 h1 h2 h3 y1 H.size 0 r16 x1 x2 x3 x4 x5 nf15 ix5) (cwV 2 hG (gV wd_825 wd_826 wd_827 wd_6 wd_828) rfl rfl rfl (by decide +kernel) ⟨Nat.le_of_ble_eq_true rfl, Nat.le_of_ble_eq_true rfl⟩) ⟨fun a U g mk q => by obtain ⟨q0, q1, qP, qK, qD⟩ := q; exact ⟨q0, q1, qP, va_K.moved (u := U) (U := U.calling g mk a) (Vm.Alike.refl U.vm) qK, qD⟩, va_recv hKc hPc (ci := 2) (q0 := 0) rfl rfl, fun U hU hW => ⟨rfl, by rw [hU], by rw [hU]; exact hPc, va_K.moved hW.alike hKc, hDc.weaken (fun _ _ _ _ => trivial)⟩⟩ rfl rfl hl.1 rfl (lv_room (Nat.le_of_ble_eq_true rfl)) dX2_interrupt_53 ⟨by decide, by decide⟩) hS (fun q _ h => hFc q h) hFc (fun u19 t H1 locs ht hvm hw hB hz1 hk1 hS => ?_)
    obtain ⟨u19_0, rfl⟩ : ∃ z, z = u19 := ⟨_, rfl⟩
    obtain ⟨hP1, hK1, hD1⟩ := hB
    rw [ht] at hP1
    have hK1 := va_K.moved hvm.symm hK1
    obtain ⟨hP, hD⟩ := nv_join (wf := [(h3, .inr (1, [.ref h4, .ref h5, .ref h6, .ref h7])), (h4, .inl (y3, 32768, .inl u14_17)), (h7, .inr (9, [.ref h8, .ref h9, .int u17_0, .int u14_6, .int u14_7, .int u14_8])), (h9, .inl (y2, 3, .inl u14_9)), (h8, .inl (y0, 3, .inl u17_1)), (h6, .inr (5, [.int u14_11, .int u14_12, .int u14_13, .int u14_14, .int u14_15, .int u14_16])), (h5, .inr (7, [.int x10, .int u14_1, .int u14_2, .int u14_3, .int u14_4])), (h0, .inr (2, [.ref h1, .ref h2, .ref h3, .int x1, .int x2, .int x3, .int x4, .int x5])), (h1, .inl (y1, 16, .inl u19_0))]) hP hD [0, 1] [2, 3, 4, 5, 6, 7, 8] rfl rfl (by decide) (by decide) hk1 hFc hP1 hD1 rfl
    have hK := (hK.sub (tys' := [(y3, .int), (y2, .int), (y0, .int)]) [1, 2, 3] rfl).app hK1
    generalize H1 = H at hP hS ⊢
    have hK : va_K (dC, dI) vwCl [(y3, .int), (y2, .int), (y0, .int), (y1, .int)] s := hK
    refine lv_aload_n hx hb dX2_interrupt_56 rfl (lv_at hl 0 rfl) ?_
    refine lv_dup hx hb dX2_interrupt_57 rfl ?_
    refine va_get (D := (dC, dI)) (ci := 2) (v := .int x2) (C := RX2) (T := TX2) (N := 8) hx hb hG inGX2 hown hK hP 7 rfl rfl 4 (by decide) (hG _ wd_153) (fun _ h9 => h9) rfl dX2_interrupt_58 ?_
    refine lv_iconst (v := 1) hx hb dX2_interrupt_61 (by decide) ?_
    refine lv_iadd hx hb dX2_interrupt_62 ?_
    refine lv_topi (fun v20 ev20 => ?_)
    refine va_put (D := (dC, dI)) (ci := 2) (v := .int v20) (ty := .int) (C := RX2) (T := TX2) (N := 8) hx hb hG inGX2 tyX2 tyX2_ok nmX2 hown hK hP hD hS 7 rfl rfl 4 (by decide) (hG _ wd_153) (fun _ h9 => h9) rfl (by decide +kernel) rfl rfl (Nat.le_of_ble_eq_true rfl) dX2_interrupt_63 (fun H locs hP hD hS => ?_)
    obtain ⟨hP, hD⟩ := nv_eq (ws' := [(h3, .inr (1, [.ref h4, .ref h5, .ref h6, .ref h7])), (h4, .inl (y3, 32768, .inl u14_17)), (h7, .inr (9, [.ref h8, .ref h9, .int u17_0, .int u14_6, .int u14_7, .int u14_8])), (h9, .inl (y2, 3, .inl u14_9)), (h8, .inl (y0, 3, .inl u17_1)), (h6, .inr (5, [.int u14_11, .int u14_12, .int u14_13, .int u14_14, .int u14_15, .int u14_16])), (h5, .inr (7, [.int x10, .int u14_1, .int u14_2, .int u14_3, .int u14_4])), (h0, .inr (2, [.ref h1, .ref h2, .ref h3, .int x1, .int v20, .int x3, .int x4, .int x5])), (h1, .inl (y1, 16, .inl u19_0))]) hP hD rfl
    refine lv_bipush (v := 6) hx hb dX2_interrupt_66 (by decide) ?_
    rw [hQ]
    obtain ⟨hP9, hD9⟩ := nv_sub2 (wc := [(h0, .inr (2, [.ref h1, .ref h2, .ref h3, .int x1, .int v20, .int x3, .int x4, .int x5])), (h3, .inr (1, [.ref h4, .ref h5, .ref h6, .ref h7])), (h7, .inr (9, [.ref h8, .ref h9, .int u17_0, .int u14_6, .int u14_7, .int u14_8])), (h8, .inl (y0, 3, .inl u17_1)), (h1, .inl (y1, 16, .inl u19_0)), (h5, .inr (7, [.int x10, .int u14_1, .int u14_2, .int u14_3, .int u14_4])), (h9, .inl (y2, 3, .inl u14_9)), (h6, .inr (5, [.int u14_11, .int u14_12, .int u14_13, .int u14_14, .int u14_15, .int u14_16])), (h4, .inl (y3, 32768, .inl u14_17))]) hP hD [7, 0, 2, 4, 8, 6, 3, 5, 1] (by decide) rfl
    have hK9 := hK.sub (tys' := [(y0, .int), (y1, .int), (y2, .int), (y3, .int)]) [2, 3, 1, 0] rfl
    exact W.iret (v := 6) hx hb hr (fun t ht hW => ⟨⟨6, (v20, u17_0, u14_6, u14_7, u14_8, u17_1, u19_0, u14_1, u14_2, u14_3, u14_4, u14_9, u14_11, u14_12, u14_13, u14_14, u14_15, u14_16, u14_17), rfl, ⟨rfl, iv_w iu14_8 (by decide) (by decide), trivial⟩, by rw [ht]; exact hP9, va_K.moved hW.alike hK9, hD9⟩, hS.F ht⟩) hS.2.2 dX2_interrupt_68
  refine lv_icmp_ne (tgt := 16) hx hb dX2_interrupt_3 (by decide) (fun c1 => ?_) (fun c1 => ?_)
  · skip
    exact j8 x0 f0 _ _ hK hP hD hS ls hl
  · skip
    subst c1
    refine lv_aload_n hx hb dX2_interrupt_6 rfl (lv_at hl 0 rfl) ?_
    refine va_get (D := (dC, dI)) (ci := 2) (v := .ref h3) (C := RX2) (T := TX2) (N := 8) hx hb hG inGX2 hown hK hP 0 rfl rfl 2 (by decide) (hG _ wd_151) (fun _ h9 => h9) rfl dX2_interrupt_7 ?_
    obtain ⟨hPc, hDc, hFc⟩ := nv_sub3 (wc := [(h3, .inr (1, [.ref h4, .ref h5, .ref h6, .ref h7]))]) hP hD hS hA [1] (by decide) rfl
    have hKc := hK.sub (tys' := []) [] rfl
    refine va_callr (va_runV (As := []) (rest := []) ⟨hx, hb, hml, hown, hG⟩ (cX1_timer_1 l dC dI h3 h4 h5 h6 h7 s.heap.size) (cwV 0 hG (gV wd_973 wd_974 wd_975 wd_2 wd_976) rfl rfl rfl (by decide +kernel) ⟨Nat.le_of_ble_eq_true rfl, Nat.le_of_ble_eq_true rfl⟩) ⟨fun a U g mk q => by obtain ⟨q0, q1, qP, qK, qD⟩ := q; exact ⟨q0, q1, qP, va_K.moved (u := U) (U := U.calling g mk a) (Vm.Alike.refl U.vm) qK, qD⟩, va_recv hKc hPc (ci := 1) (q0 := 0) rfl rfl, fun U hU hW => ⟨rfl, by rw [hU], by rw [hU]; exact hPc, va_K.moved hW.alike hKc, hDc.weaken (fun _ _ _ _ => trivial)⟩⟩ rfl rfl hl.1 rfl (lv_room (Nat.le_of_ble_eq_true rfl)) dX2_interrupt_10 ⟨by decide, by decide⟩) hS (fun q _ h => hFc q h) hFc (fun u22 r21a t H1 locs ht hvm hw hB hz1 hk1 hS => ?_)
    obtain ⟨hra, hP1, hK1, hD1⟩ := hB
    rw [ht] at hP1
    have hK1 := va_K.moved hvm.symm hK1
    obtain ⟨hP, hD⟩ := nv_join (wf := [(h0, .inr (2, [.ref h1, .ref h2, .ref h3, .int x1, .int x2, .int x3, .int x4, .int x5])), (h7, .inr (9, [.ref h8, .ref h9, .int x6, .int x7, .int x8, .int x9])), (h8, .inl (y0, 3, .inl f0)), (h1, .inl (y1, 16, .inl f1)), (h5, .inr (7, [.int x10, .int x11, .int x12, .int x13, .int x14])), (h9, .inl (y2, 3, .inl f2)), (h6, .inr (5, [.int x15, .int x16, .int x17, .int x18, .int x19, .int x20])), (h4, .inl (y3, 32768, .inl f3)), (h3, .inr (1, [.ref h4, .ref h5, .ref h6, .ref h7]))]) hP hD [1] [0, 2, 3, 4, 5, 6, 7, 8] rfl rfl (by decide) (by decide) hk1 hFc hP1 hD1 rfl
    have hK := (hK.sub (tys' := [(y0, .int), (y1, .int), (y2, .int), (y3, .int)]) [0, 1, 2, 3] rfl).app hK1
    generalize H1 = H at hP hS ⊢
    have hK : va_K (dC, dI) vwCl [(y0, .int), (y1, .int), (y2, .int), (y3, .int)] s := hK
    rw [hra]
    obtain ⟨hPc, hDc, hFc⟩ := nv_sub3 (wc := [(h7, .inr (9, [.ref h8, .ref h9, .int x6, .int x7, .int x8, .int x9])), (h8, .inl (y0, 3, .inl f0))]) hP hD hS hA [1, 2] (by decide) rfl
    have hKc := hK.sub (tys' := [(y0, .int)]) [0] rfl
    refine va_callv (va_runV (As := []) (rest := []) ⟨hx, hb, hml, hown, hG⟩ (cX9_takeFirst_1 l dC dI h7 h8 h9 y0 H.size x6 x7 x8 x9 f0 ix9) (cwV 0 hG (gV wd_993 wd_994 wd_995 wd_5 wd_996) rfl rfl rfl (by decide +kernel) ⟨Nat.le_of_ble_eq_true rfl, Nat.le_of_ble_eq_true rfl⟩) ⟨fun a U g mk q => by obtain ⟨q0, q1, qP, qK, qD⟩ := q; exact ⟨q0, q1, qP, va_K.moved (u := U) (U := U.calling g mk a) (Vm.Alike.refl U.vm) qK, qD⟩, va_recv hKc hPc (ci := 9) (q0 := 0) rfl rfl, fun U hU hW => ⟨rfl, by rw [hU], by rw [hU]; exact hPc, va_K.moved hW.alike hKc, hDc.weaken (fun _ _ _ _ => trivial)⟩⟩ rfl rfl hl.1 rfl (lv_room (Nat.le_of_ble_eq_true rfl)) dX2_interrupt_13 ⟨by decide, by decide⟩) hS (fun q _ h => hFc q h) hFc (fun u24 t H1 locs ht hvm hw hB hz1 hk1 hS => ?_)
    obtain ⟨u24_0, rfl⟩ : ∃ z, z = u24 := ⟨_, rfl⟩
    obtain ⟨hP1, hK1, hD1⟩ := hB
    rw [ht] at hP1
    have hK1 := va_K.moved hvm.symm hK1
    obtain ⟨hP, hD⟩ := nv_join (wf := [(h0, .inr (2, [.ref h1, .ref h2, .ref h3, .int x1, .int x2, .int x3, .int x4, .int x5])), (h1, .inl (y1, 16, .inl f1)), (h5, .inr (7, [.int x10, .int x11, .int x12, .int x13, .int x14])), (h9, .inl (y2, 3, .inl f2)), (h6, .inr (5, [.int x15, .int x16, .int x17, .int x18, .int x19, .int x20])), (h4, .inl (y3, 32768, .inl f3)), (h3, .inr (1, [.ref h4, .ref h5, .ref h6, .ref h7])), (h7, .inr (9, [.ref h8, .ref h9, .int x6, .int x7, .int x8, .int x9])), (h8, .inl (y0, 3, .inl u24_0))]) hP hD [1, 2] [0, 3, 4, 5, 6, 7, 8] rfl rfl (by decide) (by decide) hk1 hFc hP1 hD1 rfl
    have hK := (hK.sub (tys' := [(y1, .int), (y2, .int), (y3, .int)]) [1, 2, 3] rfl).app hK1
    generalize H1 = H at hP hS ⊢
    have hK : va_K (dC, dI) vwCl [(y1, .int), (y2, .int), (y3, .int), (y0, .int)] s := hK
    exact j8 65522 u24_0 _ _ (hK.sub (tys' := _) [3, 0, 1, 2] rfl) (hP.sub (ws' := _) [0, 6, 7, 8, 1, 2, 3, 4, 5] rfl) (hD.sub (ws' := _) [0, 6, 7, 8, 1, 2, 3, 4, 5] (by decide) rfl) hS ls hl
set_option maxHeartbeats 100000000 in
set_option maxRecDepth 100000 in
theorem cX2_step_1 (l : Launch) (dC : Nat → ClassId) (dI : Nat → Nat → Nat) (h0 h1 h2 h3 h4 h5 h6 h7 h8 h9 h10 h11 : Nat) (y0 y1 y2 y3 y4 y5 : ClassId) (sz : Nat) (x0 x1 x2 x3 x4 x5 x6 x7 x8 x9 x10 x11 x12 x13 x14 x15 x16 x17 x18 x19 x20 : Int32) (f0 f1 f2 f3 f4 f5 : Nat → Int32) (ix4 : iv x4 0 1) (ix5 : iv x5 0 40) (ix14 : iv x14 0 1) : Met l yX2_step (Cond.code yX2_step cX2_step 4 (some .boolean) :: lw_G) ({ frames := 6, cells := 0, slots := 0, locals := 143 }) (va_Pc [.ref h0] (fun U => U.heap.size = sz ∧ va_P (dC, dI) vwCl [(h0, .inr (2, [.ref h1, .ref h2, .ref h3, .int x0, .int x1, .int x2, .int x3, .int x4])), (h3, .inr (1, [.ref h4, .ref h5, .ref h6, .ref h7])), (h2, .inr (3, [.ref h8, .ref h9, .int x5])), (h8, .inl (y0, 40, .inl f0)), (h9, .inl (y1, 40, .inl f1)), (h5, .inr (7, [.int x6, .int x7, .int x8, .int x9, .int x10])), (h1, .inl (y2, 16, .inl f2)), (h7, .inr (9, [.ref h10, .ref h11, .int x11, .int x12, .int x13, .int x14])), (h10, .inl (y3, 3, .inl f3)), (h4, .inl (y4, 32768, .inl f4)), (h11, .inl (y5, 3, .inl f5)), (h6, .inr (5, [.int x15, .int x16, .int x17, .int x18, .int x19, .int x20]))] U.heap ∧ va_K (dC, dI) vwCl [(y0, .int), (y1, .int), (y2, .int), (y3, .int), (y4, .int), (y5, .int)] U ∧ va_D (fun _ => True) [(h0, .inr (2, [.ref h1, .ref h2, .ref h3, .int x0, .int x1, .int x2, .int x3, .int x4])), (h3, .inr (1, [.ref h4, .ref h5, .ref h6, .ref h7])), (h2, .inr (3, [.ref h8, .ref h9, .int x5])), (h8, .inl (y0, 40, .inl f0)), (h9, .inl (y1, 40, .inl f1)), (h5, .inr (7, [.int x6, .int x7, .int x8, .int x9, .int x10])), (h1, .inl (y2, 16, .inl f2)), (h7, .inr (9, [.ref h10, .ref h11, .int x11, .int x12, .int x13, .int x14])), (h10, .inl (y3, 3, .inl f3)), (h4, .inl (y4, 32768, .inl f4)), (h11, .inl (y5, 3, .inl f5)), (h6, .inr (5, [.int x15, .int x16, .int x17, .int x18, .int x19, .int x20]))])) (va_Qi (fun (r : Int32) (u : Int32 × Int32 × Int32 × Int32 × Int32 × Int32 × (Nat → Int32) × (Nat → Int32) × Int32 × Int32 × Int32 × Int32 × Int32 × (Nat → Int32) × Int32 × Int32 × Int32 × Int32 × (Nat → Int32) × (Nat → Int32) × (Nat → Int32) × Int32 × Int32 × Int32 × Int32 × Int32 × Int32) => iv r 0 1 ∧ iv u.2.2.2.2.1 0 1 ∧ iv u.2.2.2.2.2.1 0 40 ∧ iv u.2.2.2.2.2.2.2.2.2.2.2.2.2.2.2.2.2.1 0 1 ∧ True) (fun (u : Int32 × Int32 × Int32 × Int32 × Int32 × Int32 × (Nat → Int32) × (Nat → Int32) × Int32 × Int32 × Int32 × Int32 × Int32 × (Nat → Int32) × Int32 × Int32 × Int32 × Int32 × (Nat → Int32) × (Nat → Int32) × (Nat → Int32) × Int32 × Int32 × Int32 × Int32 × Int32 × Int32) (t : State) => va_P (dC, dI) vwCl [(h0, .inr (2, [.ref h1, .ref h2, .ref h3, .int u.1, .int u.2.1, .int u.2.2.1, .int u.2.2.2.1, .int u.2.2.2.2.1])), (h3, .inr (1, [.ref h4, .ref h5, .ref h6, .ref h7])), (h2, .inr (3, [.ref h8, .ref h9, .int u.2.2.2.2.2.1])), (h8, .inl (y0, 40, .inl u.2.2.2.2.2.2.1)), (h9, .inl (y1, 40, .inl u.2.2.2.2.2.2.2.1)), (h5, .inr (7, [.int u.2.2.2.2.2.2.2.2.1, .int u.2.2.2.2.2.2.2.2.2.1, .int u.2.2.2.2.2.2.2.2.2.2.1, .int u.2.2.2.2.2.2.2.2.2.2.2.1, .int u.2.2.2.2.2.2.2.2.2.2.2.2.1])), (h1, .inl (y2, 16, .inl u.2.2.2.2.2.2.2.2.2.2.2.2.2.1)), (h7, .inr (9, [.ref h10, .ref h11, .int u.2.2.2.2.2.2.2.2.2.2.2.2.2.2.1, .int u.2.2.2.2.2.2.2.2.2.2.2.2.2.2.2.1, .int u.2.2.2.2.2.2.2.2.2.2.2.2.2.2.2.2.1, .int u.2.2.2.2.2.2.2.2.2.2.2.2.2.2.2.2.2.1])), (h10, .inl (y3, 3, .inl u.2.2.2.2.2.2.2.2.2.2.2.2.2.2.2.2.2.2.1)), (h4, .inl (y4, 32768, .inl u.2.2.2.2.2.2.2.2.2.2.2.2.2.2.2.2.2.2.2.1)), (h11, .inl (y5, 3, .inl u.2.2.2.2.2.2.2.2.2.2.2.2.2.2.2.2.2.2.2.2.1)), (h6, .inr (5, [.int u.2.2.2.2.2.2.2.2.2.2.2.2.2.2.2.2.2.2.2.2.2.1, .int u.2.2.2.2.2.2.2.2.2.2.2.2.2.2.2.2.2.2.2.2.2.2.1, .int u.2.2.2.2.2.2.2.2.2.2.2.2.2.2.2.2.2.2.2.2.2.2.2.1, .int u.2.2.2.2.2.2.2.2.2.2.2.2.2.2.2.2.2.2.2.2.2.2.2.2.1, .int u.2.2.2.2.2.2.2.2.2.2.2.2.2.2.2.2.2.2.2.2.2.2.2.2.2.1, .int u.2.2.2.2.2.2.2.2.2.2.2.2.2.2.2.2.2.2.2.2.2.2.2.2.2.2]))] t.heap ∧ va_K (dC, dI) vwCl [(y0, .int), (y1, .int), (y2, .int), (y3, .int), (y4, .int), (y5, .int)] t ∧ va_D (va_A [(h0, .inr (2, [.ref h1, .ref h2, .ref h3, .int x0, .int x1, .int x2, .int x3, .int x4])), (h3, .inr (1, [.ref h4, .ref h5, .ref h6, .ref h7])), (h2, .inr (3, [.ref h8, .ref h9, .int x5])), (h8, .inl (y0, 40, .inl f0)), (h9, .inl (y1, 40, .inl f1)), (h5, .inr (7, [.int x6, .int x7, .int x8, .int x9, .int x10])), (h1, .inl (y2, 16, .inl f2)), (h7, .inr (9, [.ref h10, .ref h11, .int x11, .int x12, .int x13, .int x14])), (h10, .inl (y3, 3, .inl f3)), (h4, .inl (y4, 32768, .inl f4)), (h11, .inl (y5, 3, .inl f5)), (h6, .inr (5, [.int x15, .int x16, .int x17, .int x18, .int x19, .int x20]))] sz) [(h0, .inr (2, [.ref h1, .ref h2, .ref h3, .int u.1, .int u.2.1, .int u.2.2.1, .int u.2.2.2.1, .int u.2.2.2.2.1])), (h3, .inr (1, [.ref h4, .ref h5, .ref h6, .ref h7])), (h2, .inr (3, [.ref h8, .ref h9, .int u.2.2.2.2.2.1])), (h8, .inl (y0, 40, .inl u.2.2.2.2.2.2.1)), (h9, .inl (y1, 40, .inl u.2.2.2.2.2.2.2.1)), (h5, .inr (7, [.int u.2.2.2.2.2.2.2.2.1, .int u.2.2.2.2.2.2.2.2.2.1, .int u.2.2.2.2.2.2.2.2.2.2.1, .int u.2.2.2.2.2.2.2.2.2.2.2.1, .int u.2.2.2.2.2.2.2.2.2.2.2.2.1])), (h1, .inl (y2, 16, .inl u.2.2.2.2.2.2.2.2.2.2.2.2.2.1)), (h7, .inr (9, [.ref h10, .ref h11, .int u.2.2.2.2.2.2.2.2.2.2.2.2.2.2.1, .int u.2.2.2.2.2.2.2.2.2.2.2.2.2.2.2.1, .int u.2.2.2.2.2.2.2.2.2.2.2.2.2.2.2.2.1, .int u.2.2.2.2.2.2.2.2.2.2.2.2.2.2.2.2.2.1])), (h10, .inl (y3, 3, .inl u.2.2.2.2.2.2.2.2.2.2.2.2.2.2.2.2.2.2.1)), (h4, .inl (y4, 32768, .inl u.2.2.2.2.2.2.2.2.2.2.2.2.2.2.2.2.2.2.2.1)), (h11, .inl (y5, 3, .inl u.2.2.2.2.2.2.2.2.2.2.2.2.2.2.2.2.2.2.2.2.1)), (h6, .inr (5, [.int u.2.2.2.2.2.2.2.2.2.2.2.2.2.2.2.2.2.2.2.2.2.1, .int u.2.2.2.2.2.2.2.2.2.2.2.2.2.2.2.2.2.2.2.2.2.2.1, .int u.2.2.2.2.2.2.2.2.2.2.2.2.2.2.2.2.2.2.2.2.2.2.2.1, .int u.2.2.2.2.2.2.2.2.2.2.2.2.2.2.2.2.2.2.2.2.2.2.2.2.1, .int u.2.2.2.2.2.2.2.2.2.2.2.2.2.2.2.2.2.2.2.2.2.2.2.2.2.1, .int u.2.2.2.2.2.2.2.2.2.2.2.2.2.2.2.2.2.2.2.2.2.2.2.2.2.2]))]) (va_A [(h0, .inr (2, [.ref h1, .ref h2, .ref h3, .int x0, .int x1, .int x2, .int x3, .int x4])), (h3, .inr (1, [.ref h4, .ref h5, .ref h6, .ref h7])), (h2, .inr (3, [.ref h8, .ref h9, .int x5])), (h8, .inl (y0, 40, .inl f0)), (h9, .inl (y1, 40, .inl f1)), (h5, .inr (7, [.int x6, .int x7, .int x8, .int x9, .int x10])), (h1, .inl (y2, 16, .inl f2)), (h7, .inr (9, [.ref h10, .ref h11, .int x11, .int x12, .int x13, .int x14])), (h10, .inl (y3, 3, .inl f3)), (h4, .inl (y4, 32768, .inl f4)), (h11, .inl (y5, 3, .inl f5)), (h6, .inr (5, [.int x15, .int x16, .int x17, .int x18, .int x19, .int x20]))] sz)) 0 0 (va_A [(h0, .inr (2, [.ref h1, .ref h2, .ref h3, .int x0, .int x1, .int x2, .int x3, .int x4])), (h3, .inr (1, [.ref h4, .ref h5, .ref h6, .ref h7])), (h2, .inr (3, [.ref h8, .ref h9, .int x5])), (h8, .inl (y0, 40, .inl f0)), (h9, .inl (y1, 40, .inl f1)), (h5, .inr (7, [.int x6, .int x7, .int x8, .int x9, .int x10])), (h1, .inl (y2, 16, .inl f2)), (h7, .inr (9, [.ref h10, .ref h11, .int x11, .int x12, .int x13, .int x14])), (h10, .inl (y3, 3, .inl f3)), (h4, .inl (y4, 32768, .inl f4)), (h11, .inl (y5, 3, .inl f5)), (h6, .inr (5, [.int x15, .int x16, .int x17, .int x18, .int x19, .int x20]))] sz) := by
  refine Met.ofW (cc := cX2_step) (maxL := 4) (ret := (some .boolean)) (by decide) rfl ?_
  intro p e s m args below meth c s₁ B hml hv
  obtain ⟨rfl, hsz, hP, hK, hD0⟩ := hv
  have hx := B.exec
  have hb := B.bytes
  have hr := B.returns
  have hts0 := atoms_spec (ws := Cond.code yX2_step cX2_step 4 (some .boolean) :: lw_G) B.pre
  have hG : ∀ w ∈ lw_G, w.before _ s = true := fun w h => hts0 w (List.mem_cons_of_mem _ h)
  have hown : s.vm.findClass RX2 = some m.cls := findClass_of_methodNamed B.named
  have hlocks := B.notSynchronized
  subst hsz
  have hD := hD0.self (sz := s.heap.size)
  generalize hAe : va_A [(h0, .inr (2, [.ref h1, .ref h2, .ref h3, .int x0, .int x1, .int x2, .int x3, .int x4])), (h3, .inr (1, [.ref h4, .ref h5, .ref h6, .ref h7])), (h2, .inr (3, [.ref h8, .ref h9, .int x5])), (h8, .inl (y0, 40, .inl f0)), (h9, .inl (y1, 40, .inl f1)), (h5, .inr (7, [.int x6, .int x7, .int x8, .int x9, .int x10])), (h1, .inl (y2, 16, .inl f2)), (h7, .inr (9, [.ref h10, .ref h11, .int x11, .int x12, .int x13, .int x14])), (h10, .inl (y3, 3, .inl f3)), (h4, .inl (y4, 32768, .inl f4)), (h11, .inl (y5, 3, .inl f5)), (h6, .inr (5, [.int x15, .int x16, .int x17, .int x18, .int x19, .int x20]))] s.heap.size = A at hD ⊢
  have hA : ∀ q : Nat, s.heap.size ≤ q → A q := fun q h => by rw [← hAe]; exact Or.inr h
  have hS : va_S A s.heap s.heap [] := va_S.rf
  have hP : va_P (dC, dI) vwCl [(h0, .inr (2, [.ref h1, .ref h2, .ref h3, .int x0, .int x1, .int x2, .int x3, .int x4])), (h3, .inr (1, [.ref h4, .ref h5, .ref h6, .ref h7])), (h2, .inr (3, [.ref h8, .ref h9, .int x5])), (h8, .inl (y0, 40, .inl f0)), (h9, .inl (y1, 40, .inl f1)), (h5, .inr (7, [.int x6, .int x7, .int x8, .int x9, .int x10])), (h1, .inl (y2, 16, .inl f2)), (h7, .inr (9, [.ref h10, .ref h11, .int x11, .int x12, .int x13, .int x14])), (h10, .inl (y3, 3, .inl f3)), (h4, .inl (y4, 32768, .inl f4)), (h11, .inl (y5, 3, .inl f5)), (h6, .inr (5, [.int x15, .int x16, .int x17, .int x18, .int x19, .int x20]))] s.heap := hP
  have hl := lv_entry ([.ref h0]) (n := 4) (Nat.le_of_ble_eq_true rfl)
  rw [lg_entry_eq]
  generalize (lg_sl ([.ref h0]) ++ List.replicate (4 - (lg_sl ([.ref h0])).length) Slot.unset).toArray = ls at hl ⊢
  have hl : lv_has ls 4 [(0, .ref h0)] := hl
  generalize ([.ref h0] : List Value).toArray = ar at hG ⊢
  refine wq (fun Q hQ => ?_)
  refine lv_aload_n hx hb dX2_step_0 rfl (lv_at hl 0 rfl) ?_
  refine va_get (D := (dC, dI)) (ci := 2) (v := .ref h2) (C := RX2) (T := TX2) (N := 8) hx hb hG inGX2 hown hK hP 0 rfl rfl 1 (by decide) (hG _ wd_150) (fun _ h9 => h9) rfl dX2_step_1 ?_
  refine lv_aload_n hx hb dX2_step_4 rfl (lv_at hl 0 rfl) ?_
  refine va_get (D := (dC, dI)) (ci := 2) (v := .int x0) (C := RX2) (T := TX2) (N := 8) hx hb hG inGX2 hown hK hP 0 rfl rfl 3 (by decide) (hG _ wd_152) (fun _ h9 => h9) rfl dX2_step_5 ?_
  refine lv_aload_n hx hb dX2_step_8 rfl (lv_at hl 0 rfl) ?_
  refine va_get (D := (dC, dI)) (ci := 2) (v := .ref h3) (C := RX2) (T := TX2) (N := 8) hx hb hG inGX2 hown hK hP 0 rfl rfl 2 (by decide) (hG _ wd_151) (fun _ h9 => h9) rfl dX2_step_9 ?_
  obtain ⟨hPc, hDc, hFc⟩ := nv_sub3 (wc := [(h3, .inr (1, [.ref h4, .ref h5, .ref h6, .ref h7]))]) hP hD hS hA [1] (by decide) rfl
  have hKc := hK.sub (tys' := []) [] rfl
  refine va_callr (va_runV (As := []) (rest := [.int x0, .ref h2]) ⟨hx, hb, hml, hown, hG⟩ (cX1_port_1 l dC dI h3 h4 h5 h6 h7 s.heap.size) (cwV 0 hG (gV wd_957 wd_958 wd_959 wd_2 wd_960) rfl rfl rfl (by decide +kernel) ⟨Nat.le_of_ble_eq_true rfl, Nat.le_of_ble_eq_true rfl⟩) ⟨fun a U g mk q => by obtain ⟨q0, q1, qP, qK, qD⟩ := q; exact ⟨q0, q1, qP, va_K.moved (u := U) (U := U.calling g mk a) (Vm.Alike.refl U.vm) qK, qD⟩, va_recv hKc hPc (ci := 1) (q0 := 0) rfl rfl, fun U hU hW => ⟨rfl, by rw [hU], by rw [hU]; exact hPc, va_K.moved hW.alike hKc, hDc.weaken (fun _ _ _ _ => trivial)⟩⟩ rfl rfl hl.1 rfl (lv_room (Nat.le_of_ble_eq_true rfl)) dX2_step_12 ⟨by decide, by decide⟩) hS (fun q _ h => hFc q h) hFc (fun u2 r1a t H1 locs ht hvm hw hB hz1 hk1 hS => ?_)
  obtain ⟨hra, hP1, hK1, hD1⟩ := hB
  rw [ht] at hP1
  have hK1 := va_K.moved hvm.symm hK1
  obtain ⟨hP, hD⟩ := nv_join (wf := [(h0, .inr (2, [.ref h1, .ref h2, .ref h3, .int x0, .int x1, .int x2, .int x3, .int x4])), (h2, .inr (3, [.ref h8, .ref h9, .int x5])), (h8, .inl (y0, 40, .inl f0)), (h9, .inl (y1, 40, .inl f1)), (h5, .inr (7, [.int x6, .int x7, .int x8, .int x9, .int x10])), (h1, .inl (y2, 16, .inl f2)), (h7, .inr (9, [.ref h10, .ref h11, .int x11, .int x12, .int x13, .int x14])), (h10, .inl (y3, 3, .inl f3)), (h4, .inl (y4, 32768, .inl f4)), (h11, .inl (y5, 3, .inl f5)), (h6, .inr (5, [.int x15, .int x16, .int x17, .int x18, .int x19, .int x20])), (h3, .inr (1, [.ref h4, .ref h5, .ref h6, .ref h7]))]) hP hD [1] [0, 2, 3, 4, 5, 6, 7, 8, 9, 10, 11] rfl rfl (by decide) (by decide) hk1 hFc hP1 hD1 rfl
  have hK := (hK.sub (tys' := [(y0, .int), (y1, .int), (y2, .int), (y3, .int), (y4, .int), (y5, .int)]) [0, 1, 2, 3, 4, 5] rfl).app hK1
  generalize H1 = H at hP hS ⊢
  have hK : va_K (dC, dI) vwCl [(y0, .int), (y1, .int), (y2, .int), (y3, .int), (y4, .int), (y5, .int)] s := hK
  rw [hra]
  obtain ⟨hPc, hDc, hFc⟩ := nv_sub3 (wc := [(h2, .inr (3, [.ref h8, .ref h9, .int x5])), (h8, .inl (y0, 40, .inl f0)), (h9, .inl (y1, 40, .inl f1)), (h5, .inr (7, [.int x6, .int x7, .int x8, .int x9, .int x10]))]) hP hD hS hA [1, 2, 3, 4] (by decide) rfl
  have hKc := hK.sub (tys' := [(y0, .int), (y1, .int)]) [0, 1] rfl
  refine va_callv (va_runV (As := [.int x0, .ref h5]) (rest := []) ⟨hx, hb, hml, hown, hG⟩ (cX3_reach_1 l dC dI h2 h5 h8 h9 y0 y1 H.size x0 x5 x6 x7 x8 x9 x10 f0 f1 ix5) (cwV 2 hG (gV wd_961 wd_962 wd_963 wd_7 wd_964) rfl rfl rfl (by decide +kernel) ⟨Nat.le_of_ble_eq_true rfl, Nat.le_of_ble_eq_true rfl⟩) ⟨fun a U g mk q => by obtain ⟨q0, q1, qP, qK, qD⟩ := q; exact ⟨q0, q1, qP, va_K.moved (u := U) (U := U.calling g mk a) (Vm.Alike.refl U.vm) qK, qD⟩, va_recv hKc hPc (ci := 3) (q0 := 0) rfl rfl, fun U hU hW => ⟨rfl, by rw [hU], by rw [hU]; exact hPc, va_K.moved hW.alike hKc, hDc.weaken (fun _ _ _ _ => trivial)⟩⟩ rfl rfl hl.1 rfl (lv_room (Nat.le_of_ble_eq_true rfl)) dX2_step_15 ⟨by decide, by decide⟩) hS (fun q _ h => hFc q h) hFc (fun u4 t H1 locs ht hvm hw hB hz1 hk1 hS => ?_)
  obtain ⟨u4_0, u4_1, u4_2, u4_3, u4_4⟩ := u4
  have hw : iv u4_0 0 40 ∧ True := hw
  obtain ⟨iu4_0, -⟩ := hw
  obtain ⟨hP1, hK1, hD1⟩ := hB
  rw [ht] at hP1
  have hK1 := va_K.moved hvm.symm hK1
  obtain ⟨hP, hD⟩ := nv_join (wf := [(h0, .inr (2, [.ref h1, .ref h2, .ref h3, .int x0, .int x1, .int x2, .int x3, .int x4])), (h1, .inl (y2, 16, .inl f2)), (h7, .inr (9, [.ref h10, .ref h11, .int x11, .int x12, .int x13, .int x14])), (h10, .inl (y3, 3, .inl f3)), (h4, .inl (y4, 32768, .inl f4)), (h11, .inl (y5, 3, .inl f5)), (h6, .inr (5, [.int x15, .int x16, .int x17, .int x18, .int x19, .int x20])), (h3, .inr (1, [.ref h4, .ref h5, .ref h6, .ref h7])), (h2, .inr (3, [.ref h8, .ref h9, .int u4_0])), (h8, .inl (y0, 40, .inl u4_1)), (h9, .inl (y1, 40, .inl u4_2)), (h5, .inr (7, [.int u4_3, .int x7, .int u4_4, .int x9, .int x10]))]) hP hD [1, 2, 3, 4] [0, 5, 6, 7, 8, 9, 10, 11] rfl rfl (by decide) (by decide) hk1 hFc hP1 hD1 rfl
  have hK := (hK.sub (tys' := [(y2, .int), (y3, .int), (y4, .int), (y5, .int)]) [2, 3, 4, 5] rfl).app hK1
  generalize H1 = H at hP hS ⊢
  have hK : va_K (dC, dI) vwCl [(y2, .int), (y3, .int), (y4, .int), (y5, .int), (y0, .int), (y1, .int)] s := hK
  refine lv_aload_n hx hb dX2_step_18 rfl (lv_at hl 0 rfl) ?_
  refine va_get (D := (dC, dI)) (ci := 2) (v := .ref h1) (C := RX2) (T := TX2) (N := 8) hx hb hG inGX2 hown hK hP 0 rfl rfl 0 (by decide) (hG _ wd_149) (fun _ h9 => h9) rfl dX2_step_19 ?_
  refine lv_iconst (v := 2) hx hb dX2_step_22 (by decide) ?_
  refine va_iald hx hb hK hP 1 0 rfl rfl (iv_in (by decide : iv 2 2 2) (by decide) (by decide) : vp_in 2 16) dX2_step_23 ?_
  refine lv_topi (fun v5 ev5 => ?_)
  refine lv_bipush (v := 8) hx hb dX2_step_24 (by decide) ?_
  refine lv_iand hx hb dX2_step_26 ?_
  refine lv_topi (fun v6 ev6 => ?_)
  have iv6 : iv v6 0 8 := iv_eq ev6 (iv_and (x := v5) (iv_w (by decide : iv 8 8 8) (by decide) (by decide) : iv 8 0 8))
  refine jcut (a := ∀ (b11 : Int32) (ib11 : iv b11 0 65522) (H : Heap) (locs : List Loc) (hK : va_K (dC, dI) vwCl [(y2, .int), (y3, .int), (y4, .int), (y5, .int), (y0, .int), (y1, .int)] s) (hP : va_P (dC, dI) vwCl [(h0, .inr (2, [.ref h1, .ref h2, .ref h3, .int x0, .int x1, .int x2, .int x3, .int x4])), (h1, .inl (y2, 16, .inl f2)), (h7, .inr (9, [.ref h10, .ref h11, .int x11, .int x12, .int x13, .int x14])), (h10, .inl (y3, 3, .inl f3)), (h4, .inl (y4, 32768, .inl f4)), (h11, .inl (y5, 3, .inl f5)), (h6, .inr (5, [.int x15, .int x16, .int x17, .int x18, .int x19, .int x20])), (h3, .inr (1, [.ref h4, .ref h5, .ref h6, .ref h7])), (h2, .inr (3, [.ref h8, .ref h9, .int u4_0])), (h8, .inl (y0, 40, .inl u4_1)), (h9, .inl (y1, 40, .inl u4_2)), (h5, .inr (7, [.int u4_3, .int x7, .int u4_4, .int x9, .int x10]))] H) (hD : va_D A [(h0, .inr (2, [.ref h1, .ref h2, .ref h3, .int x0, .int x1, .int x2, .int x3, .int x4])), (h1, .inl (y2, 16, .inl f2)), (h7, .inr (9, [.ref h10, .ref h11, .int x11, .int x12, .int x13, .int x14])), (h10, .inl (y3, 3, .inl f3)), (h4, .inl (y4, 32768, .inl f4)), (h11, .inl (y5, 3, .inl f5)), (h6, .inr (5, [.int x15, .int x16, .int x17, .int x18, .int x19, .int x20])), (h3, .inr (1, [.ref h4, .ref h5, .ref h6, .ref h7])), (h2, .inr (3, [.ref h8, .ref h9, .int u4_0])), (h8, .inl (y0, 40, .inl u4_1)), (h9, .inl (y1, 40, .inl u4_2)), (h5, .inr (7, [.int u4_3, .int x7, .int u4_4, .int x9, .int x10]))]) (hS : va_S A s.heap H locs) (ls : Array Slot) (hl : lv_has ls 4 [(0, .ref h0)]), W p l e (headSpec (Cond.code yX2_step cX2_step 4 (some .boolean) :: lw_G) ({ frames := 6, cells := 0, slots := 0, locals := 143 })).room s m ar below meth c H locs 0 0 Q (F0 m 38 ls [.int b11])) ?_ (fun j12 => ?_)
  · skip
    intro b11 ib11 H locs hK hP hD hS ls hl
    refine lv_istore_n (lv' := [(1, .int b11), (0, .ref h0)]) hx hb dX2_step_38 rfl hl (by decide) rfl (fun ls hl => ?_)
    refine lv_iload_n hx hb dX2_step_39 rfl (lv_at hl 0 rfl) ?_
    refine lv_if_eq (tgt := 52) hx hb dX2_step_40 (by decide) (fun c13 => ?_) (fun c13 => ?_)
    · skip
      subst c13
      refine lv_aload_n hx hb dX2_step_52 rfl (lv_at hl 1 rfl) ?_
      refine va_get (D := (dC, dI)) (ci := 2) (v := .ref h1) (C := RX2) (T := TX2) (N := 8) hx hb hG inGX2 hown hK hP 0 rfl rfl 0 (by decide) (hG _ wd_149) (fun _ h9 => h9) rfl dX2_step_53 ?_
      refine lv_iconst (v := 2) hx hb dX2_step_56 (by decide) ?_
      refine va_iald hx hb hK hP 1 0 rfl rfl (iv_in (by decide : iv 2 2 2) (by decide) (by decide) : vp_in 2 16) dX2_step_57 ?_
      refine lv_topi (fun v14 ev14 => ?_)
      refine lv_bipush (v := 16) hx hb dX2_step_58 (by decide) ?_
      refine lv_iand hx hb dX2_step_60 ?_
      refine lv_topi (fun v15 ev15 => ?_)
      have iv15 : iv v15 0 16 := iv_eq ev15 (iv_and (x := v14) (iv_w (by decide : iv 16 16 16) (by decide) (by decide) : iv 16 0 16))
      refine lv_if_eq (tgt := 79) hx hb dX2_step_61 (by decide) (fun c16 => ?_) (fun c16 => ?_)
      · skip
        subst c16
        refine lv_aload_n hx hb dX2_step_79 rfl (lv_at hl 1 rfl) ?_
        refine va_get (D := (dC, dI)) (ci := 2) (v := .ref h3) (C := RX2) (T := TX2) (N := 8) hx hb hG inGX2 hown hK hP 0 rfl rfl 2 (by decide) (hG _ wd_151) (fun _ h9 => h9) rfl dX2_step_80 ?_
        refine lv_aload_n hx hb dX2_step_83 rfl (lv_at hl 1 rfl) ?_
        refine va_get (D := (dC, dI)) (ci := 2) (v := .ref h1) (C := RX2) (T := TX2) (N := 8) hx hb hG inGX2 hown hK hP 0 rfl rfl 0 (by decide) (hG _ wd_149) (fun _ h9 => h9) rfl dX2_step_84 ?_
        refine lv_iconst (v := 0) hx hb dX2_step_87 (by decide) ?_
        refine va_iald hx hb hK hP 1 0 rfl rfl (iv_in (by decide : iv 0 0 0) (by decide) (by decide) : vp_in 0 16) dX2_step_88 ?_
        refine lv_topi (fun v17 ev17 => ?_)
        obtain ⟨hPc, hDc, hFc⟩ := nv_sub3 (wc := [(h3, .inr (1, [.ref h4, .ref h5, .ref h6, .ref h7])), (h4, .inl (y4, 32768, .inl f4)), (h7, .inr (9, [.ref h10, .ref h11, .int x11, .int x12, .int x13, .int x14])), (h11, .inl (y5, 3, .inl f5)), (h10, .inl (y3, 3, .inl f3)), (h6, .inr (5, [.int x15, .int x16, .int x17, .int x18, .int x19, .int x20])), (h5, .inr (7, [.int u4_3, .int x7, .int u4_4, .int x9, .int x10]))]) hP hD hS hA [7, 4, 2, 5, 3, 6, 11] (by decide) rfl
        have hKc := hK.sub (tys' := [(y4, .int), (y5, .int), (y3, .int)]) [2, 3, 1] rfl
        refine va_calli (va_runV (As := [.int v17]) (rest := []) ⟨hx, hb, hml, hown, hG⟩ (cX1_lookWord_1 l dC dI h3 h4 h5 h6 h7 h10 h11 y4 y5 y3 H.size v17 x11 x12 x13 x14 x15 x16 x17 x18 x19 x20 u4_3 x7 u4_4 x9 x10 f4 f5 f3 ix14) (cwV 1 hG (gV wd_821 wd_822 wd_823 wd_2 wd_824) rfl rfl rfl (by decide +kernel) ⟨Nat.le_of_ble_eq_true rfl, Nat.le_of_ble_eq_true rfl⟩) ⟨fun a U g mk q => by obtain ⟨q0, q1, qP, qK, qD⟩ := q; exact ⟨q0, q1, qP, va_K.moved (u := U) (U := U.calling g mk a) (Vm.Alike.refl U.vm) qK, qD⟩, va_recv hKc hPc (ci := 1) (q0 := 0) rfl rfl, fun U hU hW => ⟨rfl, by rw [hU], by rw [hU]; exact hPc, va_K.moved hW.alike hKc, hDc.weaken (fun _ _ _ _ => trivial)⟩⟩ rfl rfl hl.1 rfl (lv_room (Nat.le_of_ble_eq_true rfl)) dX2_step_89 ⟨by decide, by decide⟩) hS (fun q _ h => hFc q h) hFc (fun r18 u19 t H1 locs ht hvm hw hB hz1 hk1 hS => ?_)
        obtain ⟨hP1, hK1, hD1⟩ := hB
        rw [ht] at hP1
        have hK1 := va_K.moved hvm.symm hK1
        obtain ⟨hP, hD⟩ := nv_join (wf := [(h0, .inr (2, [.ref h1, .ref h2, .ref h3, .int x0, .int x1, .int x2, .int x3, .int x4])), (h1, .inl (y2, 16, .inl f2)), (h2, .inr (3, [.ref h8, .ref h9, .int u4_0])), (h8, .inl (y0, 40, .inl u4_1)), (h9, .inl (y1, 40, .inl u4_2)), (h3, .inr (1, [.ref h4, .ref h5, .ref h6, .ref h7])), (h4, .inl (y4, 32768, .inl f4)), (h7, .inr (9, [.ref h10, .ref h11, .int x11, .int x12, .int x13, .int x14])), (h11, .inl (y5, 3, .inl f5)), (h10, .inl (y3, 3, .inl f3)), (h6, .inr (5, [.int x15, .int x16, .int x17, .int x18, .int x19, .int x20])), (h5, .inr (7, [.int u4_3, .int x7, .int u4_4, .int x9, .int x10]))]) hP hD [7, 4, 2, 5, 3, 6, 11] [0, 1, 8, 9, 10] rfl rfl (by decide) (by decide) hk1 hFc hP1 hD1 rfl
        have hK := (hK.sub (tys' := [(y2, .int), (y0, .int), (y1, .int)]) [0, 4, 5] rfl).app hK1
        generalize H1 = H at hP hS ⊢
        have hK : va_K (dC, dI) vwCl [(y2, .int), (y0, .int), (y1, .int), (y4, .int), (y5, .int), (y3, .int)] s := hK
        refine lv_istore_n (lv' := [(3, .int r18), (1, .int 0), (0, .ref h0)]) hx hb dX2_step_92 rfl hl (by decide) rfl (fun ls hl => ?_)
        refine lv_iload_n hx hb dX2_step_93 rfl (lv_at hl 0 rfl) ?_
        obtain ⟨hPc, hDc, hFc⟩ := nv_sub3 (wc := []) hP hD hS hA [] (by decide) rfl
        have hKc := hK.sub (tys' := []) [] rfl
        refine va_calli (va_runS (As := [.int r18]) (rest := []) ⟨hx, hb, hml, hown, hG⟩ (cX2_isCode_1 l dC dI H.size r18) (va_cwS 1 hG (gS wd_1009 wd_1010 wd_6 wd_1011) rfl rfl rfl (by decide +kernel) ⟨Nat.le_of_ble_eq_true rfl, Nat.le_of_ble_eq_true rfl⟩) ⟨fun a U g mk q => by obtain ⟨q0, q1, qP, qK, qD⟩ := q; exact ⟨q0, q1, qP, va_K.moved (u := U) (U := U.calling g mk a) (Vm.Alike.refl U.vm) qK, qD⟩, fun U hU hW => ⟨rfl, by rw [hU], by rw [hU]; exact hPc, va_K.moved hW.alike hKc, hDc.weaken (fun _ _ _ _ => trivial)⟩⟩ rfl rfl hl.1 rfl (lv_room (Nat.le_of_ble_eq_true rfl)) dX2_step_94 ⟨by decide, by decide⟩) hS (fun q _ h => hFc q h) hFc (fun r20 u21 t H1 locs ht hvm hw hB hz1 hk1 hS => ?_)
        have hw : iv r20 0 1 ∧ True := hw
        obtain ⟨ir20, -⟩ := hw
        obtain ⟨hP1, hK1, hD1⟩ := hB
        rw [ht] at hP1
        have hK1 := va_K.moved hvm.symm hK1
        obtain ⟨hP, hD⟩ := nv_join (wf := [(h0, .inr (2, [.ref h1, .ref h2, .ref h3, .int x0, .int x1, .int x2, .int x3, .int x4])), (h1, .inl (y2, 16, .inl f2)), (h2, .inr (3, [.ref h8, .ref h9, .int u4_0])), (h8, .inl (y0, 40, .inl u4_1)), (h9, .inl (y1, 40, .inl u4_2)), (h3, .inr (1, [.ref h4, .ref h5, .ref h6, .ref h7])), (h4, .inl (y4, 32768, .inl f4)), (h7, .inr (9, [.ref h10, .ref h11, .int x11, .int x12, .int x13, .int x14])), (h11, .inl (y5, 3, .inl f5)), (h10, .inl (y3, 3, .inl f3)), (h6, .inr (5, [.int x15, .int x16, .int x17, .int x18, .int x19, .int x20])), (h5, .inr (7, [.int u4_3, .int x7, .int u4_4, .int x9, .int x10]))]) hP hD [] [0, 1, 2, 3, 4, 5, 6, 7, 8, 9, 10, 11] rfl rfl (by decide) (by decide) hk1 hFc hP1 hD1 rfl
        have hK := (hK.sub (tys' := [(y2, .int), (y0, .int), (y1, .int), (y4, .int), (y5, .int), (y3, .int)]) [0, 1, 2, 3, 4, 5] rfl).app hK1
        generalize H1 = H at hP hS ⊢
        have hK : va_K (dC, dI) vwCl [(y2, .int), (y0, .int), (y1, .int), (y4, .int), (y5, .int), (y3, .int)] s := hK
        refine lv_if_ne (tgt := 102) hx hb dX2_step_97 (by decide) (fun c22 => ?_) (fun c22 => ?_)
        · skip
          have j23 : iv r20 1 1 := iv_neLo ir20 (by decide : iv 0 0 0) c22 (by decide)
          refine lv_aload_n hx hb dX2_step_102 rfl (lv_at hl 2 rfl) ?_
          refine lv_iconst (v := 0) hx hb dX2_step_103 (by decide) ?_
          refine lv_aload_n hx hb dX2_step_104 rfl (lv_at hl 2 rfl) ?_
          refine va_get (D := (dC, dI)) (ci := 2) (v := .ref h1) (C := RX2) (T := TX2) (N := 8) hx hb hG inGX2 hown hK hP 0 rfl rfl 0 (by decide) (hG _ wd_149) (fun _ h9 => h9) rfl dX2_step_105 ?_
          refine lv_iconst (v := 0) hx hb dX2_step_108 (by decide) ?_
          refine va_iald hx hb hK hP 1 0 rfl rfl (iv_in (by decide : iv 0 0 0) (by decide) (by decide) : vp_in 0 16) dX2_step_109 ?_
          refine lv_topi (fun v24 ev24 => ?_)
          refine lv_iconst (v := 2) hx hb dX2_step_110 (by decide) ?_
          refine lv_iadd hx hb dX2_step_111 ?_
          refine lv_topi (fun v25 ev25 => ?_)
          obtain ⟨hPc, hDc, hFc⟩ := nv_sub3 (wc := [(h0, .inr (2, [.ref h1, .ref h2, .ref h3, .int x0, .int x1, .int x2, .int x3, .int x4])), (h1, .inl (y2, 16, .inl f2))]) hP hD hS hA [0, 1] (by decide) rfl
          have hKc := hK.sub (tys' := [(y2, .int)]) [0] rfl
          refine va_callv (va_runV (As := [.int 0, .int v25]) (rest := []) ⟨hx, hb, hml, hown, hG⟩ (cX2_writeRegister_1 l dC dI h0 h1 h2 h3 y2 H.size 0 v25 x0 x1 x2 x3 x4 f2 ix4) (cwV 2 hG (gV wd_825 wd_826 wd_827 wd_6 wd_828) rfl rfl rfl (by decide +kernel) ⟨Nat.le_of_ble_eq_true rfl, Nat.le_of_ble_eq_true rfl⟩) ⟨fun a U g mk q => by obtain ⟨q0, q1, qP, qK, qD⟩ := q; exact ⟨q0, q1, qP, va_K.moved (u := U) (U := U.calling g mk a) (Vm.Alike.refl U.vm) qK, qD⟩, va_recv hKc hPc (ci := 2) (q0 := 0) rfl rfl, fun U hU hW => ⟨rfl, by rw [hU], by rw [hU]; exact hPc, va_K.moved hW.alike hKc, hDc.weaken (fun _ _ _ _ => trivial)⟩⟩ rfl rfl hl.1 rfl (lv_room (Nat.le_of_ble_eq_true rfl)) dX2_step_112 ⟨by decide, by decide⟩) hS (fun q _ h => hFc q h) hFc (fun u27 t H1 locs ht hvm hw hB hz1 hk1 hS => ?_)
          obtain ⟨u27_0, rfl⟩ : ∃ z, z = u27 := ⟨_, rfl⟩
          obtain ⟨hP1, hK1, hD1⟩ := hB
          rw [ht] at hP1
          have hK1 := va_K.moved hvm.symm hK1
          obtain ⟨hP, hD⟩ := nv_join (wf := [(h2, .inr (3, [.ref h8, .ref h9, .int u4_0])), (h8, .inl (y0, 40, .inl u4_1)), (h9, .inl (y1, 40, .inl u4_2)), (h3, .inr (1, [.ref h4, .ref h5, .ref h6, .ref h7])), (h4, .inl (y4, 32768, .inl f4)), (h7, .inr (9, [.ref h10, .ref h11, .int x11, .int x12, .int x13, .int x14])), (h11, .inl (y5, 3, .inl f5)), (h10, .inl (y3, 3, .inl f3)), (h6, .inr (5, [.int x15, .int x16, .int x17, .int x18, .int x19, .int x20])), (h5, .inr (7, [.int u4_3, .int x7, .int u4_4, .int x9, .int x10])), (h0, .inr (2, [.ref h1, .ref h2, .ref h3, .int x0, .int x1, .int x2, .int x3, .int x4])), (h1, .inl (y2, 16, .inl u27_0))]) hP hD [0, 1] [2, 3, 4, 5, 6, 7, 8, 9, 10, 11] rfl rfl (by decide) (by decide) hk1 hFc hP1 hD1 rfl
          have hK := (hK.sub (tys' := [(y0, .int), (y1, .int), (y4, .int), (y5, .int), (y3, .int)]) [1, 2, 3, 4, 5] rfl).app hK1
          generalize H1 = H at hP hS ⊢
          have hK : va_K (dC, dI) vwCl [(y0, .int), (y1, .int), (y4, .int), (y5, .int), (y3, .int), (y2, .int)] s := hK
          refine lv_iload_n hx hb dX2_step_115 rfl (lv_at hl 0 rfl) ?_
          refine lv_sipush (v := 16384) hx hb dX2_step_116 (by decide) ?_
          refine jcut (a := ∀ (b40 : Int32) (b41 : Int32) (b42 : Int32) (b43 : Nat → Int32) (b44 : Nat → Int32) (b45 : Int32) (b46 : Int32) (b47 : Int32) (b48 : Int32) (b49 : Nat → Int32) (b50 : Nat → Int32) (b51 : Int32) (b52 : Int32) (b53 : Int32) (b54 : Int32) (b55 : Int32) (b56 : Int32) (b57 : Int32) (b58 : Int32) (b59 : Int32) (b60 : Int32) (ib40 : iv b40 1 6) (ib42 : iv b42 0 1) (ib48 : iv b48 0 1) (H : Heap) (locs : List Loc) (hK : va_K (dC, dI) vwCl [(y0, .int), (y1, .int), (y2, .int), (y4, .int), (y5, .int), (y3, .int)] s) (hP : va_P (dC, dI) vwCl [(h2, .inr (3, [.ref h8, .ref h9, .int u4_0])), (h8, .inl (y0, 40, .inl u4_1)), (h9, .inl (y1, 40, .inl u4_2)), (h0, .inr (2, [.ref h1, .ref h2, .ref h3, .int x0, .int x1, .int x2, .int b41, .int b42])), (h1, .inl (y2, 16, .inl b43)), (h3, .inr (1, [.ref h4, .ref h5, .ref h6, .ref h7])), (h4, .inl (y4, 32768, .inl b44)), (h7, .inr (9, [.ref h10, .ref h11, .int b45, .int b46, .int b47, .int b48])), (h11, .inl (y5, 3, .inl b49)), (h10, .inl (y3, 3, .inl b50)), (h6, .inr (5, [.int b51, .int b52, .int b53, .int b54, .int b55, .int b56])), (h5, .inr (7, [.int u4_3, .int b57, .int b58, .int b59, .int b60]))] H) (hD : va_D A [(h2, .inr (3, [.ref h8, .ref h9, .int u4_0])), (h8, .inl (y0, 40, .inl u4_1)), (h9, .inl (y1, 40, .inl u4_2)), (h0, .inr (2, [.ref h1, .ref h2, .ref h3, .int x0, .int x1, .int x2, .int b41, .int b42])), (h1, .inl (y2, 16, .inl b43)), (h3, .inr (1, [.ref h4, .ref h5, .ref h6, .ref h7])), (h4, .inl (y4, 32768, .inl b44)), (h7, .inr (9, [.ref h10, .ref h11, .int b45, .int b46, .int b47, .int b48])), (h11, .inl (y5, 3, .inl b49)), (h10, .inl (y3, 3, .inl b50)), (h6, .inr (5, [.int b51, .int b52, .int b53, .int b54, .int b55, .int b56])), (h5, .inr (7, [.int u4_3, .int b57, .int b58, .int b59, .int b60]))]) (hS : va_S A s.heap H locs) (ls : Array Slot) (hl : lv_has ls 4 [(0, .ref h0)]), W p l e (headSpec (Cond.code yX2_step cX2_step 4 (some .boolean) :: lw_G) ({ frames := 6, cells := 0, slots := 0, locals := 143 })).room s m ar below meth c H locs 0 0 Q (F0 m 150 ls [.int b40])) ?_ (fun j61 => ?_)
          · skip
            intro b40 b41 b42 b43 b44 b45 b46 b47 b48 b49 b50 b51 b52 b53 b54 b55 b56 b57 b58 b59 b60 ib40 ib42 ib48 H locs hK hP hD hS ls hl
            refine lv_istore_n (lv' := [(2, .int b40), (0, .ref h0)]) hx hb dX2_step_150 rfl hl (by decide) rfl (fun ls hl => ?_)
            refine lv_aload_n hx hb dX2_step_151 rfl (lv_at hl 1 rfl) ?_
            refine lv_iload_n hx hb dX2_step_152 rfl (lv_at hl 0 rfl) ?_
            obtain ⟨hPc, hDc, hFc⟩ := nv_sub3 (wc := [(h0, .inr (2, [.ref h1, .ref h2, .ref h3, .int x0, .int x1, .int x2, .int b41, .int b42])), (h1, .inl (y2, 16, .inl b43)), (h3, .inr (1, [.ref h4, .ref h5, .ref h6, .ref h7])), (h7, .inr (9, [.ref h10, .ref h11, .int b45, .int b46, .int b47, .int b48])), (h11, .inl (y5, 3, .inl b49)), (h10, .inl (y3, 3, .inl b50))]) hP hD hS hA [3, 4, 5, 7, 8, 9] (by decide) rfl
            have hKc := hK.sub (tys' := [(y2, .int), (y5, .int), (y3, .int)]) [2, 4, 5] rfl
            refine va_callv (va_runV (As := [.int b40]) (rest := []) ⟨hx, hb, hml, hown, hG⟩ (cX2_passTime_1 l dC dI h0 h1 h2 h3 h4 h5 h6 h7 h10 h11 y2 y5 y3 H.size b40 x0 x1 x2 b41 b42 b45 b46 b47 b48 b43 b49 b50 (iv_w ib40 (by decide) (by decide)) ib42 ib48) (cwV 1 hG (gV wd_1085 wd_1087 wp_50 wd_6 wd_1088) rfl rfl rfl (by decide +kernel) ⟨Nat.le_of_ble_eq_true rfl, Nat.le_of_ble_eq_true rfl⟩) ⟨fun a U g mk q => by obtain ⟨q0, q1, qP, qK, qD⟩ := q; exact ⟨q0, q1, qP, va_K.moved (u := U) (U := U.calling g mk a) (Vm.Alike.refl U.vm) qK, qD⟩, va_recv hKc hPc (ci := 2) (q0 := 0) rfl rfl, fun U hU hW => ⟨rfl, by rw [hU], by rw [hU]; exact hPc, va_K.moved hW.alike hKc, hDc.weaken (fun _ _ _ _ => trivial)⟩⟩ rfl rfl hl.1 rfl (lv_room (Nat.le_of_ble_eq_true rfl)) dX2_step_153 ⟨by decide, by decide⟩) hS (fun q _ h => hFc q h) hFc (fun u63 t H1 locs ht hvm hw hB hz1 hk1 hS => ?_)
            obtain ⟨u63_0, u63_1, u63_2, u63_3, u63_4, u63_5⟩ := u63
            have hw : iv u63_4 0 1 ∧ True := hw
            obtain ⟨iu63_4, -⟩ := hw
            obtain ⟨hP1, hK1, hD1⟩ := hB
            rw [ht] at hP1
            have hK1 := va_K.moved hvm.symm hK1
            obtain ⟨hP, hD⟩ := nv_join (wf := [(h2, .inr (3, [.ref h8, .ref h9, .int u4_0])), (h8, .inl (y0, 40, .inl u4_1)), (h9, .inl (y1, 40, .inl u4_2)), (h4, .inl (y4, 32768, .inl b44)), (h6, .inr (5, [.int b51, .int b52, .int b53, .int b54, .int b55, .int b56])), (h5, .inr (7, [.int u4_3, .int b57, .int b58, .int b59, .int b60])), (h0, .inr (2, [.ref h1, .ref h2, .ref h3, .int u63_0, .int x1, .int x2, .int b41, .int b42])), (h1, .inl (y2, 16, .inl b43)), (h3, .inr (1, [.ref h4, .ref h5, .ref h6, .ref h7])), (h7, .inr (9, [.ref h10, .ref h11, .int u63_1, .int u63_2, .int u63_3, .int u63_4])), (h11, .inl (y5, 3, .inl b49)), (h10, .inl (y3, 3, .inl u63_5))]) hP hD [3, 4, 5, 7, 8, 9] [0, 1, 2, 6, 10, 11] rfl rfl (by decide) (by decide) hk1 hFc hP1 hD1 rfl
            have hK := (hK.sub (tys' := [(y0, .int), (y1, .int), (y4, .int)]) [0, 1, 3] rfl).app hK1
            generalize H1 = H at hP hS ⊢
            have hK : va_K (dC, dI) vwCl [(y0, .int), (y1, .int), (y4, .int), (y2, .int), (y5, .int), (y3, .int)] s := hK
            refine lv_iconst (v := 1) hx hb dX2_step_156 (by decide) ?_
            rw [hQ]
            obtain ⟨hP9, hD9⟩ := nv_sub2 (wc := [(h0, .inr (2, [.ref h1, .ref h2, .ref h3, .int u63_0, .int x1, .int x2, .int b41, .int b42])), (h3, .inr (1, [.ref h4, .ref h5, .ref h6, .ref h7])), (h2, .inr (3, [.ref h8, .ref h9, .int u4_0])), (h8, .inl (y0, 40, .inl u4_1)), (h9, .inl (y1, 40, .inl u4_2)), (h5, .inr (7, [.int u4_3, .int b57, .int b58, .int b59, .int b60])), (h1, .inl (y2, 16, .inl b43)), (h7, .inr (9, [.ref h10, .ref h11, .int u63_1, .int u63_2, .int u63_3, .int u63_4])), (h10, .inl (y3, 3, .inl u63_5)), (h4, .inl (y4, 32768, .inl b44)), (h11, .inl (y5, 3, .inl b49)), (h6, .inr (5, [.int b51, .int b52, .int b53, .int b54, .int b55, .int b56]))]) hP hD [6, 8, 0, 1, 2, 5, 7, 9, 11, 3, 10, 4] (by decide) rfl
            have hK9 := hK.sub (tys' := [(y0, .int), (y1, .int), (y2, .int), (y3, .int), (y4, .int), (y5, .int)]) [0, 1, 3, 5, 2, 4] rfl
            exact W.zret (v := 1) hx hb hr rfl (fun t ht hW => ⟨⟨1, (u63_0, x1, x2, b41, b42, u4_0, u4_1, u4_2, u4_3, b57, b58, b59, b60, b43, u63_1, u63_2, u63_3, u63_4, u63_5, b44, b49, b51, b52, b53, b54, b55, b56), rfl, ⟨iv_w (by decide : iv 1 1 1) (by decide) (by decide), iv_w ib42 (by decide) (by decide), iv_w iu4_0 (by decide) (by decide), iv_w iu63_4 (by decide) (by decide), trivial⟩, by rw [ht]; exact hP9, va_K.moved hW.alike hK9, hD9⟩, hS.F ht⟩) hS.2.2 dX2_step_157
          refine lv_icmp_lt (tgt := 130) hx hb dX2_step_119 (by decide) (fun c28 => ?_) (fun c28 => ?_)
          · skip
            have j64 : iv r18 (-2147483648) 16383 := iv_ltL (iv_any r18) (by decide : iv 16384 16384 16384) c28 (by decide)
            refine lv_iload_n hx hb dX2_step_130 rfl (lv_at hl 0 rfl) ?_
            refine lv_sipush (v := 8192) hx hb dX2_step_131 (by decide) ?_
            refine lv_icmp_lt (tgt := 145) hx hb dX2_step_134 (by decide) (fun c65 => ?_) (fun c65 => ?_)
            · skip
              have j66 : iv r18 (-2147483648) 8191 := iv_ltL j64 (by decide : iv 8192 8192 8192) c65 (by decide)
              refine lv_aload_n hx hb dX2_step_145 rfl (lv_at hl 2 rfl) ?_
              refine lv_iload_n hx hb dX2_step_146 rfl (lv_at hl 0 rfl) ?_
              obtain ⟨hPc, hDc, hFc⟩ := nv_sub3 (wc := [(h0, .inr (2, [.ref h1, .ref h2, .ref h3, .int x0, .int x1, .int x2, .int x3, .int x4])), (h1, .inl (y2, 16, .inl u27_0)), (h3, .inr (1, [.ref h4, .ref h5, .ref h6, .ref h7])), (h4, .inl (y4, 32768, .inl f4)), (h7, .inr (9, [.ref h10, .ref h11, .int x11, .int x12, .int x13, .int x14])), (h11, .inl (y5, 3, .inl f5)), (h10, .inl (y3, 3, .inl f3)), (h6, .inr (5, [.int x15, .int x16, .int x17, .int x18, .int x19, .int x20])), (h5, .inr (7, [.int u4_3, .int x7, .int u4_4, .int x9, .int x10]))]) hP hD hS hA [10, 11, 3, 4, 5, 6, 7, 8, 9] (by decide) rfl
              have hKc := hK.sub (tys' := [(y2, .int), (y4, .int), (y5, .int), (y3, .int)]) [5, 2, 3, 4] rfl
              refine va_calli (va_runV (As := [.int r18]) (rest := []) ⟨hx, hb, hml, hown, hG⟩ (cX2_one_1 l dC dI h0 h1 h2 h3 h4 h5 h6 h7 h10 h11 y2 y4 y5 y3 H.size r18 x0 x1 x2 x3 x4 x11 x12 x13 x14 x15 x16 x17 x18 x19 x20 u4_3 x7 u4_4 x9 x10 u27_0 f4 f5 f3 ix4 ix14) (cwV 1 hG (gV wd_1073 wd_1075 wp_47 wd_6 wd_1076) rfl rfl rfl (by decide +kernel) ⟨Nat.le_of_ble_eq_true rfl, Nat.le_of_ble_eq_true rfl⟩) ⟨fun a U g mk q => by obtain ⟨q0, q1, qP, qK, qD⟩ := q; exact ⟨q0, q1, qP, va_K.moved (u := U) (U := U.calling g mk a) (Vm.Alike.refl U.vm) qK, qD⟩, va_recv hKc hPc (ci := 2) (q0 := 0) rfl rfl, fun U hU hW => ⟨rfl, by rw [hU], by rw [hU]; exact hPc, va_K.moved hW.alike hKc, hDc.weaken (fun _ _ _ _ => trivial)⟩⟩ rfl rfl hl.1 rfl (lv_room (Nat.le_of_ble_eq_true rfl)) dX2_step_147 ⟨by decide, by decide⟩) hS (fun q _ h => hFc q h) hFc (fun r67 u68 t H1 locs ht hvm hw hB hz1 hk1 hS => ?_)
              obtain ⟨u68_0, u68_1, u68_2, u68_3, u68_4, u68_5, u68_6, u68_7, u68_8, u68_9, u68_10, u68_11, u68_12, u68_13, u68_14, u68_15, u68_16, u68_17, u68_18, u68_19⟩ := u68
              have hw : iv r67 1 5 ∧ iv u68_1 0 1 ∧ iv u68_7 0 1 ∧ True := hw
              obtain ⟨ir67, iu68_1, iu68_7, -⟩ := hw
              obtain ⟨hP1, hK1, hD1⟩ := hB
              rw [ht] at hP1
              have hK1 := va_K.moved hvm.symm hK1
              obtain ⟨hP, hD⟩ := nv_join (wf := [(h2, .inr (3, [.ref h8, .ref h9, .int u4_0])), (h8, .inl (y0, 40, .inl u4_1)), (h9, .inl (y1, 40, .inl u4_2)), (h0, .inr (2, [.ref h1, .ref h2, .ref h3, .int x0, .int x1, .int x2, .int u68_0, .int u68_1])), (h1, .inl (y2, 16, .inl u68_2)), (h3, .inr (1, [.ref h4, .ref h5, .ref h6, .ref h7])), (h4, .inl (y4, 32768, .inl u68_3)), (h7, .inr (9, [.ref h10, .ref h11, .int u68_4, .int u68_5, .int u68_6, .int u68_7])), (h11, .inl (y5, 3, .inl u68_8)), (h10, .inl (y3, 3, .inl u68_9)), (h6, .inr (5, [.int u68_10, .int u68_11, .int u68_12, .int u68_13, .int u68_14, .int u68_15])), (h5, .inr (7, [.int u4_3, .int u68_16, .int u68_17, .int u68_18, .int u68_19]))]) hP hD [10, 11, 3, 4, 5, 6, 7, 8, 9] [0, 1, 2] rfl rfl (by decide) (by decide) hk1 hFc hP1 hD1 rfl
              have hK := (hK.sub (tys' := [(y0, .int), (y1, .int)]) [0, 1] rfl).app hK1
              generalize H1 = H at hP hS ⊢
              have hK : va_K (dC, dI) vwCl [(y0, .int), (y1, .int), (y2, .int), (y4, .int), (y5, .int), (y3, .int)] s := hK
              exact j61 r67 u68_0 u68_1 u68_2 u68_3 u68_4 u68_5 u68_6 u68_7 u68_8 u68_9 u68_10 u68_11 u68_12 u68_13 u68_14 u68_15 u68_16 u68_17 u68_18 u68_19 (iv_w ir67 (by decide) (by decide)) iu68_1 iu68_7 _ _ hK hP hD hS ls (lv_sub hl [2] rfl)
            · skip
              have j69 : iv r18 8192 16383 := iv_nltL j64 (by decide : iv 8192 8192 8192) c65 (by decide)
              refine lv_aload_n hx hb dX2_step_137 rfl (lv_at hl 2 rfl) ?_
              refine lv_iload_n hx hb dX2_step_138 rfl (lv_at hl 0 rfl) ?_
              obtain ⟨hPc, hDc, hFc⟩ := nv_sub3 (wc := [(h0, .inr (2, [.ref h1, .ref h2, .ref h3, .int x0, .int x1, .int x2, .int x3, .int x4])), (h1, .inl (y2, 16, .inl u27_0))]) hP hD hS hA [10, 11] (by decide) rfl
              have hKc := hK.sub (tys' := [(y2, .int)]) [5] rfl
              refine va_calli (va_runV (As := [.int r18]) (rest := []) ⟨hx, hb, hml, hown, hG⟩ (cX2_jump_1 l dC dI h0 h1 h2 h3 y2 H.size r18 x0 x1 x2 x3 x4 u27_0 ix4) (cwV 1 hG (gV wd_1069 wd_1071 wp_46 wd_6 wd_1072) rfl rfl rfl (by decide +kernel) ⟨Nat.le_of_ble_eq_true rfl, Nat.le_of_ble_eq_true rfl⟩) ⟨fun a U g mk q => by obtain ⟨q0, q1, qP, qK, qD⟩ := q; exact ⟨q0, q1, qP, va_K.moved (u := U) (U := U.calling g mk a) (Vm.Alike.refl U.vm) qK, qD⟩, va_recv hKc hPc (ci := 2) (q0 := 0) rfl rfl, fun U hU hW => ⟨rfl, by rw [hU], by rw [hU]; exact hPc, va_K.moved hW.alike hKc, hDc.weaken (fun _ _ _ _ => trivial)⟩⟩ rfl rfl hl.1 rfl (lv_room (Nat.le_of_ble_eq_true rfl)) dX2_step_139 ⟨by decide, by decide⟩) hS (fun q _ h => hFc q h) hFc (fun r70 u71 t H1 locs ht hvm hw hB hz1 hk1 hS => ?_)
              obtain ⟨u71_0, rfl⟩ : ∃ z, z = u71 := ⟨_, rfl⟩
              have hw : r70 = 2 ∧ True := hw
              obtain ⟨er70, -⟩ := hw
              obtain ⟨hP1, hK1, hD1⟩ := hB
              rw [ht] at hP1
              have hK1 := va_K.moved hvm.symm hK1
              obtain ⟨hP, hD⟩ := nv_join (wf := [(h2, .inr (3, [.ref h8, .ref h9, .int u4_0])), (h8, .inl (y0, 40, .inl u4_1)), (h9, .inl (y1, 40, .inl u4_2)), (h3, .inr (1, [.ref h4, .ref h5, .ref h6, .ref h7])), (h4, .inl (y4, 32768, .inl f4)), (h7, .inr (9, [.ref h10, .ref h11, .int x11, .int x12, .int x13, .int x14])), (h11, .inl (y5, 3, .inl f5)), (h10, .inl (y3, 3, .inl f3)), (h6, .inr (5, [.int x15, .int x16, .int x17, .int x18, .int x19, .int x20])), (h5, .inr (7, [.int u4_3, .int x7, .int u4_4, .int x9, .int x10])), (h0, .inr (2, [.ref h1, .ref h2, .ref h3, .int x0, .int x1, .int x2, .int x3, .int x4])), (h1, .inl (y2, 16, .inl u71_0))]) hP hD [10, 11] [0, 1, 2, 3, 4, 5, 6, 7, 8, 9] rfl rfl (by decide) (by decide) hk1 hFc hP1 hD1 rfl
              have hK := (hK.sub (tys' := [(y0, .int), (y1, .int), (y4, .int), (y5, .int), (y3, .int)]) [0, 1, 2, 3, 4] rfl).app hK1
              generalize H1 = H at hP hS ⊢
              have hK : va_K (dC, dI) vwCl [(y0, .int), (y1, .int), (y4, .int), (y5, .int), (y3, .int), (y2, .int)] s := hK
              subst er70
              refine lv_goto (tgt := 150) hx hb dX2_step_142 (by decide) ?_
              exact j61 2 x3 x4 u71_0 f4 x11 x12 x13 x14 f5 f3 x15 x16 x17 x18 x19 x20 x7 u4_4 x9 x10 (iv_w (by decide : iv 2 2 2) (by decide) (by decide)) ix4 ix14 _ _ (hK.sub (tys' := _) [0, 1, 5, 2, 3, 4] rfl) (hP.sub (ws' := _) [0, 1, 2, 10, 11, 3, 4, 5, 6, 7, 8, 9] rfl) (hD.sub (ws' := _) [0, 1, 2, 10, 11, 3, 4, 5, 6, 7, 8, 9] (by decide) rfl) hS ls (lv_sub hl [2] rfl)
          · skip
            have j72 : iv r18 16384 2147483647 := iv_nltL (iv_any r18) (by decide : iv 16384 16384 16384) c28 (by decide)
            refine lv_aload_n hx hb dX2_step_122 rfl (lv_at hl 2 rfl) ?_
            refine lv_iload_n hx hb dX2_step_123 rfl (lv_at hl 0 rfl) ?_
            obtain ⟨hPc, hDc, hFc⟩ := nv_sub3 (wc := [(h0, .inr (2, [.ref h1, .ref h2, .ref h3, .int x0, .int x1, .int x2, .int x3, .int x4])), (h1, .inl (y2, 16, .inl u27_0)), (h3, .inr (1, [.ref h4, .ref h5, .ref h6, .ref h7])), (h4, .inl (y4, 32768, .inl f4)), (h7, .inr (9, [.ref h10, .ref h11, .int x11, .int x12, .int x13, .int x14])), (h11, .inl (y5, 3, .inl f5)), (h10, .inl (y3, 3, .inl f3)), (h6, .inr (5, [.int x15, .int x16, .int x17, .int x18, .int x19, .int x20])), (h5, .inr (7, [.int u4_3, .int x7, .int u4_4, .int x9, .int x10]))]) hP hD hS hA [10, 11, 3, 4, 5, 6, 7, 8, 9] (by decide) rfl
            have hKc := hK.sub (tys' := [(y2, .int), (y4, .int), (y5, .int), (y3, .int)]) [5, 2, 3, 4] rfl
            refine va_calli (va_runV (As := [.int r18]) (rest := []) ⟨hx, hb, hml, hown, hG⟩ (cX2_two_1 l dC dI h0 h1 h2 h3 h4 h5 h6 h7 h10 h11 y2 y4 y5 y3 H.size r18 x0 x1 x2 x3 x4 x11 x12 x13 x14 x15 x16 x17 x18 x19 x20 u4_3 x7 u4_4 x9 x10 u27_0 f4 f5 f3 ix4 ix14) (cwV 1 hG (gV wd_1012 wd_1014 wp_35 wd_6 wd_1015) rfl rfl rfl (by decide +kernel) ⟨Nat.le_of_ble_eq_true rfl, Nat.le_of_ble_eq_true rfl⟩) ⟨fun a U g mk q => by obtain ⟨q0, q1, qP, qK, qD⟩ := q; exact ⟨q0, q1, qP, va_K.moved (u := U) (U := U.calling g mk a) (Vm.Alike.refl U.vm) qK, qD⟩, va_recv hKc hPc (ci := 2) (q0 := 0) rfl rfl, fun U hU hW => ⟨rfl, by rw [hU], by rw [hU]; exact hPc, va_K.moved hW.alike hKc, hDc.weaken (fun _ _ _ _ => trivial)⟩⟩ rfl rfl hl.1 rfl (lv_room (Nat.le_of_ble_eq_true rfl)) dX2_step_124 ⟨by decide, by decide⟩) hS (fun q _ h => hFc q h) hFc (fun r73 u74 t H1 locs ht hvm hw hB hz1 hk1 hS => ?_)
            obtain ⟨u74_0, u74_1, u74_2, u74_3, u74_4, u74_5, u74_6, u74_7, u74_8, u74_9, u74_10, u74_11, u74_12, u74_13, u74_14, u74_15, u74_16, u74_17, u74_18, u74_19⟩ := u74
            have hw : iv r73 1 6 ∧ iv u74_1 0 1 ∧ iv u74_7 0 1 ∧ True := hw
            obtain ⟨ir73, iu74_1, iu74_7, -⟩ := hw
            obtain ⟨hP1, hK1, hD1⟩ := hB
            rw [ht] at hP1
            have hK1 := va_K.moved hvm.symm hK1
            obtain ⟨hP, hD⟩ := nv_join (wf := [(h2, .inr (3, [.ref h8, .ref h9, .int u4_0])), (h8, .inl (y0, 40, .inl u4_1)), (h9, .inl (y1, 40, .inl u4_2)), (h0, .inr (2, [.ref h1, .ref h2, .ref h3, .int x0, .int x1, .int x2, .int u74_0, .int u74_1])), (h1, .inl (y2, 16, .inl u74_2)), (h3, .inr (1, [.ref h4, .ref h5, .ref h6, .ref h7])), (h4, .inl (y4, 32768, .inl u74_3)), (h7, .inr (9, [.ref h10, .ref h11, .int u74_4, .int u74_5, .int u74_6, .int u74_7])), (h11, .inl (y5, 3, .inl u74_8)), (h10, .inl (y3, 3, .inl u74_9)), (h6, .inr (5, [.int u74_10, .int u74_11, .int u74_12, .int u74_13, .int u74_14, .int u74_15])), (h5, .inr (7, [.int u4_3, .int u74_16, .int u74_17, .int u74_18, .int u74_19]))]) hP hD [10, 11, 3, 4, 5, 6, 7, 8, 9] [0, 1, 2] rfl rfl (by decide) (by decide) hk1 hFc hP1 hD1 rfl
            have hK := (hK.sub (tys' := [(y0, .int), (y1, .int)]) [0, 1] rfl).app hK1
            generalize H1 = H at hP hS ⊢
            have hK : va_K (dC, dI) vwCl [(y0, .int), (y1, .int), (y2, .int), (y4, .int), (y5, .int), (y3, .int)] s := hK
            refine lv_goto (tgt := 150) hx hb dX2_step_127 (by decide) ?_
            exact j61 r73 u74_0 u74_1 u74_2 u74_3 u74_4 u74_5 u74_6 u74_7 u74_8 u74_9 u74_10 u74_11 u74_12 u74_13 u74_14 u74_15 u74_16 u74_17 u74_18 u74_19 ir73 iu74_1 iu74_7 _ _ hK hP hD hS ls (lv_sub hl [2] rfl)
        · skip
          subst c22
          refine lv_iconst (v := 0) hx hb dX2_step_100 (by decide) ?_
          rw [hQ]
          obtain ⟨hP9, hD9⟩ := nv_sub2 (wc := [(h0, .inr (2, [.ref h1, .ref h2, .ref h3, .int x0, .int x1, .int x2, .int x3, .int x4])), (h3, .inr (1, [.ref h4, .ref h5, .ref h6, .ref h7])), (h2, .inr (3, [.ref h8, .ref h9, .int u4_0])), (h8, .inl (y0, 40, .inl u4_1)), (h9, .inl (y1, 40, .inl u4_2)), (h5, .inr (7, [.int u4_3, .int x7, .int u4_4, .int x9, .int x10])), (h1, .inl (y2, 16, .inl f2)), (h7, .inr (9, [.ref h10, .ref h11, .int x11, .int x12, .int x13, .int x14])), (h10, .inl (y3, 3, .inl f3)), (h4, .inl (y4, 32768, .inl f4)), (h11, .inl (y5, 3, .inl f5)), (h6, .inr (5, [.int x15, .int x16, .int x17, .int x18, .int x19, .int x20]))]) hP hD [0, 5, 2, 3, 4, 11, 1, 7, 9, 6, 8, 10] (by decide) rfl
          have hK9 := hK.sub (tys' := [(y0, .int), (y1, .int), (y2, .int), (y3, .int), (y4, .int), (y5, .int)]) [1, 2, 0, 5, 3, 4] rfl
          exact W.zret (v := 0) hx hb hr rfl (fun t ht hW => ⟨⟨0, (x0, x1, x2, x3, x4, u4_0, u4_1, u4_2, u4_3, x7, u4_4, x9, x10, f2, x11, x12, x13, x14, f3, f4, f5, x15, x16, x17, x18, x19, x20), rfl, ⟨iv_w (by decide : iv 0 0 0) (by decide) (by decide), iv_w ix4 (by decide) (by decide), iv_w iu4_0 (by decide) (by decide), iv_w ix14 (by decide) (by decide), trivial⟩, by rw [ht]; exact hP9, va_K.moved hW.alike hK9, hD9⟩, hS.F ht⟩) hS.2.2 dX2_step_101
      · skip
        have j75 : iv v15 1 16 := iv_neLo iv15 (by decide : iv 0 0 0) c16 (by decide)
        refine lv_aload_n hx hb dX2_step_64 rfl (lv_at hl 1 rfl) ?_
        refine lv_dup hx hb dX2_step_65 rfl ?_
        refine va_get (D := (dC, dI)) (ci := 2) (v := .int x2) (C := RX2) (T := TX2) (N := 8) hx hb hG inGX2 hown hK hP 0 rfl rfl 5 (by decide) (hG _ wd_154) (fun _ h9 => h9) rfl dX2_step_66 ?_
        refine lv_iconst (v := 1) hx hb dX2_step_69 (by decide) ?_
        refine lv_iadd hx hb dX2_step_70 ?_
        refine lv_topi (fun v76 ev76 => ?_)
        refine va_put (D := (dC, dI)) (ci := 2) (v := .int v76) (ty := .int) (C := RX2) (T := TX2) (N := 8) hx hb hG inGX2 tyX2 tyX2_ok nmX2 hown hK hP hD hS 0 rfl rfl 5 (by decide) (hG _ wd_154) (fun _ h9 => h9) rfl (by decide +kernel) rfl rfl (Nat.le_of_ble_eq_true rfl) dX2_step_71 (fun H locs hP hD hS => ?_)
        obtain ⟨hP, hD⟩ := nv_eq (ws' := [(h0, .inr (2, [.ref h1, .ref h2, .ref h3, .int x0, .int x1, .int v76, .int x3, .int x4])), (h1, .inl (y2, 16, .inl f2)), (h7, .inr (9, [.ref h10, .ref h11, .int x11, .int x12, .int x13, .int x14])), (h10, .inl (y3, 3, .inl f3)), (h4, .inl (y4, 32768, .inl f4)), (h11, .inl (y5, 3, .inl f5)), (h6, .inr (5, [.int x15, .int x16, .int x17, .int x18, .int x19, .int x20])), (h3, .inr (1, [.ref h4, .ref h5, .ref h6, .ref h7])), (h2, .inr (3, [.ref h8, .ref h9, .int u4_0])), (h8, .inl (y0, 40, .inl u4_1)), (h9, .inl (y1, 40, .inl u4_2)), (h5, .inr (7, [.int u4_3, .int x7, .int u4_4, .int x9, .int x10]))]) hP hD rfl
        refine lv_iconst (v := 1) hx hb dX2_step_74 (by decide) ?_
        refine lv_istore_n (lv' := [(2, .int 1), (1, .int 0), (0, .ref h0)]) hx hb dX2_step_75 rfl hl (by decide) rfl (fun ls hl => ?_)
        refine lv_goto (tgt := 151) hx hb dX2_step_76 (by decide) ?_
        refine lv_aload_n hx hb dX2_step_151 rfl (lv_at hl 2 rfl) ?_
        refine lv_iload_n hx hb dX2_step_152 rfl (lv_at hl 0 rfl) ?_
        obtain ⟨hPc, hDc, hFc⟩ := nv_sub3 (wc := [(h0, .inr (2, [.ref h1, .ref h2, .ref h3, .int x0, .int x1, .int v76, .int x3, .int x4])), (h1, .inl (y2, 16, .inl f2)), (h3, .inr (1, [.ref h4, .ref h5, .ref h6, .ref h7])), (h7, .inr (9, [.ref h10, .ref h11, .int x11, .int x12, .int x13, .int x14])), (h11, .inl (y5, 3, .inl f5)), (h10, .inl (y3, 3, .inl f3))]) hP hD hS hA [0, 1, 7, 2, 5, 3] (by decide) rfl
        have hKc := hK.sub (tys' := [(y2, .int), (y5, .int), (y3, .int)]) [0, 3, 1] rfl
        refine va_callv (va_runV (As := [.int 1]) (rest := []) ⟨hx, hb, hml, hown, hG⟩ (cX2_passTime_1 l dC dI h0 h1 h2 h3 h4 h5 h6 h7 h10 h11 y2 y5 y3 H.size 1 x0 x1 v76 x3 x4 x11 x12 x13 x14 f2 f5 f3 (iv_w (by decide : iv 1 1 1) (by decide) (by decide)) ix4 ix14) (cwV 1 hG (gV wd_1085 wd_1087 wp_50 wd_6 wd_1088) rfl rfl rfl (by decide +kernel) ⟨Nat.le_of_ble_eq_true rfl, Nat.le_of_ble_eq_true rfl⟩) ⟨fun a U g mk q => by obtain ⟨q0, q1, qP, qK, qD⟩ := q; exact ⟨q0, q1, qP, va_K.moved (u := U) (U := U.calling g mk a) (Vm.Alike.refl U.vm) qK, qD⟩, va_recv hKc hPc (ci := 2) (q0 := 0) rfl rfl, fun U hU hW => ⟨rfl, by rw [hU], by rw [hU]; exact hPc, va_K.moved hW.alike hKc, hDc.weaken (fun _ _ _ _ => trivial)⟩⟩ rfl rfl hl.1 rfl (lv_room (Nat.le_of_ble_eq_true rfl)) dX2_step_153 ⟨by decide, by decide⟩) hS (fun q _ h => hFc q h) hFc (fun u78 t H1 locs ht hvm hw hB hz1 hk1 hS => ?_)
        obtain ⟨u78_0, u78_1, u78_2, u78_3, u78_4, u78_5⟩ := u78
        have hw : iv u78_4 0 1 ∧ True := hw
        obtain ⟨iu78_4, -⟩ := hw
        obtain ⟨hP1, hK1, hD1⟩ := hB
        rw [ht] at hP1
        have hK1 := va_K.moved hvm.symm hK1
        obtain ⟨hP, hD⟩ := nv_join (wf := [(h4, .inl (y4, 32768, .inl f4)), (h6, .inr (5, [.int x15, .int x16, .int x17, .int x18, .int x19, .int x20])), (h2, .inr (3, [.ref h8, .ref h9, .int u4_0])), (h8, .inl (y0, 40, .inl u4_1)), (h9, .inl (y1, 40, .inl u4_2)), (h5, .inr (7, [.int u4_3, .int x7, .int u4_4, .int x9, .int x10])), (h0, .inr (2, [.ref h1, .ref h2, .ref h3, .int u78_0, .int x1, .int v76, .int x3, .int x4])), (h1, .inl (y2, 16, .inl f2)), (h3, .inr (1, [.ref h4, .ref h5, .ref h6, .ref h7])), (h7, .inr (9, [.ref h10, .ref h11, .int u78_1, .int u78_2, .int u78_3, .int u78_4])), (h11, .inl (y5, 3, .inl f5)), (h10, .inl (y3, 3, .inl u78_5))]) hP hD [0, 1, 7, 2, 5, 3] [4, 6, 8, 9, 10, 11] rfl rfl (by decide) (by decide) hk1 hFc hP1 hD1 rfl
        have hK := (hK.sub (tys' := [(y4, .int), (y0, .int), (y1, .int)]) [2, 4, 5] rfl).app hK1
        generalize H1 = H at hP hS ⊢
        have hK : va_K (dC, dI) vwCl [(y4, .int), (y0, .int), (y1, .int), (y2, .int), (y5, .int), (y3, .int)] s := hK
        refine lv_iconst (v := 1) hx hb dX2_step_156 (by decide) ?_
        rw [hQ]
        obtain ⟨hP9, hD9⟩ := nv_sub2 (wc := [(h0, .inr (2, [.ref h1, .ref h2, .ref h3, .int u78_0, .int x1, .int v76, .int x3, .int x4])), (h3, .inr (1, [.ref h4, .ref h5, .ref h6, .ref h7])), (h2, .inr (3, [.ref h8, .ref h9, .int u4_0])), (h8, .inl (y0, 40, .inl u4_1)), (h9, .inl (y1, 40, .inl u4_2)), (h5, .inr (7, [.int u4_3, .int x7, .int u4_4, .int x9, .int x10])), (h1, .inl (y2, 16, .inl f2)), (h7, .inr (9, [.ref h10, .ref h11, .int u78_1, .int u78_2, .int u78_3, .int u78_4])), (h10, .inl (y3, 3, .inl u78_5)), (h4, .inl (y4, 32768, .inl f4)), (h11, .inl (y5, 3, .inl f5)), (h6, .inr (5, [.int x15, .int x16, .int x17, .int x18, .int x19, .int x20]))]) hP hD [6, 8, 2, 3, 4, 5, 7, 9, 11, 0, 10, 1] (by decide) rfl
        have hK9 := hK.sub (tys' := [(y0, .int), (y1, .int), (y2, .int), (y3, .int), (y4, .int), (y5, .int)]) [1, 2, 3, 5, 0, 4] rfl
        exact W.zret (v := 1) hx hb hr rfl (fun t ht hW => ⟨⟨1, (u78_0, x1, v76, x3, x4, u4_0, u4_1, u4_2, u4_3, x7, u4_4, x9, x10, f2, u78_1, u78_2, u78_3, u78_4, u78_5, f4, f5, x15, x16, x17, x18, x19, x20), rfl, ⟨iv_w (by decide : iv 1 1 1) (by decide) (by decide), iv_w ix4 (by decide) (by decide), iv_w iu4_0 (by decide) (by decide), iv_w iu78_4 (by decide) (by decide), trivial⟩, by rw [ht]; exact hP9, va_K.moved hW.alike hK9, hD9⟩, hS.F ht⟩) hS.2.2 dX2_step_157
    · skip
      have j79 : iv b11 1 65522 := iv_neLo ib11 (by decide : iv 0 0 0) c13 (by decide)
      refine lv_aload_n hx hb dX2_step_43 rfl (lv_at hl 1 rfl) ?_
      refine lv_iload_n hx hb dX2_step_44 rfl (lv_at hl 0 rfl) ?_
      obtain ⟨hPc, hDc, hFc⟩ := nv_sub3 (wc := [(h0, .inr (2, [.ref h1, .ref h2, .ref h3, .int x0, .int x1, .int x2, .int x3, .int x4])), (h3, .inr (1, [.ref h4, .ref h5, .ref h6, .ref h7])), (h7, .inr (9, [.ref h10, .ref h11, .int x11, .int x12, .int x13, .int x14])), (h10, .inl (y3, 3, .inl f3)), (h1, .inl (y2, 16, .inl f2)), (h5, .inr (7, [.int u4_3, .int x7, .int u4_4, .int x9, .int x10])), (h11, .inl (y5, 3, .inl f5)), (h6, .inr (5, [.int x15, .int x16, .int x17, .int x18, .int x19, .int x20])), (h4, .inl (y4, 32768, .inl f4))]) hP hD hS hA [0, 7, 2, 3, 1, 11, 5, 6, 4] (by decide) rfl
      have hKc := hK.sub (tys' := [(y3, .int), (y2, .int), (y5, .int), (y4, .int)]) [1, 0, 3, 2] rfl
      refine va_calli (va_runV (As := [.int b11]) (rest := []) ⟨hx, hb, hml, hown, hG⟩ (cX2_interrupt_1 l dC dI h0 h1 h2 h3 h4 h5 h6 h7 h10 h11 y3 y2 y5 y4 H.size b11 x0 x1 x2 x3 x4 x11 x12 x13 x14 u4_3 x7 u4_4 x9 x10 x15 x16 x17 x18 x19 x20 f3 f2 f5 f4 ix4 ix14) (cwV 1 hG (gV wd_989 wd_991 wp_33 wd_6 wd_992) rfl rfl rfl (by decide +kernel) ⟨Nat.le_of_ble_eq_true rfl, Nat.le_of_ble_eq_true rfl⟩) ⟨fun a U g mk q => by obtain ⟨q0, q1, qP, qK, qD⟩ := q; exact ⟨q0, q1, qP, va_K.moved (u := U) (U := U.calling g mk a) (Vm.Alike.refl U.vm) qK, qD⟩, va_recv hKc hPc (ci := 2) (q0 := 0) rfl rfl, fun U hU hW => ⟨rfl, by rw [hU], by rw [hU]; exact hPc, va_K.moved hW.alike hKc, hDc.weaken (fun _ _ _ _ => trivial)⟩⟩ rfl rfl hl.1 rfl (lv_room (Nat.le_of_ble_eq_true rfl)) dX2_step_45 ⟨by decide, by decide⟩) hS (fun q _ h => hFc q h) hFc (fun r80 u81 t H1 locs ht hvm hw hB hz1 hk1 hS => ?_)
      obtain ⟨u81_0, u81_1, u81_2, u81_3, u81_4, u81_5, u81_6, u81_7, u81_8, u81_9, u81_10, u81_11, u81_12, u81_13, u81_14, u81_15, u81_16, u81_17, u81_18⟩ := u81
      have hw : r80 = 6 ∧ iv u81_4 0 1 ∧ True := hw
      obtain ⟨er80, iu81_4, -⟩ := hw
      obtain ⟨hP1, hK1, hD1⟩ := hB
      rw [ht] at hP1
      have hK1 := va_K.moved hvm.symm hK1
      obtain ⟨hP, hD⟩ := nv_join (wf := [(h2, .inr (3, [.ref h8, .ref h9, .int u4_0])), (h8, .inl (y0, 40, .inl u4_1)), (h9, .inl (y1, 40, .inl u4_2)), (h0, .inr (2, [.ref h1, .ref h2, .ref h3, .int x0, .int u81_0, .int x2, .int x3, .int x4])), (h3, .inr (1, [.ref h4, .ref h5, .ref h6, .ref h7])), (h7, .inr (9, [.ref h10, .ref h11, .int u81_1, .int u81_2, .int u81_3, .int u81_4])), (h10, .inl (y3, 3, .inl u81_5)), (h1, .inl (y2, 16, .inl u81_6)), (h5, .inr (7, [.int u4_3, .int u81_7, .int u81_8, .int u81_9, .int u81_10])), (h11, .inl (y5, 3, .inl u81_11)), (h6, .inr (5, [.int u81_12, .int u81_13, .int u81_14, .int u81_15, .int u81_16, .int u81_17])), (h4, .inl (y4, 32768, .inl u81_18))]) hP hD [0, 7, 2, 3, 1, 11, 5, 6, 4] [8, 9, 10] rfl rfl (by decide) (by decide) hk1 hFc hP1 hD1 rfl
      have hK := (hK.sub (tys' := [(y0, .int), (y1, .int)]) [4, 5] rfl).app hK1
      generalize H1 = H at hP hS ⊢
      have hK : va_K (dC, dI) vwCl [(y0, .int), (y1, .int), (y3, .int), (y2, .int), (y5, .int), (y4, .int)] s := hK
      subst er80
      refine lv_istore_n (lv' := [(2, .int 6), (1, .int b11), (0, .ref h0)]) hx hb dX2_step_48 rfl hl (by decide) rfl (fun ls hl => ?_)
      refine lv_goto (tgt := 151) hx hb dX2_step_49 (by decide) ?_
      refine lv_aload_n hx hb dX2_step_151 rfl (lv_at hl 2 rfl) ?_
      refine lv_iload_n hx hb dX2_step_152 rfl (lv_at hl 0 rfl) ?_
      obtain ⟨hPc, hDc, hFc⟩ := nv_sub3 (wc := [(h0, .inr (2, [.ref h1, .ref h2, .ref h3, .int x0, .int u81_0, .int x2, .int x3, .int x4])), (h1, .inl (y2, 16, .inl u81_6)), (h3, .inr (1, [.ref h4, .ref h5, .ref h6, .ref h7])), (h7, .inr (9, [.ref h10, .ref h11, .int u81_1, .int u81_2, .int u81_3, .int u81_4])), (h11, .inl (y5, 3, .inl u81_11)), (h10, .inl (y3, 3, .inl u81_5))]) hP hD hS hA [3, 7, 4, 5, 9, 6] (by decide) rfl
      have hKc := hK.sub (tys' := [(y2, .int), (y5, .int), (y3, .int)]) [3, 4, 2] rfl
      refine va_callv (va_runV (As := [.int 6]) (rest := []) ⟨hx, hb, hml, hown, hG⟩ (cX2_passTime_1 l dC dI h0 h1 h2 h3 h4 h5 h6 h7 h10 h11 y2 y5 y3 H.size 6 x0 u81_0 x2 x3 x4 u81_1 u81_2 u81_3 u81_4 u81_6 u81_11 u81_5 (iv_w (by decide : iv 6 6 6) (by decide) (by decide)) ix4 iu81_4) (cwV 1 hG (gV wd_1085 wd_1087 wp_50 wd_6 wd_1088) rfl rfl rfl (by decide +kernel) ⟨Nat.le_of_ble_eq_true rfl, Nat.le_of_ble_eq_true rfl⟩) ⟨fun a U g mk q => by obtain ⟨q0, q1, qP, qK, qD⟩ := q; exact ⟨q0, q1, qP, va_K.moved (u := U) (U := U.calling g mk a) (Vm.Alike.refl U.vm) qK, qD⟩, va_recv hKc hPc (ci := 2) (q0 := 0) rfl rfl, fun U hU hW => ⟨rfl, by rw [hU], by rw [hU]; exact hPc, va_K.moved hW.alike hKc, hDc.weaken (fun _ _ _ _ => trivial)⟩⟩ rfl rfl hl.1 rfl (lv_room (Nat.le_of_ble_eq_true rfl)) dX2_step_153 ⟨by decide, by decide⟩) hS (fun q _ h => hFc q h) hFc (fun u83 t H1 locs ht hvm hw hB hz1 hk1 hS => ?_)
      obtain ⟨u83_0, u83_1, u83_2, u83_3, u83_4, u83_5⟩ := u83
      have hw : iv u83_4 0 1 ∧ True := hw
      obtain ⟨iu83_4, -⟩ := hw
      obtain ⟨hP1, hK1, hD1⟩ := hB
      rw [ht] at hP1
      have hK1 := va_K.moved hvm.symm hK1
      obtain ⟨hP, hD⟩ := nv_join (wf := [(h2, .inr (3, [.ref h8, .ref h9, .int u4_0])), (h8, .inl (y0, 40, .inl u4_1)), (h9, .inl (y1, 40, .inl u4_2)), (h5, .inr (7, [.int u4_3, .int u81_7, .int u81_8, .int u81_9, .int u81_10])), (h6, .inr (5, [.int u81_12, .int u81_13, .int u81_14, .int u81_15, .int u81_16, .int u81_17])), (h4, .inl (y4, 32768, .inl u81_18)), (h0, .inr (2, [.ref h1, .ref h2, .ref h3, .int u83_0, .int u81_0, .int x2, .int x3, .int x4])), (h1, .inl (y2, 16, .inl u81_6)), (h3, .inr (1, [.ref h4, .ref h5, .ref h6, .ref h7])), (h7, .inr (9, [.ref h10, .ref h11, .int u83_1, .int u83_2, .int u83_3, .int u83_4])), (h11, .inl (y5, 3, .inl u81_11)), (h10, .inl (y3, 3, .inl u83_5))]) hP hD [3, 7, 4, 5, 9, 6] [0, 1, 2, 8, 10, 11] rfl rfl (by decide) (by decide) hk1 hFc hP1 hD1 rfl
      have hK := (hK.sub (tys' := [(y0, .int), (y1, .int), (y4, .int)]) [0, 1, 5] rfl).app hK1
      generalize H1 = H at hP hS ⊢
      have hK : va_K (dC, dI) vwCl [(y0, .int), (y1, .int), (y4, .int), (y2, .int), (y5, .int), (y3, .int)] s := hK
      refine lv_iconst (v := 1) hx hb dX2_step_156 (by decide) ?_
      rw [hQ]
      obtain ⟨hP9, hD9⟩ := nv_sub2 (wc := [(h0, .inr (2, [.ref h1, .ref h2, .ref h3, .int u83_0, .int u81_0, .int x2, .int x3, .int x4])), (h3, .inr (1, [.ref h4, .ref h5, .ref h6, .ref h7])), (h2, .inr (3, [.ref h8, .ref h9, .int u4_0])), (h8, .inl (y0, 40, .inl u4_1)), (h9, .inl (y1, 40, .inl u4_2)), (h5, .inr (7, [.int u4_3, .int u81_7, .int u81_8, .int u81_9, .int u81_10])), (h1, .inl (y2, 16, .inl u81_6)), (h7, .inr (9, [.ref h10, .ref h11, .int u83_1, .int u83_2, .int u83_3, .int u83_4])), (h10, .inl (y3, 3, .inl u83_5)), (h4, .inl (y4, 32768, .inl u81_18)), (h11, .inl (y5, 3, .inl u81_11)), (h6, .inr (5, [.int u81_12, .int u81_13, .int u81_14, .int u81_15, .int u81_16, .int u81_17]))]) hP hD [6, 8, 0, 1, 2, 3, 7, 9, 11, 5, 10, 4] (by decide) rfl
      have hK9 := hK.sub (tys' := [(y0, .int), (y1, .int), (y2, .int), (y3, .int), (y4, .int), (y5, .int)]) [0, 1, 3, 5, 2, 4] rfl
      exact W.zret (v := 1) hx hb hr rfl (fun t ht hW => ⟨⟨1, (u83_0, u81_0, x2, x3, x4, u4_0, u4_1, u4_2, u4_3, u81_7, u81_8, u81_9, u81_10, u81_6, u83_1, u83_2, u83_3, u83_4, u83_5, u81_18, u81_11, u81_12, u81_13, u81_14, u81_15, u81_16, u81_17), rfl, ⟨iv_w (by decide : iv 1 1 1) (by decide) (by decide), iv_w ix4 (by decide) (by decide), iv_w iu4_0 (by decide) (by decide), iv_w iu83_4 (by decide) (by decide), trivial⟩, by rw [ht]; exact hP9, va_K.moved hW.alike hK9, hD9⟩, hS.F ht⟩) hS.2.2 dX2_step_157
  refine lv_if_eq (tgt := 37) hx hb dX2_step_27 (by decide) (fun c7 => ?_) (fun c7 => ?_)
  · skip
    subst c7
    refine lv_iconst (v := 0) hx hb dX2_step_37 (by decide) ?_
    exact j12 0 (iv_w (by decide : iv 0 0 0) (by decide) (by decide)) _ _ hK hP hD hS ls hl
  · skip
    have j84 : iv v6 1 8 := iv_neLo iv6 (by decide : iv 0 0 0) c7 (by decide)
    refine lv_aload_n hx hb dX2_step_30 rfl (lv_at hl 0 rfl) ?_
    obtain ⟨hPc, hDc, hFc⟩ := nv_sub3 (wc := [(h0, .inr (2, [.ref h1, .ref h2, .ref h3, .int x0, .int x1, .int x2, .int x3, .int x4])), (h3, .inr (1, [.ref h4, .ref h5, .ref h6, .ref h7])), (h7, .inr (9, [.ref h10, .ref h11, .int x11, .int x12, .int x13, .int x14])), (h10, .inl (y3, 3, .inl f3)), (h5, .inr (7, [.int u4_3, .int x7, .int u4_4, .int x9, .int x10]))]) hP hD hS hA [0, 7, 2, 3, 11] (by decide) rfl
    have hKc := hK.sub (tys' := [(y3, .int)]) [1] rfl
    refine va_calli (va_runV (As := []) (rest := []) ⟨hx, hb, hml, hown, hG⟩ (cX2_request_1 l dC dI h0 h1 h2 h3 h4 h5 h6 h7 h10 h11 y3 H.size x0 x1 x2 x3 x4 x11 x12 x13 x14 u4_3 x7 u4_4 x9 x10 f3 ix4 ix14) (cwV 0 hG (gV wd_969 wd_971 wp_32 wd_6 wd_972) rfl rfl rfl (by decide +kernel) ⟨Nat.le_of_ble_eq_true rfl, Nat.le_of_ble_eq_true rfl⟩) ⟨fun a U g mk q => by obtain ⟨q0, q1, qP, qK, qD⟩ := q; exact ⟨q0, q1, qP, va_K.moved (u := U) (U := U.calling g mk a) (Vm.Alike.refl U.vm) qK, qD⟩, va_recv hKc hPc (ci := 2) (q0 := 0) rfl rfl, fun U hU hW => ⟨rfl, by rw [hU], by rw [hU]; exact hPc, va_K.moved hW.alike hKc, hDc.weaken (fun _ _ _ _ => trivial)⟩⟩ rfl rfl hl.1 rfl (lv_room (Nat.le_of_ble_eq_true rfl)) dX2_step_31 ⟨by decide, by decide⟩) hS (fun q _ h => hFc q h) hFc (fun r85 u86 t H1 locs ht hvm hw hB hz1 hk1 hS => ?_)
    have hw : iv r85 0 65522 ∧ True := hw
    obtain ⟨ir85, -⟩ := hw
    obtain ⟨hP1, hK1, hD1⟩ := hB
    rw [ht] at hP1
    have hK1 := va_K.moved hvm.symm hK1
    obtain ⟨hP, hD⟩ := nv_join (wf := [(h1, .inl (y2, 16, .inl f2)), (h4, .inl (y4, 32768, .inl f4)), (h11, .inl (y5, 3, .inl f5)), (h6, .inr (5, [.int x15, .int x16, .int x17, .int x18, .int x19, .int x20])), (h2, .inr (3, [.ref h8, .ref h9, .int u4_0])), (h8, .inl (y0, 40, .inl u4_1)), (h9, .inl (y1, 40, .inl u4_2)), (h0, .inr (2, [.ref h1, .ref h2, .ref h3, .int x0, .int x1, .int x2, .int x3, .int x4])), (h3, .inr (1, [.ref h4, .ref h5, .ref h6, .ref h7])), (h7, .inr (9, [.ref h10, .ref h11, .int x11, .int x12, .int x13, .int x14])), (h10, .inl (y3, 3, .inl f3)), (h5, .inr (7, [.int u4_3, .int x7, .int u4_4, .int x9, .int x10]))]) hP hD [0, 7, 2, 3, 11] [1, 4, 5, 6, 8, 9, 10] rfl rfl (by decide) (by decide) hk1 hFc hP1 hD1 rfl
    have hK := (hK.sub (tys' := [(y2, .int), (y4, .int), (y5, .int), (y0, .int), (y1, .int)]) [0, 2, 3, 4, 5] rfl).app hK1
    generalize H1 = H at hP hS ⊢
    have hK : va_K (dC, dI) vwCl [(y2, .int), (y4, .int), (y5, .int), (y0, .int), (y1, .int), (y3, .int)] s := hK
    refine lv_goto (tgt := 38) hx hb dX2_step_34 (by decide) ?_
    exact j12 r85 ir85 _ _ (hK.sub (tys' := _) [0, 5, 1, 2, 3, 4] rfl) (hP.sub (ws' := _) [7, 0, 9, 10, 1, 2, 3, 8, 4, 5, 6, 11] rfl) (hD.sub (ws' := _) [7, 0, 9, 10, 1, 2, 3, 8, 4, 5, 6, 11] (by decide) rfl) hS ls hl
set_option maxHeartbeats 100000000 in
set_option maxRecDepth 100000 in
theorem cX2_registerValue_1 (l : Launch) (dC : Nat → ClassId) (dI : Nat → Nat → Nat) (h0 h1 h2 h3 : Nat) (y0 : ClassId) (sz : Nat) (x0 x1 x2 x3 x4 x5 : Int32) (f0 : Nat → Int32) (ix5 : iv x5 0 1) : Met l yX2_registerValue (Cond.code yX2_registerValue cX2_registerValue 2 (some .int) :: lw_G) ({ frames := 0, cells := 0, slots := 0, locals := 0 }) (va_Pc [.ref h0, .int x0] (fun U => U.heap.size = sz ∧ va_P (dC, dI) vwCl [(h0, .inr (2, [.ref h1, .ref h2, .ref h3, .int x1, .int x2, .int x3, .int x4, .int x5])), (h1, .inl (y0, 16, .inl f0))] U.heap ∧ va_K (dC, dI) vwCl [(y0, .int)] U ∧ va_D (fun _ => True) [(h0, .inr (2, [.ref h1, .ref h2, .ref h3, .int x1, .int x2, .int x3, .int x4, .int x5])), (h1, .inl (y0, 16, .inl f0))])) (va_Qi (fun (r : Int32) (u : Unit) => True) (fun (u : Unit) (t : State) => va_P (dC, dI) vwCl [(h0, .inr (2, [.ref h1, .ref h2, .ref h3, .int x1, .int x2, .int x3, .int x4, .int x5])), (h1, .inl (y0, 16, .inl f0))] t.heap ∧ va_K (dC, dI) vwCl [(y0, .int)] t ∧ va_D (va_A [(h0, .inr (2, [.ref h1, .ref h2, .ref h3, .int x1, .int x2, .int x3, .int x4, .int x5])), (h1, .inl (y0, 16, .inl f0))] sz) [(h0, .inr (2, [.ref h1, .ref h2, .ref h3, .int x1, .int x2, .int x3, .int x4, .int x5])), (h1, .inl (y0, 16, .inl f0))]) (va_A [(h0, .inr (2, [.ref h1, .ref h2, .ref h3, .int x1, .int x2, .int x3, .int x4, .int x5])), (h1, .inl (y0, 16, .inl f0))] sz)) 0 0 (va_A [(h0, .inr (2, [.ref h1, .ref h2, .ref h3, .int x1, .int x2, .int x3, .int x4, .int x5])), (h1, .inl (y0, 16, .inl f0))] sz) := by
  refine Met.ofW (cc := cX2_registerValue) (maxL := 2) (ret := (some .int)) (by decide) rfl ?_
  intro p e s m args below meth c s₁ B hml hv
  obtain ⟨rfl, hsz, hP, hK, hD0⟩ := hv
  have hx := B.exec
  have hb := B.bytes
  have hr := B.returns
  have hts0 := atoms_spec (ws := Cond.code yX2_registerValue cX2_registerValue 2 (some .int) :: lw_G) B.pre
  have hG : ∀ w ∈ lw_G, w.before _ s = true := fun w h => hts0 w (List.mem_cons_of_mem _ h)
  have hown : s.vm.findClass RX2 = some m.cls := findClass_of_methodNamed B.named
  have hlocks := B.notSynchronized
  subst hsz
  have hD := hD0.self (sz := s.heap.size)
  generalize hAe : va_A [(h0, .inr (2, [.ref h1, .ref h2, .ref h3, .int x1, .int x2, .int x3, .int x4, .int x5])), (h1, .inl (y0, 16, .inl f0))] s.heap.size = A at hD ⊢
  have hA : ∀ q : Nat, s.heap.size ≤ q → A q := fun q h => by rw [← hAe]; exact Or.inr h
  have hS : va_S A s.heap s.heap [] := va_S.rf
  have hP : va_P (dC, dI) vwCl [(h0, .inr (2, [.ref h1, .ref h2, .ref h3, .int x1, .int x2, .int x3, .int x4, .int x5])), (h1, .inl (y0, 16, .inl f0))] s.heap := hP
  have hl := lv_entry ([.ref h0, .int x0]) (n := 2) (Nat.le_of_ble_eq_true rfl)
  rw [lg_entry_eq]
  generalize (lg_sl ([.ref h0, .int x0]) ++ List.replicate (2 - (lg_sl ([.ref h0, .int x0])).length) Slot.unset).toArray = ls at hl ⊢
  have hl : lv_has ls 2 [(0, .ref h0), (1, .int x0)] := hl
  generalize ([.ref h0, .int x0] : List Value).toArray = ar at hG ⊢
  refine wq (fun Q hQ => ?_)
  refine lv_aload_n hx hb dX2_registerValue_0 rfl (lv_at hl 0 rfl) ?_
  refine va_get (D := (dC, dI)) (ci := 2) (v := .ref h1) (C := RX2) (T := TX2) (N := 8) hx hb hG inGX2 hown hK hP 0 rfl rfl 0 (by decide) (hG _ wd_149) (fun _ h9 => h9) rfl dX2_registerValue_1 ?_
  refine lv_iload_n hx hb dX2_registerValue_4 rfl (lv_at hl 1 rfl) ?_
  refine lv_bipush (v := 15) hx hb dX2_registerValue_5 (by decide) ?_
  refine lv_iand hx hb dX2_registerValue_7 ?_
  refine lv_topi (fun v1 ev1 => ?_)
  have iv1 : iv v1 0 15 := iv_eq ev1 (iv_and (x := x0) (iv_w (by decide : iv 15 15 15) (by decide) (by decide) : iv 15 0 15))
  refine va_iald hx hb hK hP 1 0 rfl rfl (iv_in iv1 (by decide) (by decide) : vp_in v1 16) dX2_registerValue_8 ?_
  refine lv_topi (fun v2 ev2 => ?_)
  rw [hQ]
  obtain ⟨hP9, hD9⟩ := nv_sub2 (wc := [(h0, .inr (2, [.ref h1, .ref h2, .ref h3, .int x1, .int x2, .int x3, .int x4, .int x5])), (h1, .inl (y0, 16, .inl f0))]) hP hD [0, 1] (by decide) rfl
  have hK9 := hK.sub (tys' := [(y0, .int)]) [0] rfl
  exact W.iret (v := v2) hx hb hr (fun t ht hW => ⟨⟨v2, (), rfl, trivial, by rw [ht]; exact hP9, va_K.moved hW.alike hK9, hD9⟩, hS.F ht⟩) hS.2.2 dX2_registerValue_9
set_option maxHeartbeats 100000000 in
set_option maxRecDepth 100000 in
theorem cX11_run_3 (l : Launch) (dC : Nat → ClassId) (dI : Nat → Nat → Nat) (h0 h1 h2 h3 h4 h5 h6 h7 h8 h9 h10 h11 h12 h13 h14 h15 : Nat) (y0 y1 y2 y3 y4 y5 : ClassId) (sz : Nat) (x0 x1 x2 x3 x4 x5 x6 x7 x8 x9 x10 x11 x12 x13 x14 x15 x16 x17 x18 x19 x20 x21 x22 x23 x24 : Int32) (f0 f1 f2 f3 f4 f5 : Nat → Int32) (ix0 : iv x0 0 5000) (ix2 : iv x2 0 2600) (ix8 : iv x8 0 1) (ix9 : iv x9 0 40) (ix18 : iv x18 0 1) : Met l yX11_run (Cond.code yX11_run cX11_run 4 (some .int) :: lw_G) ({ frames := 7, cells := 0, slots := 0, locals := 166 }) (va_Pc [.ref h0, .int x0, .int x1] (fun U => U.heap.size = sz ∧ va_P (dC, dI) vwCl [(h0, .inr (11, [.ref h1, .ref h2, .ref h3, .ref h4, .ref h5, .int x2, .int x3])), (h3, .inr (2, [.ref h6, .ref h7, .ref h2, .int x4, .int x5, .int x6, .int x7, .int x8])), (h2, .inr (1, [.ref h8, .ref h9, .ref h10, .ref h11])), (h7, .inr (3, [.ref h12, .ref h13, .int x9])), (h12, .inl (y0, 40, .inl f0)), (h13, .inl (y1, 40, .inl f1)), (h9, .inr (7, [.int x10, .int x11, .int x12, .int x13, .int x14])), (h6, .inl (y2, 16, .inl f2)), (h11, .inr (9, [.ref h14, .ref h15, .int x15, .int x16, .int x17, .int x18])), (h14, .inl (y3, 3, .inl f3)), (h8, .inl (y4, 32768, .inl f4)), (h15, .inl (y5, 3, .inl f5)), (h10, .inr (5, [.int x19, .int x20, .int x21, .int x22, .int x23, .int x24]))] U.heap ∧ va_K (dC, dI) vwCl [(y0, .int), (y1, .int), (y2, .int), (y3, .int), (y4, .int), (y5, .int)] U ∧ va_D (fun _ => True) [(h0, .inr (11, [.ref h1, .ref h2, .ref h3, .ref h4, .ref h5, .int x2, .int x3])), (h3, .inr (2, [.ref h6, .ref h7, .ref h2, .int x4, .int x5, .int x6, .int x7, .int x8])), (h2, .inr (1, [.ref h8, .ref h9, .ref h10, .ref h11])), (h7, .inr (3, [.ref h12, .ref h13, .int x9])), (h12, .inl (y0, 40, .inl f0)), (h13, .inl (y1, 40, .inl f1)), (h9, .inr (7, [.int x10, .int x11, .int x12, .int x13, .int x14])), (h6, .inl (y2, 16, .inl f2)), (h11, .inr (9, [.ref h14, .ref h15, .int x15, .int x16, .int x17, .int x18])), (h14, .inl (y3, 3, .inl f3)), (h8, .inl (y4, 32768, .inl f4)), (h15, .inl (y5, 3, .inl f5)), (h10, .inr (5, [.int x19, .int x20, .int x21, .int x22, .int x23, .int x24]))])) (va_Qi (fun (r : Int32) (u : Int32 × Int32 × Int32 × Int32 × Int32 × Int32 × Int32 × (Nat → Int32) × (Nat → Int32) × Int32 × Int32 × Int32 × Int32 × Int32 × (Nat → Int32) × Int32 × Int32 × Int32 × Int32 × (Nat → Int32) × (Nat → Int32) × (Nat → Int32) × Int32 × Int32 × Int32 × Int32 × Int32 × Int32) => iv r 0 2 ∧ iv u.1 0 5000 ∧ iv u.2.2.2.2.2.1 0 1 ∧ iv u.2.2.2.2.2.2.1 0 40 ∧ iv u.2.2.2.2.2.2.2.2.2.2.2.2.2.2.2.2.2.2.1 0 1 ∧ True) (fun (u : Int32 × Int32 × Int32 × Int32 × Int32 × Int32 × Int32 × (Nat → Int32) × (Nat → Int32) × Int32 × Int32 × Int32 × Int32 × Int32 × (Nat → Int32) × Int32 × Int32 × Int32 × Int32 × (Nat → Int32) × (Nat → Int32) × (Nat → Int32) × Int32 × Int32 × Int32 × Int32 × Int32 × Int32) (t : State) => va_P (dC, dI) vwCl [(h0, .inr (11, [.ref h1, .ref h2, .ref h3, .ref h4, .ref h5, .int x2, .int u.1])), (h3, .inr (2, [.ref h6, .ref h7, .ref h2, .int u.2.1, .int u.2.2.1, .int u.2.2.2.1, .int u.2.2.2.2.1, .int u.2.2.2.2.2.1])), (h2, .inr (1, [.ref h8, .ref h9, .ref h10, .ref h11])), (h7, .inr (3, [.ref h12, .ref h13, .int u.2.2.2.2.2.2.1])), (h12, .inl (y0, 40, .inl u.2.2.2.2.2.2.2.1)), (h13, .inl (y1, 40, .inl u.2.2.2.2.2.2.2.2.1)), (h9, .inr (7, [.int u.2.2.2.2.2.2.2.2.2.1, .int u.2.2.2.2.2.2.2.2.2.2.1, .int u.2.2.2.2.2.2.2.2.2.2.2.1, .int u.2.2.2.2.2.2.2.2.2.2.2.2.1, .int u.2.2.2.2.2.2.2.2.2.2.2.2.2.1])), (h6, .inl (y2, 16, .inl u.2.2.2.2.2.2.2.2.2.2.2.2.2.2.1)), (h11, .inr (9, [.ref h14, .ref h15, .int u.2.2.2.2.2.2.2.2.2.2.2.2.2.2.2.1, .int u.2.2.2.2.2.2.2.2.2.2.2.2.2.2.2.2.1, .int u.2.2.2.2.2.2.2.2.2.2.2.2.2.2.2.2.2.1, .int u.2.2.2.2.2.2.2.2.2.2.2.2.2.2.2.2.2.2.1])), (h14, .inl (y3, 3, .inl u.2.2.2.2.2.2.2.2.2.2.2.2.2.2.2.2.2.2.2.1)), (h8, .inl (y4, 32768, .inl u.2.2.2.2.2.2.2.2.2.2.2.2.2.2.2.2.2.2.2.2.1)), (h15, .inl (y5, 3, .inl u.2.2.2.2.2.2.2.2.2.2.2.2.2.2.2.2.2.2.2.2.2.1)), (h10, .inr (5, [.int u.2.2.2.2.2.2.2.2.2.2.2.2.2.2.2.2.2.2.2.2.2.2.1, .int u.2.2.2.2.2.2.2.2.2.2.2.2.2.2.2.2.2.2.2.2.2.2.2.1, .int u.2.2.2.2.2.2.2.2.2.2.2.2.2.2.2.2.2.2.2.2.2.2.2.2.1, .int u.2.2.2.2.2.2.2.2.2.2.2.2.2.2.2.2.2.2.2.2.2.2.2.2.2.1, .int u.2.2.2.2.2.2.2.2.2.2.2.2.2.2.2.2.2.2.2.2.2.2.2.2.2.2.1, .int u.2.2.2.2.2.2.2.2.2.2.2.2.2.2.2.2.2.2.2.2.2.2.2.2.2.2.2]))] t.heap ∧ va_K (dC, dI) vwCl [(y0, .int), (y1, .int), (y2, .int), (y3, .int), (y4, .int), (y5, .int)] t ∧ va_D (va_A [(h0, .inr (11, [.ref h1, .ref h2, .ref h3, .ref h4, .ref h5, .int x2, .int x3])), (h3, .inr (2, [.ref h6, .ref h7, .ref h2, .int x4, .int x5, .int x6, .int x7, .int x8])), (h2, .inr (1, [.ref h8, .ref h9, .ref h10, .ref h11])), (h7, .inr (3, [.ref h12, .ref h13, .int x9])), (h12, .inl (y0, 40, .inl f0)), (h13, .inl (y1, 40, .inl f1)), (h9, .inr (7, [.int x10, .int x11, .int x12, .int x13, .int x14])), (h6, .inl (y2, 16, .inl f2)), (h11, .inr (9, [.ref h14, .ref h15, .int x15, .int x16, .int x17, .int x18])), (h14, .inl (y3, 3, .inl f3)), (h8, .inl (y4, 32768, .inl f4)), (h15, .inl (y5, 3, .inl f5)), (h10, .inr (5, [.int x19, .int x20, .int x21, .int x22, .int x23, .int x24]))] sz) [(h0, .inr (11, [.ref h1, .ref h2, .ref h3, .ref h4, .ref h5, .int x2, .int u.1])), (h3, .inr (2, [.ref h6, .ref h7, .ref h2, .int u.2.1, .int u.2.2.1, .int u.2.2.2.1, .int u.2.2.2.2.1, .int u.2.2.2.2.2.1])), (h2, .inr (1, [.ref h8, .ref h9, .ref h10, .ref h11])), (h7, .inr (3, [.ref h12, .ref h13, .int u.2.2.2.2.2.2.1])), (h12, .inl (y0, 40, .inl u.2.2.2.2.2.2.2.1)), (h13, .inl (y1, 40, .inl u.2.2.2.2.2.2.2.2.1)), (h9, .inr (7, [.int u.2.2.2.2.2.2.2.2.2.1, .int u.2.2.2.2.2.2.2.2.2.2.1, .int u.2.2.2.2.2.2.2.2.2.2.2.1, .int u.2.2.2.2.2.2.2.2.2.2.2.2.1, .int u.2.2.2.2.2.2.2.2.2.2.2.2.2.1])), (h6, .inl (y2, 16, .inl u.2.2.2.2.2.2.2.2.2.2.2.2.2.2.1)), (h11, .inr (9, [.ref h14, .ref h15, .int u.2.2.2.2.2.2.2.2.2.2.2.2.2.2.2.1, .int u.2.2.2.2.2.2.2.2.2.2.2.2.2.2.2.2.1, .int u.2.2.2.2.2.2.2.2.2.2.2.2.2.2.2.2.2.1, .int u.2.2.2.2.2.2.2.2.2.2.2.2.2.2.2.2.2.2.1])), (h14, .inl (y3, 3, .inl u.2.2.2.2.2.2.2.2.2.2.2.2.2.2.2.2.2.2.2.1)), (h8, .inl (y4, 32768, .inl u.2.2.2.2.2.2.2.2.2.2.2.2.2.2.2.2.2.2.2.2.1)), (h15, .inl (y5, 3, .inl u.2.2.2.2.2.2.2.2.2.2.2.2.2.2.2.2.2.2.2.2.2.1)), (h10, .inr (5, [.int u.2.2.2.2.2.2.2.2.2.2.2.2.2.2.2.2.2.2.2.2.2.2.1, .int u.2.2.2.2.2.2.2.2.2.2.2.2.2.2.2.2.2.2.2.2.2.2.2.1, .int u.2.2.2.2.2.2.2.2.2.2.2.2.2.2.2.2.2.2.2.2.2.2.2.2.1, .int u.2.2.2.2.2.2.2.2.2.2.2.2.2.2.2.2.2.2.2.2.2.2.2.2.2.1, .int u.2.2.2.2.2.2.2.2.2.2.2.2.2.2.2.2.2.2.2.2.2.2.2.2.2.2.1, .int u.2.2.2.2.2.2.2.2.2.2.2.2.2.2.2.2.2.2.2.2.2.2.2.2.2.2.2]))]) (va_A [(h0, .inr (11, [.ref h1, .ref h2, .ref h3, .ref h4, .ref h5, .int x2, .int x3])), (h3, .inr (2, [.ref h6, .ref h7, .ref h2, .int x4, .int x5, .int x6, .int x7, .int x8])), (h2, .inr (1, [.ref h8, .ref h9, .ref h10, .ref h11])), (h7, .inr (3, [.ref h12, .ref h13, .int x9])), (h12, .inl (y0, 40, .inl f0)), (h13, .inl (y1, 40, .inl f1)), (h9, .inr (7, [.int x10, .int x11, .int x12, .int x13, .int x14])), (h6, .inl (y2, 16, .inl f2)), (h11, .inr (9, [.ref h14, .ref h15, .int x15, .int x16, .int x17, .int x18])), (h14, .inl (y3, 3, .inl f3)), (h8, .inl (y4, 32768, .inl f4)), (h15, .inl (y5, 3, .inl f5)), (h10, .inr (5, [.int x19, .int x20, .int x21, .int x22, .int x23, .int x24]))] sz)) 0 0 (va_A [(h0, .inr (11, [.ref h1, .ref h2, .ref h3, .ref h4, .ref h5, .int x2, .int x3])), (h3, .inr (2, [.ref h6, .ref h7, .ref h2, .int x4, .int x5, .int x6, .int x7, .int x8])), (h2, .inr (1, [.ref h8, .ref h9, .ref h10, .ref h11])), (h7, .inr (3, [.ref h12, .ref h13, .int x9])), (h12, .inl (y0, 40, .inl f0)), (h13, .inl (y1, 40, .inl f1)), (h9, .inr (7, [.int x10, .int x11, .int x12, .int x13, .int x14])), (h6, .inl (y2, 16, .inl f2)), (h11, .inr (9, [.ref h14, .ref h15, .int x15, .int x16, .int x17, .int x18])), (h14, .inl (y3, 3, .inl f3)), (h8, .inl (y4, 32768, .inl f4)), (h15, .inl (y5, 3, .inl f5)), (h10, .inr (5, [.int x19, .int x20, .int x21, .int x22, .int x23, .int x24]))] sz) := by
  refine Met.ofW (cc := cX11_run) (maxL := 4) (ret := (some .int)) (by decide) rfl ?_
  intro p e s m args below meth c s₁ B hml hv
  obtain ⟨rfl, hsz, hP, hK, hD0⟩ := hv
  have hx := B.exec
  have hb := B.bytes
  have hr := B.returns
  have hts0 := atoms_spec (ws := Cond.code yX11_run cX11_run 4 (some .int) :: lw_G) B.pre
  have hG : ∀ w ∈ lw_G, w.before _ s = true := fun w h => hts0 w (List.mem_cons_of_mem _ h)
  have hown : s.vm.findClass RX11 = some m.cls := findClass_of_methodNamed B.named
  have hlocks := B.notSynchronized
  subst hsz
  have hD := hD0.self (sz := s.heap.size)
  generalize hAe : va_A [(h0, .inr (11, [.ref h1, .ref h2, .ref h3, .ref h4, .ref h5, .int x2, .int x3])), (h3, .inr (2, [.ref h6, .ref h7, .ref h2, .int x4, .int x5, .int x6, .int x7, .int x8])), (h2, .inr (1, [.ref h8, .ref h9, .ref h10, .ref h11])), (h7, .inr (3, [.ref h12, .ref h13, .int x9])), (h12, .inl (y0, 40, .inl f0)), (h13, .inl (y1, 40, .inl f1)), (h9, .inr (7, [.int x10, .int x11, .int x12, .int x13, .int x14])), (h6, .inl (y2, 16, .inl f2)), (h11, .inr (9, [.ref h14, .ref h15, .int x15, .int x16, .int x17, .int x18])), (h14, .inl (y3, 3, .inl f3)), (h8, .inl (y4, 32768, .inl f4)), (h15, .inl (y5, 3, .inl f5)), (h10, .inr (5, [.int x19, .int x20, .int x21, .int x22, .int x23, .int x24]))] s.heap.size = A at hD ⊢
  have hA : ∀ q : Nat, s.heap.size ≤ q → A q := fun q h => by rw [← hAe]; exact Or.inr h
  have hS : va_S A s.heap s.heap [] := va_S.rf
  have hP : va_P (dC, dI) vwCl [(h0, .inr (11, [.ref h1, .ref h2, .ref h3, .ref h4, .ref h5, .int x2, .int x3])), (h3, .inr (2, [.ref h6, .ref h7, .ref h2, .int x4, .int x5, .int x6, .int x7, .int x8])), (h2, .inr (1, [.ref h8, .ref h9, .ref h10, .ref h11])), (h7, .inr (3, [.ref h12, .ref h13, .int x9])), (h12, .inl (y0, 40, .inl f0)), (h13, .inl (y1, 40, .inl f1)), (h9, .inr (7, [.int x10, .int x11, .int x12, .int x13, .int x14])), (h6, .inl (y2, 16, .inl f2)), (h11, .inr (9, [.ref h14, .ref h15, .int x15, .int x16, .int x17, .int x18])), (h14, .inl (y3, 3, .inl f3)), (h8, .inl (y4, 32768, .inl f4)), (h15, .inl (y5, 3, .inl f5)), (h10, .inr (5, [.int x19, .int x20, .int x21, .int x22, .int x23, .int x24]))] s.heap := hP
  have hl := lv_entry ([.ref h0, .int x0, .int x1]) (n := 4) (Nat.le_of_ble_eq_true rfl)
  rw [lg_entry_eq]
  generalize (lg_sl ([.ref h0, .int x0, .int x1]) ++ List.replicate (4 - (lg_sl ([.ref h0, .int x0, .int x1])).length) Slot.unset).toArray = ls at hl ⊢
  have hl : lv_has ls 4 [(0, .ref h0), (1, .int x0), (2, .int x1)] := hl
  generalize ([.ref h0, .int x0, .int x1] : List Value).toArray = ar at hG ⊢
  refine wq (fun Q hQ => ?_)
  refine lv_iload_n hx hb dX11_run_0 rfl (lv_at hl 1 rfl) ?_
  refine lv_if_lt (tgt := 11) hx hb dX11_run_1 (by decide) (fun c => absurd c (iv_nlt ix0 (by decide : iv 0 0 0) (by decide))) (fun _ => ?_)
  refine lv_iload_n hx hb dX11_run_4 rfl (lv_at hl 1 rfl) ?_
  refine lv_sipush (v := 5000) hx hb dX11_run_5 (by decide) ?_
  refine lv_icmp_le (tgt := 21) hx hb dX11_run_8 (by decide) (fun _ => ?_) (fun c => absurd (iv_le ix0 (by decide : iv 5000 5000 5000) (by decide)) c)
  refine lv_aload_n hx hb dX11_run_21 rfl (lv_at hl 0 rfl) ?_
  refine lv_iconst (v := 0) hx hb dX11_run_22 (by decide) ?_
  refine va_put (D := (dC, dI)) (ci := 11) (v := .int 0) (ty := .int) (C := RX11) (T := TX11) (N := 7) hx hb hG inGX11 tyX11 tyX11_ok nmX11 hown hK hP hD hS 0 rfl rfl 6 (by decide) (hG _ wd_401) (fun _ h9 => h9) rfl (by decide +kernel) rfl rfl (Nat.le_of_ble_eq_true rfl) dX11_run_23 (fun H locs hP hD hS => ?_)
  obtain ⟨hP, hD⟩ := nv_eq (ws' := [(h0, .inr (11, [.ref h1, .ref h2, .ref h3, .ref h4, .ref h5, .int x2, .int 0])), (h3, .inr (2, [.ref h6, .ref h7, .ref h2, .int x4, .int x5, .int x6, .int x7, .int x8])), (h2, .inr (1, [.ref h8, .ref h9, .ref h10, .ref h11])), (h7, .inr (3, [.ref h12, .ref h13, .int x9])), (h12, .inl (y0, 40, .inl f0)), (h13, .inl (y1, 40, .inl f1)), (h9, .inr (7, [.int x10, .int x11, .int x12, .int x13, .int x14])), (h6, .inl (y2, 16, .inl f2)), (h11, .inr (9, [.ref h14, .ref h15, .int x15, .int x16, .int x17, .int x18])), (h14, .inl (y3, 3, .inl f3)), (h8, .inl (y4, 32768, .inl f4)), (h15, .inl (y5, 3, .inl f5)), (h10, .inr (5, [.int x19, .int x20, .int x21, .int x22, .int x23, .int x24]))]) hP hD rfl
  refine lv_iconst (v := 1) hx hb dX11_run_26 (by decide) ?_
  refine lv_istore_n (lv' := [(3, .int 1), (0, .ref h0), (1, .int x0), (2, .int x1)]) hx hb dX11_run_27 rfl hl (by decide) rfl (fun ls hl => ?_)
  refine jcut (a := ∀ (n : Nat) (b1691 : Int32) (b1692 : Int32) (b1693 : Int32) (b1694 : Int32) (b1695 : Int32) (b1696 : Int32) (b1697 : Int32) (b1698 : Int32) (b1699 : Nat → Int32) (b1700 : Nat → Int32) (b1701 : Int32) (b1702 : Int32) (b1703 : Int32) (b1704 : Int32) (b1705 : Int32) (b1706 : Nat → Int32) (b1707 : Int32) (b1708 : Int32) (b1709 : Int32) (b1710 : Int32) (b1711 : Nat → Int32) (b1712 : Nat → Int32) (b1713 : Nat → Int32) (b1714 : Int32) (b1715 : Int32) (b1716 : Int32) (b1717 : Int32) (b1718 : Int32) (b1719 : Int32) (ib1691 : iv b1691 1 5001) (ib1692 : iv b1692 0 5000) (ib1697 : iv b1697 0 1) (ib1698 : iv b1698 0 40) (ib1710 : iv b1710 0 1) (hm : (5001 - b1691.toInt).toNat < n) (H : Heap) (locs : List Loc) (hK : va_K (dC, dI) vwCl [(y0, .int), (y1, .int), (y2, .int), (y3, .int), (y4, .int), (y5, .int)] s) (hP : va_P (dC, dI) vwCl [(h0, .inr (11, [.ref h1, .ref h2, .ref h3, .ref h4, .ref h5, .int x2, .int b1692])), (h3, .inr (2, [.ref h6, .ref h7, .ref h2, .int b1693, .int b1694, .int b1695, .int b1696, .int b1697])), (h2, .inr (1, [.ref h8, .ref h9, .ref h10, .ref h11])), (h7, .inr (3, [.ref h12, .ref h13, .int b1698])), (h12, .inl (y0, 40, .inl b1699)), (h13, .inl (y1, 40, .inl b1700)), (h9, .inr (7, [.int b1701, .int b1702, .int b1703, .int b1704, .int b1705])), (h6, .inl (y2, 16, .inl b1706)), (h11, .inr (9, [.ref h14, .ref h15, .int b1707, .int b1708, .int b1709, .int b1710])), (h14, .inl (y3, 3, .inl b1711)), (h8, .inl (y4, 32768, .inl b1712)), (h15, .inl (y5, 3, .inl b1713)), (h10, .inr (5, [.int b1714, .int b1715, .int b1716, .int b1717, .int b1718, .int b1719]))] H) (hD : va_D A [(h0, .inr (11, [.ref h1, .ref h2, .ref h3, .ref h4, .ref h5, .int x2, .int b1692])), (h3, .inr (2, [.ref h6, .ref h7, .ref h2, .int b1693, .int b1694, .int b1695, .int b1696, .int b1697])), (h2, .inr (1, [.ref h8, .ref h9, .ref h10, .ref h11])), (h7, .inr (3, [.ref h12, .ref h13, .int b1698])), (h12, .inl (y0, 40, .inl b1699)), (h13, .inl (y1, 40, .inl b1700)), (h9, .inr (7, [.int b1701, .int b1702, .int b1703, .int b1704, .int b1705])), (h6, .inl (y2, 16, .inl b1706)), (h11, .inr (9, [.ref h14, .ref h15, .int b1707, .int b1708, .int b1709, .int b1710])), (h14, .inl (y3, 3, .inl b1711)), (h8, .inl (y4, 32768, .inl b1712)), (h15, .inl (y5, 3, .inl b1713)), (h10, .inr (5, [.int b1714, .int b1715, .int b1716, .int b1717, .int b1718, .int b1719]))]) (hS : va_S A s.heap H locs) (ls : Array Slot) (hl : lv_has ls 4 [(3, .int b1691), (0, .ref h0), (1, .int x0), (2, .int x1)]), W p l e (headSpec (Cond.code yX11_run cX11_run 4 (some .int) :: lw_G) ({ frames := 7, cells := 0, slots := 0, locals := 166 })).room s m ar below meth c H locs 0 0 Q (F0 m 28 ls [])) ?_ (fun lp1762 => ?_)
  · skip
    intro n
    induction n with
    | zero => intro b1691 b1692 b1693 b1694 b1695 b1696 b1697 b1698 b1699 b1700 b1701 b1702 b1703 b1704 b1705 b1706 b1707 b1708 b1709 b1710 b1711 b1712 b1713 b1714 b1715 b1716 b1717 b1718 b1719 ib1691 ib1692 ib1697 ib1698 ib1710 hm H locs hK hP hD hS ls hl; exact absurd hm (Nat.not_lt_zero _)
    | succ n ih =>
      intro b1691 b1692 b1693 b1694 b1695 b1696 b1697 b1698 b1699 b1700 b1701 b1702 b1703 b1704 b1705 b1706 b1707 b1708 b1709 b1710 b1711 b1712 b1713 b1714 b1715 b1716 b1717 b1718 b1719 ib1691 ib1692 ib1697 ib1698 ib1710 hm H locs hK hP hD hS ls hl
      refine lv_iload_n hx hb dX11_run_28 rfl (lv_at hl 0 rfl) ?_
      refine lv_iload_n hx hb dX11_run_29 rfl (lv_at hl 2 rfl) ?_
      refine lv_icmp_gt (tgt := 70) hx hb dX11_run_30 (by decide) (fun c1763 => ?_) (fun c1763 => ?_)
      · skip
        have rl1764 : x0.toInt < b1691.toInt := Int32.lt_iff_toInt_lt.mp c1763
        refine lv_iconst (v := 0) hx hb dX11_run_70 (by decide) ?_
        rw [hQ]
        obtain ⟨hP9, hD9⟩ := nv_sub2 (wc := [(h0, .inr (11, [.ref h1, .ref h2, .ref h3, .ref h4, .ref h5, .int x2, .int b1692])), (h3, .inr (2, [.ref h6, .ref h7, .ref h2, .int b1693, .int b1694, .int b1695, .int b1696, .int b1697])), (h2, .inr (1, [.ref h8, .ref h9, .ref h10, .ref h11])), (h7, .inr (3, [.ref h12, .ref h13, .int b1698])), (h12, .inl (y0, 40, .inl b1699)), (h13, .inl (y1, 40, .inl b1700)), (h9, .inr (7, [.int b1701, .int b1702, .int b1703, .int b1704, .int b1705])), (h6, .inl (y2, 16, .inl b1706)), (h11, .inr (9, [.ref h14, .ref h15, .int b1707, .int b1708, .int b1709, .int b1710])), (h14, .inl (y3, 3, .inl b1711)), (h8, .inl (y4, 32768, .inl b1712)), (h15, .inl (y5, 3, .inl b1713)), (h10, .inr (5, [.int b1714, .int b1715, .int b1716, .int b1717, .int b1718, .int b1719]))]) hP hD [0, 1, 2, 3, 4, 5, 6, 7, 8, 9, 10, 11, 12] (by decide) rfl
        have hK9 := hK.sub (tys' := [(y0, .int), (y1, .int), (y2, .int), (y3, .int), (y4, .int), (y5, .int)]) [0, 1, 2, 3, 4, 5] rfl
        exact W.iret (v := 0) hx hb hr (fun t ht hW => ⟨⟨0, (b1692, b1693, b1694, b1695, b1696, b1697, b1698, b1699, b1700, b1701, b1702, b1703, b1704, b1705, b1706, b1707, b1708, b1709, b1710, b1711, b1712, b1713, b1714, b1715, b1716, b1717, b1718, b1719), rfl, ⟨iv_w (by decide : iv 0 0 0) (by decide) (by decide), iv_w ib1692 (by decide) (by decide), iv_w ib1697 (by decide) (by decide), iv_w ib1698 (by decide) (by decide), iv_w ib1710 (by decide) (by decide), trivial⟩, by rw [ht]; exact hP9, va_K.moved hW.alike hK9, hD9⟩, hS.F ht⟩) hS.2.2 dX11_run_71
      · skip
        have rl1765 : b1691.toInt ≤ x0.toInt := iv_nlt2 c1763
        have j1766 : iv x0 1 5000 := iv_nltL ix0 ib1691 c1763 (by decide)
        have j1767 : iv b1691 1 5000 := iv_nltR ix0 ib1691 c1763 (by decide)
        refine lv_aload_n hx hb dX11_run_33 rfl (lv_at hl 1 rfl) ?_
        refine va_get (D := (dC, dI)) (ci := 11) (v := .ref h3) (C := RX11) (T := TX11) (N := 7) hx hb hG inGX11 hown hK hP 0 rfl rfl 2 (by decide) (hG _ wd_397) (fun _ h9 => h9) rfl dX11_run_34 ?_
        obtain ⟨hPc, hDc, hFc⟩ := nv_sub3 (wc := [(h3, .inr (2, [.ref h6, .ref h7, .ref h2, .int b1693, .int b1694, .int b1695, .int b1696, .int b1697])), (h2, .inr (1, [.ref h8, .ref h9, .ref h10, .ref h11])), (h7, .inr (3, [.ref h12, .ref h13, .int b1698])), (h12, .inl (y0, 40, .inl b1699)), (h13, .inl (y1, 40, .inl b1700)), (h9, .inr (7, [.int b1701, .int b1702, .int b1703, .int b1704, .int b1705])), (h6, .inl (y2, 16, .inl b1706)), (h11, .inr (9, [.ref h14, .ref h15, .int b1707, .int b1708, .int b1709, .int b1710])), (h14, .inl (y3, 3, .inl b1711)), (h8, .inl (y4, 32768, .inl b1712)), (h15, .inl (y5, 3, .inl b1713)), (h10, .inr (5, [.int b1714, .int b1715, .int b1716, .int b1717, .int b1718, .int b1719]))]) hP hD hS hA [1, 2, 3, 4, 5, 6, 7, 8, 9, 10, 11, 12] (by decide) rfl
        have hKc := hK.sub (tys' := [(y0, .int), (y1, .int), (y2, .int), (y3, .int), (y4, .int), (y5, .int)]) [0, 1, 2, 3, 4, 5] rfl
        refine va_calli (va_runV (As := []) (rest := []) ⟨hx, hb, hml, hown, hG⟩ (cX2_step_1 l dC dI h3 h6 h7 h2 h8 h9 h10 h11 h12 h13 h14 h15 y0 y1 y2 y3 y4 y5 H.size b1693 b1694 b1695 b1696 b1697 b1698 b1701 b1702 b1703 b1704 b1705 b1707 b1708 b1709 b1710 b1714 b1715 b1716 b1717 b1718 b1719 b1699 b1700 b1706 b1711 b1712 b1713 ib1697 ib1698 ib1710) (cwV 0 hG (gV wd_953 wd_954 wd_955 wd_6 wd_956) rfl rfl rfl (by decide +kernel) ⟨Nat.le_of_ble_eq_true rfl, Nat.le_of_ble_eq_true rfl⟩) ⟨fun a U g mk q => by obtain ⟨q0, q1, qP, qK, qD⟩ := q; exact ⟨q0, q1, qP, va_K.moved (u := U) (U := U.calling g mk a) (Vm.Alike.refl U.vm) qK, qD⟩, va_recv hKc hPc (ci := 2) (q0 := 0) rfl rfl, fun U hU hW => ⟨rfl, by rw [hU], by rw [hU]; exact hPc, va_K.moved hW.alike hKc, hDc.weaken (fun _ _ _ _ => trivial)⟩⟩ rfl rfl hl.1 rfl (lv_room (Nat.le_of_ble_eq_true rfl)) dX11_run_37 ⟨by decide, by decide⟩) hS (fun q _ h => hFc q h) hFc (fun r1768 u1769 t H1 locs ht hvm hw hB hz1 hk1 hS => ?_)
        obtain ⟨u1769_0, u1769_1, u1769_2, u1769_3, u1769_4, u1769_5, u1769_6, u1769_7, u1769_8, u1769_9, u1769_10, u1769_11, u1769_12, u1769_13, u1769_14, u1769_15, u1769_16, u1769_17, u1769_18, u1769_19, u1769_20, u1769_21, u1769_22, u1769_23, u1769_24, u1769_25, u1769_26⟩ := u1769
        have hw : iv r1768 0 1 ∧ iv u1769_4 0 1 ∧ iv u1769_5 0 40 ∧ iv u1769_17 0 1 ∧ True := hw
        obtain ⟨ir1768, iu1769_4, iu1769_5, iu1769_17, -⟩ := hw
        obtain ⟨hP1, hK1, hD1⟩ := hB
        rw [ht] at hP1
        have hK1 := va_K.moved hvm.symm hK1
        obtain ⟨hP, hD⟩ := nv_join (wf := [(h0, .inr (11, [.ref h1, .ref h2, .ref h3, .ref h4, .ref h5, .int x2, .int b1692])), (h3, .inr (2, [.ref h6, .ref h7, .ref h2, .int u1769_0, .int u1769_1, .int u1769_2, .int u1769_3, .int u1769_4])), (h2, .inr (1, [.ref h8, .ref h9, .ref h10, .ref h11])), (h7, .inr (3, [.ref h12, .ref h13, .int u1769_5])), (h12, .inl (y0, 40, .inl u1769_6)), (h13, .inl (y1, 40, .inl u1769_7)), (h9, .inr (7, [.int u1769_8, .int u1769_9, .int u1769_10, .int u1769_11, .int u1769_12])), (h6, .inl (y2, 16, .inl u1769_13)), (h11, .inr (9, [.ref h14, .ref h15, .int u1769_14, .int u1769_15, .int u1769_16, .int u1769_17])), (h14, .inl (y3, 3, .inl u1769_18)), (h8, .inl (y4, 32768, .inl u1769_19)), (h15, .inl (y5, 3, .inl u1769_20)), (h10, .inr (5, [.int u1769_21, .int u1769_22, .int u1769_23, .int u1769_24, .int u1769_25, .int u1769_26]))]) hP hD [1, 2, 3, 4, 5, 6, 7, 8, 9, 10, 11, 12] [0] rfl rfl (by decide) (by decide) hk1 hFc hP1 hD1 rfl
        have hK := (hK.sub (tys' := []) [] rfl).app hK1
        generalize H1 = H at hP hS ⊢
        have hK : va_K (dC, dI) vwCl [(y0, .int), (y1, .int), (y2, .int), (y3, .int), (y4, .int), (y5, .int)] s := hK
        refine lv_if_ne (tgt := 45) hx hb dX11_run_40 (by decide) (fun c1770 => ?_) (fun c1770 => ?_)
        · skip
          have j1771 : iv r1768 1 1 := iv_neLo ir1768 (by decide : iv 0 0 0) c1770 (by decide)
          refine lv_aload_n hx hb dX11_run_45 rfl (lv_at hl 1 rfl) ?_
          refine lv_iload_n hx hb dX11_run_46 rfl (lv_at hl 0 rfl) ?_
          refine va_put (D := (dC, dI)) (ci := 11) (v := .int b1691) (ty := .int) (C := RX11) (T := TX11) (N := 7) hx hb hG inGX11 tyX11 tyX11_ok nmX11 hown hK hP hD hS 0 rfl rfl 6 (by decide) (hG _ wd_401) (fun _ h9 => h9) rfl (by decide +kernel) rfl rfl (Nat.le_of_ble_eq_true rfl) dX11_run_47 (fun H locs hP hD hS => ?_)
          obtain ⟨hP, hD⟩ := nv_eq (ws' := [(h0, .inr (11, [.ref h1, .ref h2, .ref h3, .ref h4, .ref h5, .int x2, .int b1691])), (h3, .inr (2, [.ref h6, .ref h7, .ref h2, .int u1769_0, .int u1769_1, .int u1769_2, .int u1769_3, .int u1769_4])), (h2, .inr (1, [.ref h8, .ref h9, .ref h10, .ref h11])), (h7, .inr (3, [.ref h12, .ref h13, .int u1769_5])), (h12, .inl (y0, 40, .inl u1769_6)), (h13, .inl (y1, 40, .inl u1769_7)), (h9, .inr (7, [.int u1769_8, .int u1769_9, .int u1769_10, .int u1769_11, .int u1769_12])), (h6, .inl (y2, 16, .inl u1769_13)), (h11, .inr (9, [.ref h14, .ref h15, .int u1769_14, .int u1769_15, .int u1769_16, .int u1769_17])), (h14, .inl (y3, 3, .inl u1769_18)), (h8, .inl (y4, 32768, .inl u1769_19)), (h15, .inl (y5, 3, .inl u1769_20)), (h10, .inr (5, [.int u1769_21, .int u1769_22, .int u1769_23, .int u1769_24, .int u1769_25, .int u1769_26]))]) hP hD rfl
          refine lv_aload_n hx hb dX11_run_50 rfl (lv_at hl 1 rfl) ?_
          refine va_get (D := (dC, dI)) (ci := 11) (v := .ref h3) (C := RX11) (T := TX11) (N := 7) hx hb hG inGX11 hown hK hP 0 rfl rfl 2 (by decide) (hG _ wd_397) (fun _ h9 => h9) rfl dX11_run_51 ?_
          refine lv_iconst (v := 0) hx hb dX11_run_54 (by decide) ?_
          obtain ⟨hPc, hDc, hFc⟩ := nv_sub3 (wc := [(h3, .inr (2, [.ref h6, .ref h7, .ref h2, .int u1769_0, .int u1769_1, .int u1769_2, .int u1769_3, .int u1769_4])), (h6, .inl (y2, 16, .inl u1769_13))]) hP hD hS hA [1, 7] (by decide) rfl
          have hKc := hK.sub (tys' := [(y2, .int)]) [2] rfl
          refine va_calli (va_runV (As := [.int 0]) (rest := []) ⟨hx, hb, hml, hown, hG⟩ (cX2_registerValue_1 l dC dI h3 h6 h7 h2 y2 H.size 0 u1769_0 u1769_1 u1769_2 u1769_3 u1769_4 u1769_13 iu1769_4) (cwV 1 hG (gV wd_1114 wd_1115 wd_1116 wd_6 wd_1117) rfl rfl rfl (by decide +kernel) ⟨Nat.le_of_ble_eq_true rfl, Nat.le_of_ble_eq_true rfl⟩) ⟨fun a U g mk q => by obtain ⟨q0, q1, qP, qK, qD⟩ := q; exact ⟨q0, q1, qP, va_K.moved (u := U) (U := U.calling g mk a) (Vm.Alike.refl U.vm) qK, qD⟩, va_recv hKc hPc (ci := 2) (q0 := 0) rfl rfl, fun U hU hW => ⟨rfl, by rw [hU], by rw [hU]; exact hPc, va_K.moved hW.alike hKc, hDc.weaken (fun _ _ _ _ => trivial)⟩⟩ rfl rfl hl.1 rfl (lv_room (Nat.le_of_ble_eq_true rfl)) dX11_run_55 ⟨by decide, by decide⟩) hS (fun q _ h => hFc q h) hFc (fun r1772 u1773 t H1 locs ht hvm hw hB hz1 hk1 hS => ?_)
          obtain ⟨hP1, hK1, hD1⟩ := hB
          rw [ht] at hP1
          have hK1 := va_K.moved hvm.symm hK1
          obtain ⟨hP, hD⟩ := nv_join (wf := [(h0, .inr (11, [.ref h1, .ref h2, .ref h3, .ref h4, .ref h5, .int x2, .int b1691])), (h2, .inr (1, [.ref h8, .ref h9, .ref h10, .ref h11])), (h7, .inr (3, [.ref h12, .ref h13, .int u1769_5])), (h12, .inl (y0, 40, .inl u1769_6)), (h13, .inl (y1, 40, .inl u1769_7)), (h9, .inr (7, [.int u1769_8, .int u1769_9, .int u1769_10, .int u1769_11, .int u1769_12])), (h11, .inr (9, [.ref h14, .ref h15, .int u1769_14, .int u1769_15, .int u1769_16, .int u1769_17])), (h14, .inl (y3, 3, .inl u1769_18)), (h8, .inl (y4, 32768, .inl u1769_19)), (h15, .inl (y5, 3, .inl u1769_20)), (h10, .inr (5, [.int u1769_21, .int u1769_22, .int u1769_23, .int u1769_24, .int u1769_25, .int u1769_26])), (h3, .inr (2, [.ref h6, .ref h7, .ref h2, .int u1769_0, .int u1769_1, .int u1769_2, .int u1769_3, .int u1769_4])), (h6, .inl (y2, 16, .inl u1769_13))]) hP hD [1, 7] [0, 2, 3, 4, 5, 6, 8, 9, 10, 11, 12] rfl rfl (by decide) (by decide) hk1 hFc hP1 hD1 rfl
          have hK := (hK.sub (tys' := [(y0, .int), (y1, .int), (y3, .int), (y4, .int), (y5, .int)]) [0, 1, 3, 4, 5] rfl).app hK1
          generalize H1 = H at hP hS ⊢
          have hK : va_K (dC, dI) vwCl [(y0, .int), (y1, .int), (y3, .int), (y4, .int), (y5, .int), (y2, .int)] s := hK
          refine lv_iload_n hx hb dX11_run_58 rfl (lv_at hl 3 rfl) ?_
          refine lv_icmp_ne (tgt := 64) hx hb dX11_run_59 (by decide) (fun c1774 => ?_) (fun c1774 => ?_)
          · skip
            obtain ⟨v1775, ev1775⟩ : ∃ y : Int32, y = b1691 + Int32.ofInt 1 := ⟨_, rfl⟩
            have iv1775 : iv v1775 2 5001 := iv_eq ev1775 (iv_add j1767 (by decide : iv (Int32.ofInt 1) 1 1) (by decide) (by decide))
            have tv1775 : v1775.toInt = b1691.toInt + 1 := iv_addT ev1775 j1767 (by decide) (by decide) (by decide)
            refine lv_iinc (v := v1775) (lv' := [(3, .int v1775), (0, .ref h0), (1, .int x0), (2, .int x1)]) hx hb dX11_run_64 hl (k := 0) rfl ev1775.symm (by decide) rfl (fun ls hl => ?_)
            refine lv_goto (tgt := 28) hx hb dX11_run_67 (by decide) ?_
            exact ih v1775 b1691 u1769_0 u1769_1 u1769_2 u1769_3 u1769_4 u1769_5 u1769_6 u1769_7 u1769_8 u1769_9 u1769_10 u1769_11 u1769_12 u1769_13 u1769_14 u1769_15 u1769_16 u1769_17 u1769_18 u1769_19 u1769_20 u1769_21 u1769_22 u1769_23 u1769_24 u1769_25 u1769_26 (iv_w iv1775 (by decide) (by decide)) (iv_w j1767 (by decide) (by decide)) iu1769_4 iu1769_5 iu1769_17 (by omega) _ _ (hK.sub (tys' := _) [0, 1, 5, 2, 3, 4] rfl) (hP.sub (ws' := _) [0, 11, 1, 2, 3, 4, 5, 12, 6, 7, 8, 9, 10] rfl) (hD.sub (ws' := _) [0, 11, 1, 2, 3, 4, 5, 12, 6, 7, 8, 9, 10] (by decide) rfl) hS ls hl
          · skip
            refine lv_iconst (v := 1) hx hb dX11_run_62 (by decide) ?_
            rw [hQ]
            obtain ⟨hP9, hD9⟩ := nv_sub2 (wc := [(h0, .inr (11, [.ref h1, .ref h2, .ref h3, .ref h4, .ref h5, .int x2, .int b1691])), (h3, .inr (2, [.ref h6, .ref h7, .ref h2, .int u1769_0, .int u1769_1, .int u1769_2, .int u1769_3, .int u1769_4])), (h2, .inr (1, [.ref h8, .ref h9, .ref h10, .ref h11])), (h7, .inr (3, [.ref h12, .ref h13, .int u1769_5])), (h12, .inl (y0, 40, .inl u1769_6)), (h13, .inl (y1, 40, .inl u1769_7)), (h9, .inr (7, [.int u1769_8, .int u1769_9, .int u1769_10, .int u1769_11, .int u1769_12])), (h6, .inl (y2, 16, .inl u1769_13)), (h11, .inr (9, [.ref h14, .ref h15, .int u1769_14, .int u1769_15, .int u1769_16, .int u1769_17])), (h14, .inl (y3, 3, .inl u1769_18)), (h8, .inl (y4, 32768, .inl u1769_19)), (h15, .inl (y5, 3, .inl u1769_20)), (h10, .inr (5, [.int u1769_21, .int u1769_22, .int u1769_23, .int u1769_24, .int u1769_25, .int u1769_26]))]) hP hD [0, 11, 1, 2, 3, 4, 5, 12, 6, 7, 8, 9, 10] (by decide) rfl
            have hK9 := hK.sub (tys' := [(y0, .int), (y1, .int), (y2, .int), (y3, .int), (y4, .int), (y5, .int)]) [0, 1, 5, 2, 3, 4] rfl
            exact W.iret (v := 1) hx hb hr (fun t ht hW => ⟨⟨1, (b1691, u1769_0, u1769_1, u1769_2, u1769_3, u1769_4, u1769_5, u1769_6, u1769_7, u1769_8, u1769_9, u1769_10, u1769_11, u1769_12, u1769_13, u1769_14, u1769_15, u1769_16, u1769_17, u1769_18, u1769_19, u1769_20, u1769_21, u1769_22, u1769_23, u1769_24, u1769_25, u1769_26), rfl, ⟨iv_w (by decide : iv 1 1 1) (by decide) (by decide), iv_w j1767 (by decide) (by decide), iv_w iu1769_4 (by decide) (by decide), iv_w iu1769_5 (by decide) (by decide), iv_w iu1769_17 (by decide) (by decide), trivial⟩, by rw [ht]; exact hP9, va_K.moved hW.alike hK9, hD9⟩, hS.F ht⟩) hS.2.2 dX11_run_63
        · skip
          subst c1770
          refine lv_iconst (v := 2) hx hb dX11_run_43 (by decide) ?_
          rw [hQ]
          obtain ⟨hP9, hD9⟩ := nv_sub2 (wc := [(h0, .inr (11, [.ref h1, .ref h2, .ref h3, .ref h4, .ref h5, .int x2, .int b1692])), (h3, .inr (2, [.ref h6, .ref h7, .ref h2, .int u1769_0, .int u1769_1, .int u1769_2, .int u1769_3, .int u1769_4])), (h2, .inr (1, [.ref h8, .ref h9, .ref h10, .ref h11])), (h7, .inr (3, [.ref h12, .ref h13, .int u1769_5])), (h12, .inl (y0, 40, .inl u1769_6)), (h13, .inl (y1, 40, .inl u1769_7)), (h9, .inr (7, [.int u1769_8, .int u1769_9, .int u1769_10, .int u1769_11, .int u1769_12])), (h6, .inl (y2, 16, .inl u1769_13)), (h11, .inr (9, [.ref h14, .ref h15, .int u1769_14, .int u1769_15, .int u1769_16, .int u1769_17])), (h14, .inl (y3, 3, .inl u1769_18)), (h8, .inl (y4, 32768, .inl u1769_19)), (h15, .inl (y5, 3, .inl u1769_20)), (h10, .inr (5, [.int u1769_21, .int u1769_22, .int u1769_23, .int u1769_24, .int u1769_25, .int u1769_26]))]) hP hD [0, 1, 2, 3, 4, 5, 6, 7, 8, 9, 10, 11, 12] (by decide) rfl
          have hK9 := hK.sub (tys' := [(y0, .int), (y1, .int), (y2, .int), (y3, .int), (y4, .int), (y5, .int)]) [0, 1, 2, 3, 4, 5] rfl
          exact W.iret (v := 2) hx hb hr (fun t ht hW => ⟨⟨2, (b1692, u1769_0, u1769_1, u1769_2, u1769_3, u1769_4, u1769_5, u1769_6, u1769_7, u1769_8, u1769_9, u1769_10, u1769_11, u1769_12, u1769_13, u1769_14, u1769_15, u1769_16, u1769_17, u1769_18, u1769_19, u1769_20, u1769_21, u1769_22, u1769_23, u1769_24, u1769_25, u1769_26), rfl, ⟨iv_w (by decide : iv 2 2 2) (by decide) (by decide), iv_w ib1692 (by decide) (by decide), iv_w iu1769_4 (by decide) (by decide), iv_w iu1769_5 (by decide) (by decide), iv_w iu1769_17 (by decide) (by decide), trivial⟩, by rw [ht]; exact hP9, va_K.moved hW.alike hK9, hD9⟩, hS.F ht⟩) hS.2.2 dX11_run_44
  exact lp1762 _ 1 0 x4 x5 x6 x7 x8 x9 f0 f1 x10 x11 x12 x13 x14 f2 x15 x16 x17 x18 f3 f4 f5 x19 x20 x21 x22 x23 x24 (iv_w (by decide : iv 1 1 1) (by decide) (by decide)) (iv_w (by decide : iv 0 0 0) (by decide) (by decide)) ix8 ix9 ix18 (Nat.lt_succ_self _) _ _ hK hP hD hS ls hl
set_option maxHeartbeats 100000000 in
set_option maxRecDepth 100000 in
theorem cL_run_3 (l : Launch) (dC : Nat → ClassId) (dI : Nat → Nat → Nat) (h0 h1 h2 h3 h4 h5 h6 h7 h8 h9 h10 h11 h12 h13 h14 h15 h16 : Nat) (y0 y1 y2 y3 y4 y5 y6 : ClassId) (sz : Nat) (x0 x1 x2 x3 x4 x5 x6 x7 x8 x9 x10 x11 x12 x13 x14 x15 x16 x17 x18 x19 x20 x21 x22 x23 x24 : Int32) (f0 f1 f2 f3 f4 f5 : Nat → Int32) (g0 : Nat → Int64) (ix0 : iv x0 0 5000) (ix2 : iv x2 0 2600) (ix8 : iv x8 0 1) (ix9 : iv x9 0 40) (ix18 : iv x18 0 1) : Met l yL_run (Cond.codeWith yL_run cL_run 5 (some .int) [(0, 10, 13, 13)] :: lw_G) ({ frames := 8, cells := 0, slots := 0, locals := 189 }) (va_Pc [.ref h0, .int x0, .int x1, .ref h1] (fun U => U.heap.size = sz ∧ va_P (dC, dI) vwCl [(h0, .inr (11, [.ref h2, .ref h3, .ref h4, .ref h5, .ref h6, .int x2, .int x3])), (h4, .inr (2, [.ref h7, .ref h8, .ref h3, .int x4, .int x5, .int x6, .int x7, .int x8])), (h3, .inr (1, [.ref h9, .ref h10, .ref h11, .ref h12])), (h8, .inr (3, [.ref h13, .ref h14, .int x9])), (h13, .inl (y0, 40, .inl f0)), (h14, .inl (y1, 40, .inl f1)), (h10, .inr (7, [.int x10, .int x11, .int x12, .int x13, .int x14])), (h7, .inl (y2, 16, .inl f2)), (h12, .inr (9, [.ref h15, .ref h16, .int x15, .int x16, .int x17, .int x18])), (h15, .inl (y3, 3, .inl f3)), (h9, .inl (y4, 32768, .inl f4)), (h16, .inl (y5, 3, .inl f5)), (h11, .inr (5, [.int x19, .int x20, .int x21, .int x22, .int x23, .int x24])), (h1, .inl (y6, 1, .inr (.inl g0)))] U.heap ∧ va_K (dC, dI) vwCl [(y0, .int), (y1, .int), (y2, .int), (y3, .int), (y4, .int), (y5, .int), (y6, .long)] U ∧ va_D (fun _ => True) [(h0, .inr (11, [.ref h2, .ref h3, .ref h4, .ref h5, .ref h6, .int x2, .int x3])), (h4, .inr (2, [.ref h7, .ref h8, .ref h3, .int x4, .int x5, .int x6, .int x7, .int x8])), (h3, .inr (1, [.ref h9, .ref h10, .ref h11, .ref h12])), (h8, .inr (3, [.ref h13, .ref h14, .int x9])), (h13, .inl (y0, 40, .inl f0)), (h14, .inl (y1, 40, .inl f1)), (h10, .inr (7, [.int x10, .int x11, .int x12, .int x13, .int x14])), (h7, .inl (y2, 16, .inl f2)), (h12, .inr (9, [.ref h15, .ref h16, .int x15, .int x16, .int x17, .int x18])), (h15, .inl (y3, 3, .inl f3)), (h9, .inl (y4, 32768, .inl f4)), (h16, .inl (y5, 3, .inl f5)), (h11, .inr (5, [.int x19, .int x20, .int x21, .int x22, .int x23, .int x24])), (h1, .inl (y6, 1, .inr (.inl g0)))])) (va_Qi (fun (r : Int32) (u : Int32 × Int32 × Int32 × Int32 × Int32 × Int32 × Int32 × (Nat → Int32) × (Nat → Int32) × Int32 × Int32 × Int32 × Int32 × Int32 × (Nat → Int32) × Int32 × Int32 × Int32 × Int32 × (Nat → Int32) × (Nat → Int32) × (Nat → Int32) × Int32 × Int32 × Int32 × Int32 × Int32 × Int32 × (Nat → Int64)) => r = 0 ∧ iv u.1 0 5000 ∧ iv u.2.2.2.2.2.1 0 1 ∧ iv u.2.2.2.2.2.2.1 0 40 ∧ iv u.2.2.2.2.2.2.2.2.2.2.2.2.2.2.2.2.2.2.1 0 1 ∧ True) (fun (u : Int32 × Int32 × Int32 × Int32 × Int32 × Int32 × Int32 × (Nat → Int32) × (Nat → Int32) × Int32 × Int32 × Int32 × Int32 × Int32 × (Nat → Int32) × Int32 × Int32 × Int32 × Int32 × (Nat → Int32) × (Nat → Int32) × (Nat → Int32) × Int32 × Int32 × Int32 × Int32 × Int32 × Int32 × (Nat → Int64)) (t : State) => va_P (dC, dI) vwCl [(h0, .inr (11, [.ref h2, .ref h3, .ref h4, .ref h5, .ref h6, .int x2, .int u.1])), (h4, .inr (2, [.ref h7, .ref h8, .ref h3, .int u.2.1, .int u.2.2.1, .int u.2.2.2.1, .int u.2.2.2.2.1, .int u.2.2.2.2.2.1])), (h3, .inr (1, [.ref h9, .ref h10, .ref h11, .ref h12])), (h8, .inr (3, [.ref h13, .ref h14, .int u.2.2.2.2.2.2.1])), (h13, .inl (y0, 40, .inl u.2.2.2.2.2.2.2.1)), (h14, .inl (y1, 40, .inl u.2.2.2.2.2.2.2.2.1)), (h10, .inr (7, [.int u.2.2.2.2.2.2.2.2.2.1, .int u.2.2.2.2.2.2.2.2.2.2.1, .int u.2.2.2.2.2.2.2.2.2.2.2.1, .int u.2.2.2.2.2.2.2.2.2.2.2.2.1, .int u.2.2.2.2.2.2.2.2.2.2.2.2.2.1])), (h7, .inl (y2, 16, .inl u.2.2.2.2.2.2.2.2.2.2.2.2.2.2.1)), (h12, .inr (9, [.ref h15, .ref h16, .int u.2.2.2.2.2.2.2.2.2.2.2.2.2.2.2.1, .int u.2.2.2.2.2.2.2.2.2.2.2.2.2.2.2.2.1, .int u.2.2.2.2.2.2.2.2.2.2.2.2.2.2.2.2.2.1, .int u.2.2.2.2.2.2.2.2.2.2.2.2.2.2.2.2.2.2.1])), (h15, .inl (y3, 3, .inl u.2.2.2.2.2.2.2.2.2.2.2.2.2.2.2.2.2.2.2.1)), (h9, .inl (y4, 32768, .inl u.2.2.2.2.2.2.2.2.2.2.2.2.2.2.2.2.2.2.2.2.1)), (h16, .inl (y5, 3, .inl u.2.2.2.2.2.2.2.2.2.2.2.2.2.2.2.2.2.2.2.2.2.1)), (h11, .inr (5, [.int u.2.2.2.2.2.2.2.2.2.2.2.2.2.2.2.2.2.2.2.2.2.2.1, .int u.2.2.2.2.2.2.2.2.2.2.2.2.2.2.2.2.2.2.2.2.2.2.2.1, .int u.2.2.2.2.2.2.2.2.2.2.2.2.2.2.2.2.2.2.2.2.2.2.2.2.1, .int u.2.2.2.2.2.2.2.2.2.2.2.2.2.2.2.2.2.2.2.2.2.2.2.2.2.1, .int u.2.2.2.2.2.2.2.2.2.2.2.2.2.2.2.2.2.2.2.2.2.2.2.2.2.2.1, .int u.2.2.2.2.2.2.2.2.2.2.2.2.2.2.2.2.2.2.2.2.2.2.2.2.2.2.2.1])), (h1, .inl (y6, 1, .inr (.inl u.2.2.2.2.2.2.2.2.2.2.2.2.2.2.2.2.2.2.2.2.2.2.2.2.2.2.2.2)))] t.heap ∧ va_K (dC, dI) vwCl [(y0, .int), (y1, .int), (y2, .int), (y3, .int), (y4, .int), (y5, .int), (y6, .long)] t ∧ va_D (va_A [(h0, .inr (11, [.ref h2, .ref h3, .ref h4, .ref h5, .ref h6, .int x2, .int x3])), (h4, .inr (2, [.ref h7, .ref h8, .ref h3, .int x4, .int x5, .int x6, .int x7, .int x8])), (h3, .inr (1, [.ref h9, .ref h10, .ref h11, .ref h12])), (h8, .inr (3, [.ref h13, .ref h14, .int x9])), (h13, .inl (y0, 40, .inl f0)), (h14, .inl (y1, 40, .inl f1)), (h10, .inr (7, [.int x10, .int x11, .int x12, .int x13, .int x14])), (h7, .inl (y2, 16, .inl f2)), (h12, .inr (9, [.ref h15, .ref h16, .int x15, .int x16, .int x17, .int x18])), (h15, .inl (y3, 3, .inl f3)), (h9, .inl (y4, 32768, .inl f4)), (h16, .inl (y5, 3, .inl f5)), (h11, .inr (5, [.int x19, .int x20, .int x21, .int x22, .int x23, .int x24])), (h1, .inl (y6, 1, .inr (.inl g0)))] sz) [(h0, .inr (11, [.ref h2, .ref h3, .ref h4, .ref h5, .ref h6, .int x2, .int u.1])), (h4, .inr (2, [.ref h7, .ref h8, .ref h3, .int u.2.1, .int u.2.2.1, .int u.2.2.2.1, .int u.2.2.2.2.1, .int u.2.2.2.2.2.1])), (h3, .inr (1, [.ref h9, .ref h10, .ref h11, .ref h12])), (h8, .inr (3, [.ref h13, .ref h14, .int u.2.2.2.2.2.2.1])), (h13, .inl (y0, 40, .inl u.2.2.2.2.2.2.2.1)), (h14, .inl (y1, 40, .inl u.2.2.2.2.2.2.2.2.1)), (h10, .inr (7, [.int u.2.2.2.2.2.2.2.2.2.1, .int u.2.2.2.2.2.2.2.2.2.2.1, .int u.2.2.2.2.2.2.2.2.2.2.2.1, .int u.2.2.2.2.2.2.2.2.2.2.2.2.1, .int u.2.2.2.2.2.2.2.2.2.2.2.2.2.1])), (h7, .inl (y2, 16, .inl u.2.2.2.2.2.2.2.2.2.2.2.2.2.2.1)), (h12, .inr (9, [.ref h15, .ref h16, .int u.2.2.2.2.2.2.2.2.2.2.2.2.2.2.2.1, .int u.2.2.2.2.2.2.2.2.2.2.2.2.2.2.2.2.1, .int u.2.2.2.2.2.2.2.2.2.2.2.2.2.2.2.2.2.1, .int u.2.2.2.2.2.2.2.2.2.2.2.2.2.2.2.2.2.2.1])), (h15, .inl (y3, 3, .inl u.2.2.2.2.2.2.2.2.2.2.2.2.2.2.2.2.2.2.2.1)), (h9, .inl (y4, 32768, .inl u.2.2.2.2.2.2.2.2.2.2.2.2.2.2.2.2.2.2.2.2.1)), (h16, .inl (y5, 3, .inl u.2.2.2.2.2.2.2.2.2.2.2.2.2.2.2.2.2.2.2.2.2.1)), (h11, .inr (5, [.int u.2.2.2.2.2.2.2.2.2.2.2.2.2.2.2.2.2.2.2.2.2.2.1, .int u.2.2.2.2.2.2.2.2.2.2.2.2.2.2.2.2.2.2.2.2.2.2.2.1, .int u.2.2.2.2.2.2.2.2.2.2.2.2.2.2.2.2.2.2.2.2.2.2.2.2.1, .int u.2.2.2.2.2.2.2.2.2.2.2.2.2.2.2.2.2.2.2.2.2.2.2.2.2.1, .int u.2.2.2.2.2.2.2.2.2.2.2.2.2.2.2.2.2.2.2.2.2.2.2.2.2.2.1, .int u.2.2.2.2.2.2.2.2.2.2.2.2.2.2.2.2.2.2.2.2.2.2.2.2.2.2.2.1])), (h1, .inl (y6, 1, .inr (.inl u.2.2.2.2.2.2.2.2.2.2.2.2.2.2.2.2.2.2.2.2.2.2.2.2.2.2.2.2)))]) (va_A [(h0, .inr (11, [.ref h2, .ref h3, .ref h4, .ref h5, .ref h6, .int x2, .int x3])), (h4, .inr (2, [.ref h7, .ref h8, .ref h3, .int x4, .int x5, .int x6, .int x7, .int x8])), (h3, .inr (1, [.ref h9, .ref h10, .ref h11, .ref h12])), (h8, .inr (3, [.ref h13, .ref h14, .int x9])), (h13, .inl (y0, 40, .inl f0)), (h14, .inl (y1, 40, .inl f1)), (h10, .inr (7, [.int x10, .int x11, .int x12, .int x13, .int x14])), (h7, .inl (y2, 16, .inl f2)), (h12, .inr (9, [.ref h15, .ref h16, .int x15, .int x16, .int x17, .int x18])), (h15, .inl (y3, 3, .inl f3)), (h9, .inl (y4, 32768, .inl f4)), (h16, .inl (y5, 3, .inl f5)), (h11, .inr (5, [.int x19, .int x20, .int x21, .int x22, .int x23, .int x24])), (h1, .inl (y6, 1, .inr (.inl g0)))] sz)) 0 0 (va_A [(h0, .inr (11, [.ref h2, .ref h3, .ref h4, .ref h5, .ref h6, .int x2, .int x3])), (h4, .inr (2, [.ref h7, .ref h8, .ref h3, .int x4, .int x5, .int x6, .int x7, .int x8])), (h3, .inr (1, [.ref h9, .ref h10, .ref h11, .ref h12])), (h8, .inr (3, [.ref h13, .ref h14, .int x9])), (h13, .inl (y0, 40, .inl f0)), (h14, .inl (y1, 40, .inl f1)), (h10, .inr (7, [.int x10, .int x11, .int x12, .int x13, .int x14])), (h7, .inl (y2, 16, .inl f2)), (h12, .inr (9, [.ref h15, .ref h16, .int x15, .int x16, .int x17, .int x18])), (h15, .inl (y3, 3, .inl f3)), (h9, .inl (y4, 32768, .inl f4)), (h16, .inl (y5, 3, .inl f5)), (h11, .inr (5, [.int x19, .int x20, .int x21, .int x22, .int x23, .int x24])), (h1, .inl (y6, 1, .inr (.inl g0)))] sz) := by
  refine va_MetW (cc := cL_run) (maxL := 5) (ret := (some .int)) (by decide) rfl ?_
  intro p e s m args below meth c s₁ B hml hv
  obtain ⟨rfl, hsz, hP, hK, hD0⟩ := hv
  have hx := B.exec
  have hb := B.bytes
  have hr := B.returns
  have hts0 := atoms_spec (ws := Cond.codeWith yL_run cL_run 5 (some .int) [(0, 10, 13, 13)] :: lw_G) B.pre
  have htab := vx_table (x := x) B (hts0 _ List.mem_cons_self)
  have hG : ∀ w ∈ lw_G, w.before _ s = true := fun w h => hts0 w (List.mem_cons_of_mem _ h)
  have hown : s.vm.findClass RL = some m.cls := findClass_of_methodNamed B.named
  have hlocks := B.notSynchronized
  subst hsz
  have hD := hD0.self (sz := s.heap.size)
  generalize hAe : va_A [(h0, .inr (11, [.ref h2, .ref h3, .ref h4, .ref h5, .ref h6, .int x2, .int x3])), (h4, .inr (2, [.ref h7, .ref h8, .ref h3, .int x4, .int x5, .int x6, .int x7, .int x8])), (h3, .inr (1, [.ref h9, .ref h10, .ref h11, .ref h12])), (h8, .inr (3, [.ref h13, .ref h14, .int x9])), (h13, .inl (y0, 40, .inl f0)), (h14, .inl (y1, 40, .inl f1)), (h10, .inr (7, [.int x10, .int x11, .int x12, .int x13, .int x14])), (h7, .inl (y2, 16, .inl f2)), (h12, .inr (9, [.ref h15, .ref h16, .int x15, .int x16, .int x17, .int x18])), (h15, .inl (y3, 3, .inl f3)), (h9, .inl (y4, 32768, .inl f4)), (h16, .inl (y5, 3, .inl f5)), (h11, .inr (5, [.int x19, .int x20, .int x21, .int x22, .int x23, .int x24])), (h1, .inl (y6, 1, .inr (.inl g0)))] s.heap.size = A at hD ⊢
  have hA : ∀ q : Nat, s.heap.size ≤ q → A q := fun q h => by rw [← hAe]; exact Or.inr h
  have hS : va_S A s.heap s.heap [] := va_S.rf
  have hP : va_P (dC, dI) vwCl [(h0, .inr (11, [.ref h2, .ref h3, .ref h4, .ref h5, .ref h6, .int x2, .int x3])), (h4, .inr (2, [.ref h7, .ref h8, .ref h3, .int x4, .int x5, .int x6, .int x7, .int x8])), (h3, .inr (1, [.ref h9, .ref h10, .ref h11, .ref h12])), (h8, .inr (3, [.ref h13, .ref h14, .int x9])), (h13, .inl (y0, 40, .inl f0)), (h14, .inl (y1, 40, .inl f1)), (h10, .inr (7, [.int x10, .int x11, .int x12, .int x13, .int x14])), (h7, .inl (y2, 16, .inl f2)), (h12, .inr (9, [.ref h15, .ref h16, .int x15, .int x16, .int x17, .int x18])), (h15, .inl (y3, 3, .inl f3)), (h9, .inl (y4, 32768, .inl f4)), (h16, .inl (y5, 3, .inl f5)), (h11, .inr (5, [.int x19, .int x20, .int x21, .int x22, .int x23, .int x24])), (h1, .inl (y6, 1, .inr (.inl g0)))] s.heap := hP
  have hl := lv_entry ([.ref h0, .int x0, .int x1, .ref h1]) (n := 5) (Nat.le_of_ble_eq_true rfl)
  rw [lg_entry_eq]
  generalize (lg_sl ([.ref h0, .int x0, .int x1, .ref h1]) ++ List.replicate (5 - (lg_sl ([.ref h0, .int x0, .int x1, .ref h1])).length) Slot.unset).toArray = ls at hl ⊢
  have hl : lv_has ls 5 [(0, .ref h0), (1, .int x0), (2, .int x1), (3, .ref h1)] := hl
  generalize ([.ref h0, .int x0, .int x1, .ref h1] : List Value).toArray = ar at hG ⊢
  refine wq (fun Q hQ => ?_)
  refine lv_aload_n hx hb dL_run_0 rfl (lv_at hl 3 rfl) ?_
  refine lv_iconst (v := 0) hx hb dL_run_1 (by decide) ?_
  refine lv_aload_n hx hb dL_run_2 rfl (lv_at hl 0 rfl) ?_
  refine lv_iload_n hx hb dL_run_3 rfl (lv_at hl 1 rfl) ?_
  refine lv_iload_n hx hb dL_run_4 rfl (lv_at hl 2 rfl) ?_
  obtain ⟨hPc, hDc, hFc⟩ := nv_sub3 (wc := [(h0, .inr (11, [.ref h2, .ref h3, .ref h4, .ref h5, .ref h6, .int x2, .int x3])), (h4, .inr (2, [.ref h7, .ref h8, .ref h3, .int x4, .int x5, .int x6, .int x7, .int x8])), (h3, .inr (1, [.ref h9, .ref h10, .ref h11, .ref h12])), (h8, .inr (3, [.ref h13, .ref h14, .int x9])), (h13, .inl (y0, 40, .inl f0)), (h14, .inl (y1, 40, .inl f1)), (h10, .inr (7, [.int x10, .int x11, .int x12, .int x13, .int x14])), (h7, .inl (y2, 16, .inl f2)), (h12, .inr (9, [.ref h15, .ref h16, .int x15, .int x16, .int x17, .int x18])), (h15, .inl (y3, 3, .inl f3)), (h9, .inl (y4, 32768, .inl f4)), (h16, .inl (y5, 3, .inl f5)), (h11, .inr (5, [.int x19, .int x20, .int x21, .int x22, .int x23, .int x24]))]) hP hD hS hA [0, 1, 2, 3, 4, 5, 6, 7, 8, 9, 10, 11, 12] (by decide) rfl
  have hKc := hK.sub (tys' := [(y0, .int), (y1, .int), (y2, .int), (y3, .int), (y4, .int), (y5, .int)]) [0, 1, 2, 3, 4, 5] rfl
  refine va_calli (va_runV (As := [.int x0, .int x1]) (rest := [.int 0, .ref h1]) ⟨hx, hb, hml, hown, hG⟩ (cX11_run_3 l dC dI h0 h2 h3 h4 h5 h6 h7 h8 h9 h10 h11 h12 h13 h14 h15 h16 y0 y1 y2 y3 y4 y5 s.heap.size x0 x1 x2 x3 x4 x5 x6 x7 x8 x9 x10 x11 x12 x13 x14 x15 x16 x17 x18 x19 x20 x21 x22 x23 x24 f0 f1 f2 f3 f4 f5 ix0 ix2 ix8 ix9 ix18) (cwV 2 hG (gV wd_882 wd_883 wd_884 wd_1 wd_885) rfl rfl rfl (by decide +kernel) ⟨Nat.le_of_ble_eq_true rfl, Nat.le_of_ble_eq_true rfl⟩) ⟨fun a U g mk q => by obtain ⟨q0, q1, qP, qK, qD⟩ := q; exact ⟨q0, q1, qP, va_K.moved (u := U) (U := U.calling g mk a) (Vm.Alike.refl U.vm) qK, qD⟩, va_recv hKc hPc (ci := 11) (q0 := 0) rfl rfl, fun U hU hW => ⟨rfl, by rw [hU], by rw [hU]; exact hPc, va_K.moved hW.alike hKc, hDc.weaken (fun _ _ _ _ => trivial)⟩⟩ rfl rfl hl.1 rfl (lv_room (Nat.le_of_ble_eq_true rfl)) dL_run_5 ⟨by decide, by decide⟩) hS (fun q _ h => hFc q h) hFc (fun r1 u2 t H1 locs ht hvm hw hB hz1 hk1 hS => ?_)
  obtain ⟨u2_0, u2_1, u2_2, u2_3, u2_4, u2_5, u2_6, u2_7, u2_8, u2_9, u2_10, u2_11, u2_12, u2_13, u2_14, u2_15, u2_16, u2_17, u2_18, u2_19, u2_20, u2_21, u2_22, u2_23, u2_24, u2_25, u2_26, u2_27⟩ := u2
  have hw : iv r1 0 2 ∧ iv u2_0 0 5000 ∧ iv u2_5 0 1 ∧ iv u2_6 0 40 ∧ iv u2_18 0 1 ∧ True := hw
  obtain ⟨ir1, iu2_0, iu2_5, iu2_6, iu2_18, -⟩ := hw
  obtain ⟨hP1, hK1, hD1⟩ := hB
  rw [ht] at hP1
  have hK1 := va_K.moved hvm.symm hK1
  obtain ⟨hP, hD⟩ := nv_join (wf := [(h1, .inl (y6, 1, .inr (.inl g0))), (h0, .inr (11, [.ref h2, .ref h3, .ref h4, .ref h5, .ref h6, .int x2, .int u2_0])), (h4, .inr (2, [.ref h7, .ref h8, .ref h3, .int u2_1, .int u2_2, .int u2_3, .int u2_4, .int u2_5])), (h3, .inr (1, [.ref h9, .ref h10, .ref h11, .ref h12])), (h8, .inr (3, [.ref h13, .ref h14, .int u2_6])), (h13, .inl (y0, 40, .inl u2_7)), (h14, .inl (y1, 40, .inl u2_8)), (h10, .inr (7, [.int u2_9, .int u2_10, .int u2_11, .int u2_12, .int u2_13])), (h7, .inl (y2, 16, .inl u2_14)), (h12, .inr (9, [.ref h15, .ref h16, .int u2_15, .int u2_16, .int u2_17, .int u2_18])), (h15, .inl (y3, 3, .inl u2_19)), (h9, .inl (y4, 32768, .inl u2_20)), (h16, .inl (y5, 3, .inl u2_21)), (h11, .inr (5, [.int u2_22, .int u2_23, .int u2_24, .int u2_25, .int u2_26, .int u2_27]))]) hP hD [0, 1, 2, 3, 4, 5, 6, 7, 8, 9, 10, 11, 12] [13] rfl rfl (by decide) (by decide) hk1 hFc hP1 hD1 rfl
  have hK := (hK.sub (tys' := [(y6, .long)]) [6] rfl).app hK1
  generalize H1 = H at hP hS ⊢
  have hK : va_K (dC, dI) vwCl [(y6, .long), (y0, .int), (y1, .int), (y2, .int), (y3, .int), (y4, .int), (y5, .int)] s := hK
  refine lv_i2l (v := _) hx hb dL_run_8 rfl ?_
  refine lv_topl (fun w3 ew3 => ?_)
  refine va_last hx hb hK hP hD hS 0 0 rfl rfl (iv_in (by decide : iv 0 0 0) (by decide) (by decide) : vp_in 0 1) dL_run_9 (fun H locs hP hD hS => ?_)
  obtain ⟨nf4, enf4⟩ : ∃ z, z = vp_updL g0 (0 : Int32).toNatClampNeg w3 := ⟨_, rfl⟩
  obtain ⟨hP, hD⟩ := nv_eq (ws' := [(h1, .inl (y6, 1, .inr (.inl nf4))), (h0, .inr (11, [.ref h2, .ref h3, .ref h4, .ref h5, .ref h6, .int x2, .int u2_0])), (h4, .inr (2, [.ref h7, .ref h8, .ref h3, .int u2_1, .int u2_2, .int u2_3, .int u2_4, .int u2_5])), (h3, .inr (1, [.ref h9, .ref h10, .ref h11, .ref h12])), (h8, .inr (3, [.ref h13, .ref h14, .int u2_6])), (h13, .inl (y0, 40, .inl u2_7)), (h14, .inl (y1, 40, .inl u2_8)), (h10, .inr (7, [.int u2_9, .int u2_10, .int u2_11, .int u2_12, .int u2_13])), (h7, .inl (y2, 16, .inl u2_14)), (h12, .inr (9, [.ref h15, .ref h16, .int u2_15, .int u2_16, .int u2_17, .int u2_18])), (h15, .inl (y3, 3, .inl u2_19)), (h9, .inl (y4, 32768, .inl u2_20)), (h16, .inl (y5, 3, .inl u2_21)), (h11, .inr (5, [.int u2_22, .int u2_23, .int u2_24, .int u2_25, .int u2_26, .int u2_27]))]) hP hD (by subst enf4; rfl)
  refine lv_goto (tgt := 17) hx hb dL_run_10 (by decide) ?_
  refine lv_iconst (v := 0) hx hb dL_run_17 (by decide) ?_
  rw [hQ]
  obtain ⟨hP9, hD9⟩ := nv_sub2 (wc := [(h0, .inr (11, [.ref h2, .ref h3, .ref h4, .ref h5, .ref h6, .int x2, .int u2_0])), (h4, .inr (2, [.ref h7, .ref h8, .ref h3, .int u2_1, .int u2_2, .int u2_3, .int u2_4, .int u2_5])), (h3, .inr (1, [.ref h9, .ref h10, .ref h11, .ref h12])), (h8, .inr (3, [.ref h13, .ref h14, .int u2_6])), (h13, .inl (y0, 40, .inl u2_7)), (h14, .inl (y1, 40, .inl u2_8)), (h10, .inr (7, [.int u2_9, .int u2_10, .int u2_11, .int u2_12, .int u2_13])), (h7, .inl (y2, 16, .inl u2_14)), (h12, .inr (9, [.ref h15, .ref h16, .int u2_15, .int u2_16, .int u2_17, .int u2_18])), (h15, .inl (y3, 3, .inl u2_19)), (h9, .inl (y4, 32768, .inl u2_20)), (h16, .inl (y5, 3, .inl u2_21)), (h11, .inr (5, [.int u2_22, .int u2_23, .int u2_24, .int u2_25, .int u2_26, .int u2_27])), (h1, .inl (y6, 1, .inr (.inl nf4)))]) hP hD [1, 2, 3, 4, 5, 6, 7, 8, 9, 10, 11, 12, 13, 0] (by decide) rfl
  have hK9 := hK.sub (tys' := [(y0, .int), (y1, .int), (y2, .int), (y3, .int), (y4, .int), (y5, .int), (y6, .long)]) [1, 2, 3, 4, 5, 6, 0] rfl
  exact W.iret (v := 0) hx hb hr (fun t ht hW => ⟨⟨0, (u2_0, u2_1, u2_2, u2_3, u2_4, u2_5, u2_6, u2_7, u2_8, u2_9, u2_10, u2_11, u2_12, u2_13, u2_14, u2_15, u2_16, u2_17, u2_18, u2_19, u2_20, u2_21, u2_22, u2_23, u2_24, u2_25, u2_26, u2_27, nf4), rfl, ⟨rfl, iv_w iu2_0 (by decide) (by decide), iv_w iu2_5 (by decide) (by decide), iv_w iu2_6 (by decide) (by decide), iv_w iu2_18 (by decide) (by decide), trivial⟩, by rw [ht]; exact hP9, va_K.moved hW.alike hK9, hD9⟩, hS.F ht⟩) hS.2.2 dL_run_18
set_option maxHeartbeats 100000000 in
set_option maxRecDepth 100000 in
theorem cX11_register_1 (l : Launch) (hst : l.stackTraces = false) (dC : Nat → ClassId) (dI : Nat → Nat → Nat) (adK adV : Nat → Nat) (h0 h1 h2 h3 h4 h5 : Nat) (sz : Nat) (x0 x1 x2 : Int32) (ix0 : iv x0 (-2147483648) (-1)) (ix1 : iv x1 0 2600) : vx_Met l yX11_register (Cond.code yX11_register cX11_register 2 (some .int) :: lw_G) ({ frames := 6, cells := 1, slots := 6, locals := 82 }) (va_Pc [.ref h0, .int x0] (fun U => U.heap.size = sz ∧ va_P (dC, dI) vwCl [(h0, .inr (11, [.ref h1, .ref h2, .ref h3, .ref h4, .ref h5, .int x1, .int x2]))] U.heap ∧ va_K (dC, dI) vwCl [] U ∧ va_D (fun _ => True) [(h0, .inr (11, [.ref h1, .ref h2, .ref h3, .ref h4, .ref h5, .int x1, .int x2]))] ∧ ev adK adV (va_A [(h0, .inr (11, [.ref h1, .ref h2, .ref h3, .ref h4, .ref h5, .int x1, .int x2]))] sz) U U.heap)) (va_Qi (fun (_ : Int32) (_ : Unit) => False) (fun _ _ => True) (va_A [(h0, .inr (11, [.ref h1, .ref h2, .ref h3, .ref h4, .ref h5, .int x1, .int x2]))] sz)) (vx_X (fun (_ : Unit) => True) (fun (E : String) (_ : Unit) (t : State) => E = "java/lang/IndexOutOfBoundsException" ∧ va_P (dC, dI) vwCl [(h0, .inr (11, [.ref h1, .ref h2, .ref h3, .ref h4, .ref h5, .int x1, .int x2]))] t.heap ∧ va_K (dC, dI) vwCl [] t ∧ va_D (va_A [(h0, .inr (11, [.ref h1, .ref h2, .ref h3, .ref h4, .ref h5, .int x1, .int x2]))] sz) [(h0, .inr (11, [.ref h1, .ref h2, .ref h3, .ref h4, .ref h5, .int x1, .int x2]))]) (va_A [(h0, .inr (11, [.ref h1, .ref h2, .ref h3, .ref h4, .ref h5, .int x1, .int x2]))] sz)) 1 6 (va_A [(h0, .inr (11, [.ref h1, .ref h2, .ref h3, .ref h4, .ref h5, .int x1, .int x2]))] sz) := by
  refine vx_ofW (cc := cX11_register) (maxL := 2) (ret := (some .int)) (by decide) rfl ?_
  intro p e s m args below meth c s₁ B hml htab hv
  obtain ⟨rfl, hsz, hP, hK, hD0, hE⟩ := hv
  have hx := B.exec
  have hb := B.bytes
  have hr := B.returns
  have hts0 := atoms_spec (ws := Cond.code yX11_register cX11_register 2 (some .int) :: lw_G) B.pre
  have hG : ∀ w ∈ lw_G, w.before _ s = true := fun w h => hts0 w (List.mem_cons_of_mem _ h)
  have hown : s.vm.findClass RX11 = some m.cls := findClass_of_methodNamed B.named
  have hlocks := B.notSynchronized
  subst hsz
  have hD := hD0.self (sz := s.heap.size)
  generalize hAe : va_A [(h0, .inr (11, [.ref h1, .ref h2, .ref h3, .ref h4, .ref h5, .int x1, .int x2]))] s.heap.size = A at hD hE ⊢
  have hA : ∀ q : Nat, s.heap.size ≤ q → A q := fun q h => by rw [← hAe]; exact Or.inr h
  have hS : va_S A s.heap s.heap [] := va_S.rf
  have hP : va_P (dC, dI) vwCl [(h0, .inr (11, [.ref h1, .ref h2, .ref h3, .ref h4, .ref h5, .int x1, .int x2]))] s.heap := hP
  have hl := lv_entry ([.ref h0, .int x0]) (n := 2) (Nat.le_of_ble_eq_true rfl)
  rw [lg_entry_eq]
  generalize (lg_sl ([.ref h0, .int x0]) ++ List.replicate (2 - (lg_sl ([.ref h0, .int x0])).length) Slot.unset).toArray = ls at hl ⊢
  have hl : lv_has ls 2 [(0, .ref h0), (1, .int x0)] := hl
  refine lv_iload_n hx hb dX11_register_0 rfl (lv_at hl 1 rfl) ?_
  refine lv_if_lt (tgt := 10) hx hb dX11_register_1 (by decide) (fun _ => ?_) (fun c => absurd (iv_lt ix0 (by decide : iv 0 0 0) (by decide)) c)
  obtain ⟨hP9, hD9⟩ := nv_sub2 (wc := [(h0, .inr (11, [.ref h1, .ref h2, .ref h3, .ref h4, .ref h5, .int x1, .int x2]))]) hP hD [0] (by decide) rfl
  have hK9 := hK.sub (tys' := []) [] rfl
  refine vx_throwS (own := RX11) (cls := "java/lang/IndexOutOfBoundsException") (text := evT3) (names := ["java/lang/RuntimeException", "java/lang/Exception"]) hx hb hst hown (by decide) (by decide) (hG _ wd_1126) (hG _ wd_24) (evR3 hE) (evA1 hE hG) evG1_106 hE.2.2.2.1 hE.2.2.2.2.1 hS (by rw [hml]; exact hl.1) dX11_register_10 dX11_register_13 dX11_register_14 dX11_register_16 dX11_register_19 (fun x hx9 => (htab x hx9).elim) (by decide) (by decide) (by decide) (by decide) hlocks (fun t hvm9 hz9 hk9 => ⟨(), trivial, ⟨rfl, hP9.kept (fun k q hk => hk9 q.1 (vx_lt hP9 hk)), va_K.moved hvm9 hK9, hD9⟩, Nat.le_trans hS.1 hz9, fun q hq hA9 => (hk9 q (Nat.lt_of_lt_of_le hq hS.1)).trans (hS.2.1 q hq hA9)⟩) hS.2.2 (by decide) (by decide)
set_option maxHeartbeats 100000000 in
set_option maxRecDepth 100000 in
theorem cL_register_1 (l : Launch) (hst : l.stackTraces = false) (dC : Nat → ClassId) (dI : Nat → Nat → Nat) (adK adV : Nat → Nat) (h0 h1 h2 h3 h4 h5 h6 : Nat) (sz : Nat) (x0 x1 x2 : Int32) (ix0 : iv x0 (-2147483648) (-1)) (ix1 : iv x1 0 2600) : Met l yL_register (Cond.codeWith yL_register cL_register 4 (some .int) [(0, 9, 12, 19)] :: lw_G) ({ frames := 7, cells := 1, slots := 6, locals := 103 }) (va_Pc [.ref h0, .int x0, .ref h1] (fun U => U.heap.size = sz ∧ va_P (dC, dI) vwCl [(h0, .inr (11, [.ref h2, .ref h3, .ref h4, .ref h5, .ref h6, .int x1, .int x2]))] U.heap ∧ va_K (dC, dI) vwCl [] U ∧ va_D (fun _ => True) [(h0, .inr (11, [.ref h2, .ref h3, .ref h4, .ref h5, .ref h6, .int x1, .int x2]))] ∧ ev adK adV (va_A [(h0, .inr (11, [.ref h2, .ref h3, .ref h4, .ref h5, .ref h6, .int x1, .int x2]))] sz) U U.heap)) (va_Qi (fun (r : Int32) (u : Unit) => r = 1 ∧ True) (fun (u : Unit) (t : State) => va_P (dC, dI) vwCl [(h0, .inr (11, [.ref h2, .ref h3, .ref h4, .ref h5, .ref h6, .int x1, .int x2]))] t.heap ∧ va_K (dC, dI) vwCl [] t ∧ va_D (va_A [(h0, .inr (11, [.ref h2, .ref h3, .ref h4, .ref h5, .ref h6, .int x1, .int x2]))] sz) [(h0, .inr (11, [.ref h2, .ref h3, .ref h4, .ref h5, .ref h6, .int x1, .int x2]))]) (va_A [(h0, .inr (11, [.ref h2, .ref h3, .ref h4, .ref h5, .ref h6, .int x1, .int x2]))] sz)) 1 6 (va_A [(h0, .inr (11, [.ref h2, .ref h3, .ref h4, .ref h5, .ref h6, .int x1, .int x2]))] sz) := by
  refine va_MetW (cc := cL_register) (maxL := 4) (ret := (some .int)) (by decide) rfl ?_
  intro p e s m args below meth c s₁ B hml hv
  obtain ⟨rfl, hsz, hP, hK, hD0, hE⟩ := hv
  have hx := B.exec
  have hb := B.bytes
  have hr := B.returns
  have hts0 := atoms_spec (ws := Cond.codeWith yL_register cL_register 4 (some .int) [(0, 9, 12, 19)] :: lw_G) B.pre
  have htab := vx_table (x := x) B (hts0 _ List.mem_cons_self)
  have hG : ∀ w ∈ lw_G, w.before _ s = true := fun w h => hts0 w (List.mem_cons_of_mem _ h)
  have hown : s.vm.findClass RL = some m.cls := findClass_of_methodNamed B.named
  have hlocks := B.notSynchronized
  subst hsz
  have hD := hD0.self (sz := s.heap.size)
  generalize hAe : va_A [(h0, .inr (11, [.ref h2, .ref h3, .ref h4, .ref h5, .ref h6, .int x1, .int x2]))] s.heap.size = A at hD hE ⊢
  have hA : ∀ q : Nat, s.heap.size ≤ q → A q := fun q h => by rw [← hAe]; exact Or.inr h
  have hS : va_S A s.heap s.heap [] := va_S.rf
  have hP : va_P (dC, dI) vwCl [(h0, .inr (11, [.ref h2, .ref h3, .ref h4, .ref h5, .ref h6, .int x1, .int x2]))] s.heap := hP
  have hl := lv_entry ([.ref h0, .int x0, .ref h1]) (n := 4) (Nat.le_of_ble_eq_true rfl)
  rw [lg_entry_eq]
  generalize (lg_sl ([.ref h0, .int x0, .ref h1]) ++ List.replicate (4 - (lg_sl ([.ref h0, .int x0, .ref h1])).length) Slot.unset).toArray = ls at hl ⊢
  have hl : lv_has ls 4 [(0, .ref h0), (1, .int x0), (2, .ref h1)] := hl
  generalize ([.ref h0, .int x0, .ref h1] : List Value).toArray = ar at hG ⊢
  refine wq (fun Q hQ => ?_)
  refine lv_aload_n hx hb dL_register_0 rfl (lv_at hl 2 rfl) ?_
  refine lv_iconst (v := 0) hx hb dL_register_1 (by decide) ?_
  refine lv_aload_n hx hb dL_register_2 rfl (lv_at hl 0 rfl) ?_
  refine lv_iload_n hx hb dL_register_3 rfl (lv_at hl 1 rfl) ?_
  obtain ⟨hPc, hDc, hFc⟩ := nv_sub3 (wc := [(h0, .inr (11, [.ref h2, .ref h3, .ref h4, .ref h5, .ref h6, .int x1, .int x2]))]) hP hD hS hA [0] (by decide) rfl
  have hKc := hK.sub (tys' := []) [] rfl
  refine vx_calli (vx_runV (As := [.int x0]) (rest := [.int 0, .ref h1]) ⟨hx, hb, hml, hown, hG⟩ (cX11_register_1 l hst dC dI adK adV h0 h2 h3 h4 h5 h6 s.heap.size x0 x1 x2 ix0 ix1) (cwV 1 hG (gV wd_1122 wd_1123 wd_1124 wd_1 wd_1125) rfl rfl rfl (by decide +kernel) ⟨Nat.le_of_ble_eq_true rfl, Nat.le_of_ble_eq_true rfl⟩) ⟨fun a U g mk q => by obtain ⟨q0, q1, qP, qK, qD, qE⟩ := q; exact ⟨q0, q1, qP, va_K.moved (u := U) (U := U.calling g mk a) (Vm.Alike.refl U.vm) qK, qD, qE.same rfl⟩, va_recv hKc hPc (ci := 11) (q0 := 0) rfl rfl, fun U hU hW => ⟨rfl, by rw [hU], by rw [hU]; exact hPc, va_K.moved hW.alike hKc, hDc.weaken (fun _ _ _ _ => trivial), by rw [hU]; exact ((hE.kept hS.2.1).narrow hFc).warm hW⟩⟩ rfl rfl hl.1 rfl (lv_room (Nat.le_of_ble_eq_true rfl)) dL_register_4 ⟨by decide, by decide⟩) hS (fun q _ h => hFc q h) hFc (fun q _ h => hFc q h) (fun E9 ce q1 u9 t H1 locs ht hvm hpx hB hz1 hk1 hS hce hcv hcl => ?_) (fun r u t H1 locs ht hvm hw hB hz1 hk1 hS => hw.elim)
  obtain ⟨rfl, hP1, hK1, hD1⟩ := hB
  rw [ht] at hP1
  have hK1 := va_K.moved hvm.symm hK1
  obtain ⟨hP, hD⟩ := nv_join (wf := [(h0, .inr (11, [.ref h2, .ref h3, .ref h4, .ref h5, .ref h6, .int x1, .int x2]))]) hP hD [0] [] rfl rfl (by decide) (by decide) hk1 hFc hP1 hD1 rfl
  have hK := (hK.sub (tys' := []) [] rfl).app hK1
  generalize H1 = H at hP hS hce ⊢
  have hK : va_K (dC, dI) vwCl [] s := hK
  refine vx_widen (k := 1) (n := 6) (by decide) (by decide) ?_
  refine vx_catch (name := "java/lang/IndexOutOfBoundsException") hown [] { startPc := 0, endPc := 9, handlerPc := 12, catchType := 19 } [] (by rw [htab]; rfl) (fun z hz => nomatch hz) (by decide) (by decide) (hG _ wd_1121) (evC1 hE) hce hcv hcl ?_
  refine lv_astore_n (lv' := [(3, .ref q1), (0, .ref h0), (1, .int x0), (2, .ref h1)]) hx hb dL_register_12 rfl hl (by decide) rfl (fun ls hl => ?_)
  refine lv_iconst (v := 1) hx hb dL_register_13 (by decide) ?_
  rw [hQ]
  obtain ⟨hP9, hD9⟩ := nv_sub2 (wc := [(h0, .inr (11, [.ref h2, .ref h3, .ref h4, .ref h5, .ref h6, .int x1, .int x2]))]) hP hD [0] (by decide) rfl
  have hK9 := hK.sub (tys' := []) [] rfl
  refine W.widen (k := 1) (n := 6) (by decide) (by decide) ?_
  exact W.iret (v := 1) hx hb hr (fun t ht hW => ⟨⟨1, (), rfl, ⟨rfl, trivial⟩, by rw [ht]; exact hP9, va_K.moved hW.alike hK9, hD9⟩, hS.F ht⟩) hS.2.2 dL_register_14
set_option maxHeartbeats 100000000 in
set_option maxRecDepth 100000 in
theorem cX12_register_1 (l : Launch) (dC : Nat → ClassId) (dI : Nat → Nat → Nat) (h0 h1 h2 h3 h4 h5 h6 h7 h8 h9 h10 h11 h12 h13 h14 h15 h16 h17 : Nat) (y0 : ClassId) (sz : Nat) (x0 x1 x2 x3 x4 x5 x6 x7 x8 x9 x10 x11 x12 x13 x14 x15 x16 x17 x18 x19 x20 x21 x22 x23 x24 x25 x26 x27 x28 x29 x30 x31 x32 x33 x34 x35 x36 x37 x38 x39 x40 x41 x42 x43 x44 x45 x46 x47 x48 x49 x50 x51 x52 x53 x54 : Int32) (z0 : Int64) (f0 : Nat → Int32) (ix16 : iv x16 0 1) (ix17 : iv x17 0 40) (ix22 : iv x22 0 65535) (ix23 : iv x23 0 1) (ix24 : iv x24 0 1) (ix25 : iv x25 0 2600) (ix26 : iv x26 0 2600) (ix27 : iv x27 0 2500) (ix28 : iv x28 0 2500) (ix32 : iv x32 0 1048575) (ix33 : iv x33 0 60) (ix34 : iv x34 0 60) (ix35 : iv x35 0 1) (ix36 : iv x36 0 1) (ix37 : iv x37 0 65535) (ix42 : iv x42 0 5200) (ix43 : iv x43 0 70800) (ix47 : iv x47 0 1) (ix48 : iv x48 0 1) (ix50 : iv x50 0 100) (ix54 : iv x54 0 1) (if0 : ∀ j, iv (f0 j) 0 65535) : Met l yX12_register (Cond.code yX12_register cX12_register 2 (some .int) :: lw_G) ({ frames := 1, cells := 0, slots := 0, locals := 21 }) (va_Pc [.ref h0, .int x0] (fun U => U.heap.size = sz ∧ va_P (dC, dI) vwCl [(h0, .inr (12, .int x1 :: .ref h1 :: .ref h2 :: .int x2 :: .int x3 :: .int x4 :: .int x5 :: .int x6 :: .int x7 :: .int x8 :: .int x9 :: .int x10 :: [.int x11, .int x12, .int x13, .int x14, .int x15, .int x16, .ref h3, .ref h4, .ref h5, .ref h6, .int x17, .int x18, .int x19, .int x20, .int x21, .int x22, .int x23, .int x24, .ref h7, .int x25, .int x26, .int x27, .int x28, .ref h8, .ref h9, .int x29, .int x30, .long z0, .int x31, .int x32, .ref h10, .ref h11, .ref h12, .ref h13, .ref h14, .int x33, .int x34, .int x35, .int x36, .int x37, .int x38, .int x39, .int x40, .int x41, .ref h15, .ref h16, .int x42, .int x43, .int x44, .int x45, .int x46, .int x47, .int x48, .int x49, .ref h17, .int x50, .int x51, .int x52, .int x53, .int x54])), (h2, .inl (y0, 16, .inl f0))] U.heap ∧ va_K (dC, dI) vwCl [(y0, .int)] U ∧ va_D (fun _ => True) [(h0, .inr (12, .int x1 :: .ref h1 :: .ref h2 :: .int x2 :: .int x3 :: .int x4 :: .int x5 :: .int x6 :: .int x7 :: .int x8 :: .int x9 :: .int x10 :: [.int x11, .int x12, .int x13, .int x14, .int x15, .int x16, .ref h3, .ref h4, .ref h5, .ref h6, .int x17, .int x18, .int x19, .int x20, .int x21, .int x22, .int x23, .int x24, .ref h7, .int x25, .int x26, .int x27, .int x28, .ref h8, .ref h9, .int x29, .int x30, .long z0, .int x31, .int x32, .ref h10, .ref h11, .ref h12, .ref h13, .ref h14, .int x33, .int x34, .int x35, .int x36, .int x37, .int x38, .int x39, .int x40, .int x41, .ref h15, .ref h16, .int x42, .int x43, .int x44, .int x45, .int x46, .int x47, .int x48, .int x49, .ref h17, .int x50, .int x51, .int x52, .int x53, .int x54])), (h2, .inl (y0, 16, .inl f0))])) (va_Qi (fun (r : Int32) (u : Int32) => iv r 0 65535 ∧ iv u 0 1 ∧ True) (fun (u : Int32) (t : State) => va_P (dC, dI) vwCl [(h0, .inr (12, .int u :: .ref h1 :: .ref h2 :: .int x2 :: .int x3 :: .int x4 :: .int x5 :: .int x6 :: .int x7 :: .int x8 :: .int x9 :: .int x10 :: [.int x11, .int x12, .int x13, .int x14, .int x15, .int x16, .ref h3, .ref h4, .ref h5, .ref h6, .int x17, .int x18, .int x19, .int x20, .int x21, .int x22, .int x23, .int x24, .ref h7, .int x25, .int x26, .int x27, .int x28, .ref h8, .ref h9, .int x29, .int x30, .long z0, .int x31, .int x32, .ref h10, .ref h11, .ref h12, .ref h13, .ref h14, .int x33, .int x34, .int x35, .int x36, .int x37, .int x38, .int x39, .int x40, .int x41, .ref h15, .ref h16, .int x42, .int x43, .int x44, .int x45, .int x46, .int x47, .int x48, .int x49, .ref h17, .int x50, .int x51, .int x52, .int x53, .int x54])), (h2, .inl (y0, 16, .inl f0))] t.heap ∧ va_K (dC, dI) vwCl [(y0, .int)] t ∧ va_D (va_A [(h0, .inr (12, .int x1 :: .ref h1 :: .ref h2 :: .int x2 :: .int x3 :: .int x4 :: .int x5 :: .int x6 :: .int x7 :: .int x8 :: .int x9 :: .int x10 :: [.int x11, .int x12, .int x13, .int x14, .int x15, .int x16, .ref h3, .ref h4, .ref h5, .ref h6, .int x17, .int x18, .int x19, .int x20, .int x21, .int x22, .int x23, .int x24, .ref h7, .int x25, .int x26, .int x27, .int x28, .ref h8, .ref h9, .int x29, .int x30, .long z0, .int x31, .int x32, .ref h10, .ref h11, .ref h12, .ref h13, .ref h14, .int x33, .int x34, .int x35, .int x36, .int x37, .int x38, .int x39, .int x40, .int x41, .ref h15, .ref h16, .int x42, .int x43, .int x44, .int x45, .int x46, .int x47, .int x48, .int x49, .ref h17, .int x50, .int x51, .int x52, .int x53, .int x54])), (h2, .inl (y0, 16, .inl f0))] sz) [(h0, .inr (12, .int u :: .ref h1 :: .ref h2 :: .int x2 :: .int x3 :: .int x4 :: .int x5 :: .int x6 :: .int x7 :: .int x8 :: .int x9 :: .int x10 :: [.int x11, .int x12, .int x13, .int x14, .int x15, .int x16, .ref h3, .ref h4, .ref h5, .ref h6, .int x17, .int x18, .int x19, .int x20, .int x21, .int x22, .int x23, .int x24, .ref h7, .int x25, .int x26, .int x27, .int x28, .ref h8, .ref h9, .int x29, .int x30, .long z0, .int x31, .int x32, .ref h10, .ref h11, .ref h12, .ref h13, .ref h14, .int x33, .int x34, .int x35, .int x36, .int x37, .int x38, .int x39, .int x40, .int x41, .ref h15, .ref h16, .int x42, .int x43, .int x44, .int x45, .int x46, .int x47, .int x48, .int x49, .ref h17, .int x50, .int x51, .int x52, .int x53, .int x54])), (h2, .inl (y0, 16, .inl f0))]) (va_A [(h0, .inr (12, .int x1 :: .ref h1 :: .ref h2 :: .int x2 :: .int x3 :: .int x4 :: .int x5 :: .int x6 :: .int x7 :: .int x8 :: .int x9 :: .int x10 :: [.int x11, .int x12, .int x13, .int x14, .int x15, .int x16, .ref h3, .ref h4, .ref h5, .ref h6, .int x17, .int x18, .int x19, .int x20, .int x21, .int x22, .int x23, .int x24, .ref h7, .int x25, .int x26, .int x27, .int x28, .ref h8, .ref h9, .int x29, .int x30, .long z0, .int x31, .int x32, .ref h10, .ref h11, .ref h12, .ref h13, .ref h14, .int x33, .int x34, .int x35, .int x36, .int x37, .int x38, .int x39, .int x40, .int x41, .ref h15, .ref h16, .int x42, .int x43, .int x44, .int x45, .int x46, .int x47, .int x48, .int x49, .ref h17, .int x50, .int x51, .int x52, .int x53, .int x54])), (h2, .inl (y0, 16, .inl f0))] sz)) 0 0 (va_A [(h0, .inr (12, .int x1 :: .ref h1 :: .ref h2 :: .int x2 :: .int x3 :: .int x4 :: .int x5 :: .int x6 :: .int x7 :: .int x8 :: .int x9 :: .int x10 :: [.int x11, .int x12, .int x13, .int x14, .int x15, .int x16, .ref h3, .ref h4, .ref h5, .ref h6, .int x17, .int x18, .int x19, .int x20, .int x21, .int x22, .int x23, .int x24, .ref h7, .int x25, .int x26, .int x27, .int x28, .ref h8, .ref h9, .int x29, .int x30, .long z0, .int x31, .int x32, .ref h10, .ref h11, .ref h12, .ref h13, .ref h14, .int x33, .int x34, .int x35, .int x36, .int x37, .int x38, .int x39, .int x40, .int x41, .ref h15, .ref h16, .int x42, .int x43, .int x44, .int x45, .int x46, .int x47, .int x48, .int x49, .ref h17, .int x50, .int x51, .int x52, .int x53, .int x54])), (h2, .inl (y0, 16, .inl f0))] sz) := by
  refine Met.ofW (cc := cX12_register) (maxL := 2) (ret := (some .int)) (by decide) rfl ?_
  intro p e s m args below meth c s₁ B hml hv
  obtain ⟨rfl, hsz, hP, hK, hD0⟩ := hv
  have hx := B.exec
  have hb := B.bytes
  have hr := B.returns
  have hts0 := atoms_spec (ws := Cond.code yX12_register cX12_register 2 (some .int) :: lw_G) B.pre
  have hG : ∀ w ∈ lw_G, w.before _ s = true := fun w h => hts0 w (List.mem_cons_of_mem _ h)
  have hown : s.vm.findClass RX12 = some m.cls := findClass_of_methodNamed B.named
  have hlocks := B.notSynchronized
  subst hsz
  have hD := hD0.self (sz := s.heap.size)
  generalize hAe : va_A [(h0, .inr (12, .int x1 :: .ref h1 :: .ref h2 :: .int x2 :: .int x3 :: .int x4 :: .int x5 :: .int x6 :: .int x7 :: .int x8 :: .int x9 :: .int x10 :: [.int x11, .int x12, .int x13, .int x14, .int x15, .int x16, .ref h3, .ref h4, .ref h5, .ref h6, .int x17, .int x18, .int x19, .int x20, .int x21, .int x22, .int x23, .int x24, .ref h7, .int x25, .int x26, .int x27, .int x28, .ref h8, .ref h9, .int x29, .int x30, .long z0, .int x31, .int x32, .ref h10, .ref h11, .ref h12, .ref h13, .ref h14, .int x33, .int x34, .int x35, .int x36, .int x37, .int x38, .int x39, .int x40, .int x41, .ref h15, .ref h16, .int x42, .int x43, .int x44, .int x45, .int x46, .int x47, .int x48, .int x49, .ref h17, .int x50, .int x51, .int x52, .int x53, .int x54])), (h2, .inl (y0, 16, .inl f0))] s.heap.size = A at hD ⊢
  have hA : ∀ q : Nat, s.heap.size ≤ q → A q := fun q h => by rw [← hAe]; exact Or.inr h
  have hS : va_S A s.heap s.heap [] := va_S.rf
  have hP : va_P (dC, dI) vwCl [(h0, .inr (12, .int x1 :: .ref h1 :: .ref h2 :: .int x2 :: .int x3 :: .int x4 :: .int x5 :: .int x6 :: .int x7 :: .int x8 :: .int x9 :: .int x10 :: [.int x11, .int x12, .int x13, .int x14, .int x15, .int x16, .ref h3, .ref h4, .ref h5, .ref h6, .int x17, .int x18, .int x19, .int x20, .int x21, .int x22, .int x23, .int x24, .ref h7, .int x25, .int x26, .int x27, .int x28, .ref h8, .ref h9, .int x29, .int x30, .long z0, .int x31, .int x32, .ref h10, .ref h11, .ref h12, .ref h13, .ref h14, .int x33, .int x34, .int x35, .int x36, .int x37, .int x38, .int x39, .int x40, .int x41, .ref h15, .ref h16, .int x42, .int x43, .int x44, .int x45, .int x46, .int x47, .int x48, .int x49, .ref h17, .int x50, .int x51, .int x52, .int x53, .int x54])), (h2, .inl (y0, 16, .inl f0))] s.heap := hP
  have hl := lv_entry ([.ref h0, .int x0]) (n := 2) (Nat.le_of_ble_eq_true rfl)
  rw [lg_entry_eq]
  generalize (lg_sl ([.ref h0, .int x0]) ++ List.replicate (2 - (lg_sl ([.ref h0, .int x0])).length) Slot.unset).toArray = ls at hl ⊢
  have hl : lv_has ls 2 [(0, .ref h0), (1, .int x0)] := hl
  generalize ([.ref h0, .int x0] : List Value).toArray = ar at hG ⊢
  refine wq (fun Q hQ => ?_)
  refine lv_aload_n hx hb dX12_register_0 rfl (lv_at hl 0 rfl) ?_
  refine lv_iload_n hx hb dX12_register_1 rfl (lv_at hl 1 rfl) ?_
  refine lv_if_lt (tgt := 11) hx hb dX12_register_2 (by decide) (fun c1 => ?_) (fun c1 => ?_)
  · skip
    have j2 : iv x0 (-2147483648) (-1) := iv_ltL (iv_any x0) (by decide : iv 0 0 0) c1 (by decide)
    refine lv_iconst (v := 1) hx hb dX12_register_11 (by decide) ?_
    refine lv_goto (tgt := 16) hx hb dX12_register_12 (by decide) ?_
    obtain ⟨hPc, hDc, hFc⟩ := nv_sub3 (wc := [(h0, .inr (12, .int x1 :: .ref h1 :: .ref h2 :: .int x2 :: .int x3 :: .int x4 :: .int x5 :: .int x6 :: .int x7 :: .int x8 :: .int x9 :: .int x10 :: [.int x11, .int x12, .int x13, .int x14, .int x15, .int x16, .ref h3, .ref h4, .ref h5, .ref h6, .int x17, .int x18, .int x19, .int x20, .int x21, .int x22, .int x23, .int x24, .ref h7, .int x25, .int x26, .int x27, .int x28, .ref h8, .ref h9, .int x29, .int x30, .long z0, .int x31, .int x32, .ref h10, .ref h11, .ref h12, .ref h13, .ref h14, .int x33, .int x34, .int x35, .int x36, .int x37, .int x38, .int x39, .int x40, .int x41, .ref h15, .ref h16, .int x42, .int x43, .int x44, .int x45, .int x46, .int x47, .int x48, .int x49, .ref h17, .int x50, .int x51, .int x52, .int x53, .int x54]))]) hP hD hS hA [0] (by decide) rfl
    have hKc := hK.sub (tys' := []) [] rfl
    refine va_calli (va_runV (As := [.int 1]) (rest := []) ⟨hx, hb, hml, hown, hG⟩ (cX12_throwsIf_1 l dC dI h0 h1 h2 h3 h4 h5 h6 h7 h8 h9 h10 h11 h12 h13 h14 h15 h16 h17 s.heap.size x1 x2 x3 x4 x5 x6 x7 x8 x9 x10 x11 x12 x13 x14 x15 x16 x17 x18 x19 x20 x21 x22 x23 x24 x25 x26 x27 x28 x29 x30 x31 x32 x33 x34 x35 x36 x37 x38 x39 x40 x41 x42 x43 x44 x45 x46 x47 x48 x49 x50 x51 x52 x53 x54 z0 ix16 ix17 ix22 ix23 ix24 ix25 ix26 ix27 ix28 ix32 ix33 ix34 ix35 ix36 ix37 ix42 ix43 ix47 ix48 ix50 ix54) (cwV 1 hG (gV wd_1562 wd_1564 wp_71 wd_17 wd_1565) rfl rfl rfl (by decide +kernel) ⟨Nat.le_of_ble_eq_true rfl, Nat.le_of_ble_eq_true rfl⟩) ⟨fun a U g mk q => by obtain ⟨q0, q1, qP, qK, qD⟩ := q; exact ⟨q0, q1, qP, va_K.moved (u := U) (U := U.calling g mk a) (Vm.Alike.refl U.vm) qK, qD⟩, va_recv hKc hPc (ci := 12) (q0 := 0) rfl rfl, fun U hU hW => ⟨rfl, by rw [hU], by rw [hU]; exact hPc, va_K.moved hW.alike hKc, hDc.weaken (fun _ _ _ _ => trivial)⟩⟩ rfl rfl hl.1 rfl (lv_room (Nat.le_of_ble_eq_true rfl)) dX12_register_16 ⟨by decide, by decide⟩) hS (fun q _ h => hFc q h) hFc (fun r3 u4 t H1 locs ht hvm hw hB hz1 hk1 hS => ?_)
    have hw : r3 = 1 ∧ True := hw
    obtain ⟨er3, -⟩ := hw
    obtain ⟨hP1, hK1, hD1⟩ := hB
    rw [ht] at hP1
    have hK1 := va_K.moved hvm.symm hK1
    obtain ⟨hP, hD⟩ := nv_join (wf := [(h2, .inl (y0, 16, .inl f0)), (h0, .inr (12, .int 1 :: .ref h1 :: .ref h2 :: .int x2 :: .int x3 :: .int x4 :: .int x5 :: .int x6 :: .int x7 :: .int x8 :: .int x9 :: .int x10 :: [.int x11, .int x12, .int x13, .int x14, .int x15, .int x16, .ref h3, .ref h4, .ref h5, .ref h6, .int x17, .int x18, .int x19, .int x20, .int x21, .int x22, .int x23, .int x24, .ref h7, .int x25, .int x26, .int x27, .int x28, .ref h8, .ref h9, .int x29, .int x30, .long z0, .int x31, .int x32, .ref h10, .ref h11, .ref h12, .ref h13, .ref h14, .int x33, .int x34, .int x35, .int x36, .int x37, .int x38, .int x39, .int x40, .int x41, .ref h15, .ref h16, .int x42, .int x43, .int x44, .int x45, .int x46, .int x47, .int x48, .int x49, .ref h17, .int x50, .int x51, .int x52, .int x53, .int x54]))]) hP hD [0] [1] rfl rfl (by decide) (by decide) hk1 hFc hP1 hD1 rfl
    have hK := (hK.sub (tys' := [(y0, .int)]) [0] rfl).app hK1
    generalize H1 = H at hP hS ⊢
    have hK : va_K (dC, dI) vwCl [(y0, .int)] s := hK
    clear hKc hPc hDc hFc hP1 hD1 hK1 hk1 hz1
    subst er3
    refine lv_if_eq (tgt := 26) hx hb dX12_register_19 (by decide) (fun c => absurd c (by decide)) (fun _ => ?_)
    refine lv_iconst (v := 0) hx hb dX12_register_22 (by decide) ?_
    refine lv_goto (tgt := 32) hx hb dX12_register_23 (by decide) ?_
    rw [hQ]
    obtain ⟨hP9, hD9⟩ := nv_sub2 (wc := [(h0, .inr (12, .int 1 :: .ref h1 :: .ref h2 :: .int x2 :: .int x3 :: .int x4 :: .int x5 :: .int x6 :: .int x7 :: .int x8 :: .int x9 :: .int x10 :: [.int x11, .int x12, .int x13, .int x14, .int x15, .int x16, .ref h3, .ref h4, .ref h5, .ref h6, .int x17, .int x18, .int x19, .int x20, .int x21, .int x22, .int x23, .int x24, .ref h7, .int x25, .int x26, .int x27, .int x28, .ref h8, .ref h9, .int x29, .int x30, .long z0, .int x31, .int x32, .ref h10, .ref h11, .ref h12, .ref h13, .ref h14, .int x33, .int x34, .int x35, .int x36, .int x37, .int x38, .int x39, .int x40, .int x41, .ref h15, .ref h16, .int x42, .int x43, .int x44, .int x45, .int x46, .int x47, .int x48, .int x49, .ref h17, .int x50, .int x51, .int x52, .int x53, .int x54])), (h2, .inl (y0, 16, .inl f0))]) hP hD [1, 0] (by decide) rfl
    have hK9 := hK.sub (tys' := [(y0, .int)]) [0] rfl
    exact W.iret (v := 0) hx hb hr (fun t ht hW => ⟨⟨0, 1, rfl, ⟨iv_w (by decide : iv 0 0 0) (by decide) (by decide), iv_w (by decide : iv 1 1 1) (by decide) (by decide), trivial⟩, by rw [ht]; exact hP9, va_K.moved hW.alike hK9, hD9⟩, hS.F ht⟩) hS.2.2 dX12_register_32
  · skip
    have j5 : iv x0 0 2147483647 := iv_nltL (iv_any x0) (by decide : iv 0 0 0) c1 (by decide)
    refine lv_iload_n hx hb dX12_register_5 rfl (lv_at hl 1 rfl) ?_
    refine lv_bipush (v := 15) hx hb dX12_register_6 (by decide) ?_
    refine lv_icmp_le (tgt := 15) hx hb dX12_register_8 (by decide) (fun c6 => ?_) (fun c6 => ?_)
    · skip
      have j7 : iv x0 0 15 := iv_leL j5 (by decide : iv 15 15 15) c6 (by decide)
      refine lv_iconst (v := 0) hx hb dX12_register_15 (by decide) ?_
      obtain ⟨hPc, hDc, hFc⟩ := nv_sub3 (wc := [(h0, .inr (12, .int x1 :: .ref h1 :: .ref h2 :: .int x2 :: .int x3 :: .int x4 :: .int x5 :: .int x6 :: .int x7 :: .int x8 :: .int x9 :: .int x10 :: [.int x11, .int x12, .int x13, .int x14, .int x15, .int x16, .ref h3, .ref h4, .ref h5, .ref h6, .int x17, .int x18, .int x19, .int x20, .int x21, .int x22, .int x23, .int x24, .ref h7, .int x25, .int x26, .int x27, .int x28, .ref h8, .ref h9, .int x29, .int x30, .long z0, .int x31, .int x32, .ref h10, .ref h11, .ref h12, .ref h13, .ref h14, .int x33, .int x34, .int x35, .int x36, .int x37, .int x38, .int x39, .int x40, .int x41, .ref h15, .ref h16, .int x42, .int x43, .int x44, .int x45, .int x46, .int x47, .int x48, .int x49, .ref h17, .int x50, .int x51, .int x52, .int x53, .int x54]))]) hP hD hS hA [0] (by decide) rfl
      have hKc := hK.sub (tys' := []) [] rfl
      refine va_calli (va_runV (As := [.int 0]) (rest := []) ⟨hx, hb, hml, hown, hG⟩ (cX12_throwsIf_2 l dC dI h0 h1 h2 h3 h4 h5 h6 h7 h8 h9 h10 h11 h12 h13 h14 h15 h16 h17 s.heap.size x1 x2 x3 x4 x5 x6 x7 x8 x9 x10 x11 x12 x13 x14 x15 x16 x17 x18 x19 x20 x21 x22 x23 x24 x25 x26 x27 x28 x29 x30 x31 x32 x33 x34 x35 x36 x37 x38 x39 x40 x41 x42 x43 x44 x45 x46 x47 x48 x49 x50 x51 x52 x53 x54 z0 ix16 ix17 ix22 ix23 ix24 ix25 ix26 ix27 ix28 ix32 ix33 ix34 ix35 ix36 ix37 ix42 ix43 ix47 ix48 ix50 ix54) (cwV 1 hG (gV wd_1562 wd_1564 wp_71 wd_17 wd_1565) rfl rfl rfl (by decide +kernel) ⟨Nat.le_of_ble_eq_true rfl, Nat.le_of_ble_eq_true rfl⟩) ⟨fun a U g mk q => by obtain ⟨q0, q1, qP, qK, qD⟩ := q; exact ⟨q0, q1, qP, va_K.moved (u := U) (U := U.calling g mk a) (Vm.Alike.refl U.vm) qK, qD⟩, va_recv hKc hPc (ci := 12) (q0 := 0) rfl rfl, fun U hU hW => ⟨rfl, by rw [hU], by rw [hU]; exact hPc, va_K.moved hW.alike hKc, hDc.weaken (fun _ _ _ _ => trivial)⟩⟩ rfl rfl hl.1 rfl (lv_room (Nat.le_of_ble_eq_true rfl)) dX12_register_16 ⟨by decide, by decide⟩) hS (fun q _ h => hFc q h) hFc (fun r8 u9 t H1 locs ht hvm hw hB hz1 hk1 hS => ?_)
      have hw : r8 = 0 ∧ True := hw
      obtain ⟨er8, -⟩ := hw
      obtain ⟨hP1, hK1, hD1⟩ := hB
      rw [ht] at hP1
      have hK1 := va_K.moved hvm.symm hK1
      obtain ⟨hP, hD⟩ := nv_join (wf := [(h2, .inl (y0, 16, .inl f0)), (h0, .inr (12, .int 0 :: .ref h1 :: .ref h2 :: .int x2 :: .int x3 :: .int x4 :: .int x5 :: .int x6 :: .int x7 :: .int x8 :: .int x9 :: .int x10 :: [.int x11, .int x12, .int x13, .int x14, .int x15, .int x16, .ref h3, .ref h4, .ref h5, .ref h6, .int x17, .int x18, .int x19, .int x20, .int x21, .int x22, .int x23, .int x24, .ref h7, .int x25, .int x26, .int x27, .int x28, .ref h8, .ref h9, .int x29, .int x30, .long z0, .int x31, .int x32, .ref h10, .ref h11, .ref h12, .ref h13, .ref h14, .int x33, .int x34, .int x35, .int x36, .int x37, .int x38, .int x39, .int x40, .int x41, .ref h15, .ref h16, .int x42, .int x43, .int x44, .int x45, .int x46, .int x47, .int x48, .int x49, .ref h17, .int x50, .int x51, .int x52, .int x53, .int x54]))]) hP hD [0] [1] rfl rfl (by decide) (by decide) hk1 hFc hP1 hD1 rfl
      have hK := (hK.sub (tys' := [(y0, .int)]) [0] rfl).app hK1
      generalize H1 = H at hP hS ⊢
      have hK : va_K (dC, dI) vwCl [(y0, .int)] s := hK
      clear hKc hPc hDc hFc hP1 hD1 hK1 hk1 hz1
      subst er8
      refine lv_if_eq (tgt := 26) hx hb dX12_register_19 (by decide) (fun _ => ?_) (fun c => absurd (by decide) c)
      refine lv_aload_n hx hb dX12_register_26 rfl (lv_at hl 0 rfl) ?_
      refine va_get (D := (dC, dI)) (ci := 12) (v := .ref h2) (C := RX12) (T := TX12) (N := 72) hx hb hG inGX12 hown hK hP 1 rfl rfl 2 (by decide) (hG _ wd_1309) (fun _ h9 => h9) rfl dX12_register_27 ?_
      refine lv_iload_n hx hb dX12_register_30 rfl (lv_at hl 1 rfl) ?_
      refine va_iald hx hb hK hP 0 0 rfl rfl (iv_in j7 (by decide) (by decide) : vp_in x0 16) dX12_register_31 ?_
      refine lv_topi (fun v10 ev10 => ?_)
      have iv10 : iv v10 0 65535 := iv_eq ev10 (if0 _)
      rw [hQ]
      obtain ⟨hP9, hD9⟩ := nv_sub2 (wc := [(h0, .inr (12, .int 0 :: .ref h1 :: .ref h2 :: .int x2 :: .int x3 :: .int x4 :: .int x5 :: .int x6 :: .int x7 :: .int x8 :: .int x9 :: .int x10 :: [.int x11, .int x12, .int x13, .int x14, .int x15, .int x16, .ref h3, .ref h4, .ref h5, .ref h6, .int x17, .int x18, .int x19, .int x20, .int x21, .int x22, .int x23, .int x24, .ref h7, .int x25, .int x26, .int x27, .int x28, .ref h8, .ref h9, .int x29, .int x30, .long z0, .int x31, .int x32, .ref h10, .ref h11, .ref h12, .ref h13, .ref h14, .int x33, .int x34, .int x35, .int x36, .int x37, .int x38, .int x39, .int x40, .int x41, .ref h15, .ref h16, .int x42, .int x43, .int x44, .int x45, .int x46, .int x47, .int x48, .int x49, .ref h17, .int x50, .int x51, .int x52, .int x53, .int x54])), (h2, .inl (y0, 16, .inl f0))]) hP hD [1, 0] (by decide) rfl
      have hK9 := hK.sub (tys' := [(y0, .int)]) [0] rfl
      exact W.iret (v := v10) hx hb hr (fun t ht hW => ⟨⟨v10, 0, rfl, ⟨iv_w iv10 (by decide) (by decide), iv_w (by decide : iv 0 0 0) (by decide) (by decide), trivial⟩, by rw [ht]; exact hP9, va_K.moved hW.alike hK9, hD9⟩, hS.F ht⟩) hS.2.2 dX12_register_32
    · skip
      have j11 : iv x0 16 2147483647 := iv_nleL j5 (by decide : iv 15 15 15) c6 (by decide)
      refine lv_iconst (v := 1) hx hb dX12_register_11 (by decide) ?_
      refine lv_goto (tgt := 16) hx hb dX12_register_12 (by decide) ?_
      obtain ⟨hPc, hDc, hFc⟩ := nv_sub3 (wc := [(h0, .inr (12, .int x1 :: .ref h1 :: .ref h2 :: .int x2 :: .int x3 :: .int x4 :: .int x5 :: .int x6 :: .int x7 :: .int x8 :: .int x9 :: .int x10 :: [.int x11, .int x12, .int x13, .int x14, .int x15, .int x16, .ref h3, .ref h4, .ref h5, .ref h6, .int x17, .int x18, .int x19, .int x20, .int x21, .int x22, .int x23, .int x24, .ref h7, .int x25, .int x26, .int x27, .int x28, .ref h8, .ref h9, .int x29, .int x30, .long z0, .int x31, .int x32, .ref h10, .ref h11, .ref h12, .ref h13, .ref h14, .int x33, .int x34, .int x35, .int x36, .int x37, .int x38, .int x39, .int x40, .int x41, .ref h15, .ref h16, .int x42, .int x43, .int x44, .int x45, .int x46, .int x47, .int x48, .int x49, .ref h17, .int x50, .int x51, .int x52, .int x53, .int x54]))]) hP hD hS hA [0] (by decide) rfl
      have hKc := hK.sub (tys' := []) [] rfl
      refine va_calli (va_runV (As := [.int 1]) (rest := []) ⟨hx, hb, hml, hown, hG⟩ (cX12_throwsIf_1 l dC dI h0 h1 h2 h3 h4 h5 h6 h7 h8 h9 h10 h11 h12 h13 h14 h15 h16 h17 s.heap.size x1 x2 x3 x4 x5 x6 x7 x8 x9 x10 x11 x12 x13 x14 x15 x16 x17 x18 x19 x20 x21 x22 x23 x24 x25 x26 x27 x28 x29 x30 x31 x32 x33 x34 x35 x36 x37 x38 x39 x40 x41 x42 x43 x44 x45 x46 x47 x48 x49 x50 x51 x52 x53 x54 z0 ix16 ix17 ix22 ix23 ix24 ix25 ix26 ix27 ix28 ix32 ix33 ix34 ix35 ix36 ix37 ix42 ix43 ix47 ix48 ix50 ix54) (cwV 1 hG (gV wd_1562 wd_1564 wp_71 wd_17 wd_1565) rfl rfl rfl (by decide +kernel) ⟨Nat.le_of_ble_eq_true rfl, Nat.le_of_ble_eq_true rfl⟩) ⟨fun a U g mk q => by obtain ⟨q0, q1, qP, qK, qD⟩ := q; exact ⟨q0, q1, qP, va_K.moved (u := U) (U := U.calling g mk a) (Vm.Alike.refl U.vm) qK, qD⟩, va_recv hKc hPc (ci := 12) (q0 := 0) rfl rfl, fun U hU hW => ⟨rfl, by rw [hU], by rw [hU]; exact hPc, va_K.moved hW.alike hKc, hDc.weaken (fun _ _ _ _ => trivial)⟩⟩ rfl rfl hl.1 rfl (lv_room (Nat.le_of_ble_eq_true rfl)) dX12_register_16 ⟨by decide, by decide⟩) hS (fun q _ h => hFc q h) hFc (fun r12 u13 t H1 locs ht hvm hw hB hz1 hk1 hS => ?_)
      have hw : r12 = 1 ∧ True := hw
      obtain ⟨er12, -⟩ := hw
      obtain ⟨hP1, hK1, hD1⟩ := hB
      rw [ht] at hP1
      have hK1 := va_K.moved hvm.symm hK1
      obtain ⟨hP, hD⟩ := nv_join (wf := [(h2, .inl (y0, 16, .inl f0)), (h0, .inr (12, .int 1 :: .ref h1 :: .ref h2 :: .int x2 :: .int x3 :: .int x4 :: .int x5 :: .int x6 :: .int x7 :: .int x8 :: .int x9 :: .int x10 :: [.int x11, .int x12, .int x13, .int x14, .int x15, .int x16, .ref h3, .ref h4, .ref h5, .ref h6, .int x17, .int x18, .int x19, .int x20, .int x21, .int x22, .int x23, .int x24, .ref h7, .int x25, .int x26, .int x27, .int x28, .ref h8, .ref h9, .int x29, .int x30, .long z0, .int x31, .int x32, .ref h10, .ref h11, .ref h12, .ref h13, .ref h14, .int x33, .int x34, .int x35, .int x36, .int x37, .int x38, .int x39, .int x40, .int x41, .ref h15, .ref h16, .int x42, .int x43, .int x44, .int x45, .int x46, .int x47, .int x48, .int x49, .ref h17, .int x50, .int x51, .int x52, .int x53, .int x54]))]) hP hD [0] [1] rfl rfl (by decide) (by decide) hk1 hFc hP1 hD1 rfl
      have hK := (hK.sub (tys' := [(y0, .int)]) [0] rfl).app hK1
      generalize H1 = H at hP hS ⊢
      have hK : va_K (dC, dI) vwCl [(y0, .int)] s := hK
      clear hKc hPc hDc hFc hP1 hD1 hK1 hk1 hz1
      subst er12
      refine lv_if_eq (tgt := 26) hx hb dX12_register_19 (by decide) (fun c => absurd c (by decide)) (fun _ => ?_)
      refine lv_iconst (v := 0) hx hb dX12_register_22 (by decide) ?_
      refine lv_goto (tgt := 32) hx hb dX12_register_23 (by decide) ?_
      rw [hQ]
      obtain ⟨hP9, hD9⟩ := nv_sub2 (wc := [(h0, .inr (12, .int 1 :: .ref h1 :: .ref h2 :: .int x2 :: .int x3 :: .int x4 :: .int x5 :: .int x6 :: .int x7 :: .int x8 :: .int x9 :: .int x10 :: [.int x11, .int x12, .int x13, .int x14, .int x15, .int x16, .ref h3, .ref h4, .ref h5, .ref h6, .int x17, .int x18, .int x19, .int x20, .int x21, .int x22, .int x23, .int x24, .ref h7, .int x25, .int x26, .int x27, .int x28, .ref h8, .ref h9, .int x29, .int x30, .long z0, .int x31, .int x32, .ref h10, .ref h11, .ref h12, .ref h13, .ref h14, .int x33, .int x34, .int x35, .int x36, .int x37, .int x38, .int x39, .int x40, .int x41, .ref h15, .ref h16, .int x42, .int x43, .int x44, .int x45, .int x46, .int x47, .int x48, .int x49, .ref h17, .int x50, .int x51, .int x52, .int x53, .int x54])), (h2, .inl (y0, 16, .inl f0))]) hP hD [1, 0] (by decide) rfl
      have hK9 := hK.sub (tys' := [(y0, .int)]) [0] rfl
      exact W.iret (v := 0) hx hb hr (fun t ht hW => ⟨⟨0, 1, rfl, ⟨iv_w (by decide : iv 0 0 0) (by decide) (by decide), iv_w (by decide : iv 1 1 1) (by decide) (by decide), trivial⟩, by rw [ht]; exact hP9, va_K.moved hW.alike hK9, hD9⟩, hS.F ht⟩) hS.2.2 dX12_register_32
set_option maxHeartbeats 100000000 in
set_option maxRecDepth 100000 in
theorem cX11_register_2 (l : Launch) (hst : l.stackTraces = false) (dC : Nat → ClassId) (dI : Nat → Nat → Nat) (adK adV : Nat → Nat) (h0 h1 h2 h3 h4 h5 : Nat) (sz : Nat) (x0 x1 x2 : Int32) (ix0 : iv x0 16 2147483647) (ix1 : iv x1 0 2600) : vx_Met l yX11_register (Cond.code yX11_register cX11_register 2 (some .int) :: lw_G) ({ frames := 6, cells := 1, slots := 6, locals := 82 }) (va_Pc [.ref h0, .int x0] (fun U => U.heap.size = sz ∧ va_P (dC, dI) vwCl [(h0, .inr (11, [.ref h1, .ref h2, .ref h3, .ref h4, .ref h5, .int x1, .int x2]))] U.heap ∧ va_K (dC, dI) vwCl [] U ∧ va_D (fun _ => True) [(h0, .inr (11, [.ref h1, .ref h2, .ref h3, .ref h4, .ref h5, .int x1, .int x2]))] ∧ ev adK adV (va_A [(h0, .inr (11, [.ref h1, .ref h2, .ref h3, .ref h4, .ref h5, .int x1, .int x2]))] sz) U U.heap)) (va_Qi (fun (_ : Int32) (_ : Unit) => False) (fun _ _ => True) (va_A [(h0, .inr (11, [.ref h1, .ref h2, .ref h3, .ref h4, .ref h5, .int x1, .int x2]))] sz)) (vx_X (fun (_ : Unit) => True) (fun (E : String) (_ : Unit) (t : State) => E = "java/lang/IndexOutOfBoundsException" ∧ va_P (dC, dI) vwCl [(h0, .inr (11, [.ref h1, .ref h2, .ref h3, .ref h4, .ref h5, .int x1, .int x2]))] t.heap ∧ va_K (dC, dI) vwCl [] t ∧ va_D (va_A [(h0, .inr (11, [.ref h1, .ref h2, .ref h3, .ref h4, .ref h5, .int x1, .int x2]))] sz) [(h0, .inr (11, [.ref h1, .ref h2, .ref h3, .ref h4, .ref h5, .int x1, .int x2]))]) (va_A [(h0, .inr (11, [.ref h1, .ref h2, .ref h3, .ref h4, .ref h5, .int x1, .int x2]))] sz)) 1 6 (va_A [(h0, .inr (11, [.ref h1, .ref h2, .ref h3, .ref h4, .ref h5, .int x1, .int x2]))] sz) := by
  refine vx_ofW (cc := cX11_register) (maxL := 2) (ret := (some .int)) (by decide) rfl ?_
  intro p e s m args below meth c s₁ B hml htab hv
  obtain ⟨rfl, hsz, hP, hK, hD0, hE⟩ := hv
  have hx := B.exec
  have hb := B.bytes
  have hr := B.returns
  have hts0 := atoms_spec (ws := Cond.code yX11_register cX11_register 2 (some .int) :: lw_G) B.pre
  have hG : ∀ w ∈ lw_G, w.before _ s = true := fun w h => hts0 w (List.mem_cons_of_mem _ h)
  have hown : s.vm.findClass RX11 = some m.cls := findClass_of_methodNamed B.named
  have hlocks := B.notSynchronized
  subst hsz
  have hD := hD0.self (sz := s.heap.size)
  generalize hAe : va_A [(h0, .inr (11, [.ref h1, .ref h2, .ref h3, .ref h4, .ref h5, .int x1, .int x2]))] s.heap.size = A at hD hE ⊢
  have hA : ∀ q : Nat, s.heap.size ≤ q → A q := fun q h => by rw [← hAe]; exact Or.inr h
  have hS : va_S A s.heap s.heap [] := va_S.rf
  have hP : va_P (dC, dI) vwCl [(h0, .inr (11, [.ref h1, .ref h2, .ref h3, .ref h4, .ref h5, .int x1, .int x2]))] s.heap := hP
  have hl := lv_entry ([.ref h0, .int x0]) (n := 2) (Nat.le_of_ble_eq_true rfl)
  rw [lg_entry_eq]
  generalize (lg_sl ([.ref h0, .int x0]) ++ List.replicate (2 - (lg_sl ([.ref h0, .int x0])).length) Slot.unset).toArray = ls at hl ⊢
  have hl : lv_has ls 2 [(0, .ref h0), (1, .int x0)] := hl
  refine lv_iload_n hx hb dX11_register_0 rfl (lv_at hl 1 rfl) ?_
  refine lv_if_lt (tgt := 10) hx hb dX11_register_1 (by decide) (fun c => absurd c (iv_nlt ix0 (by decide : iv 0 0 0) (by decide))) (fun _ => ?_)
  refine lv_iload_n hx hb dX11_register_4 rfl (lv_at hl 1 rfl) ?_
  refine lv_bipush (v := 16) hx hb dX11_register_5 (by decide) ?_
  refine lv_icmp_lt (tgt := 20) hx hb dX11_register_7 (by decide) (fun c => absurd c (iv_nlt ix0 (by decide : iv 16 16 16) (by decide))) (fun _ => ?_)
  obtain ⟨hP9, hD9⟩ := nv_sub2 (wc := [(h0, .inr (11, [.ref h1, .ref h2, .ref h3, .ref h4, .ref h5, .int x1, .int x2]))]) hP hD [0] (by decide) rfl
  have hK9 := hK.sub (tys' := []) [] rfl
  refine vx_throwS (own := RX11) (cls := "java/lang/IndexOutOfBoundsException") (text := evT3) (names := ["java/lang/RuntimeException", "java/lang/Exception"]) hx hb hst hown (by decide) (by decide) (hG _ wd_1126) (hG _ wd_24) (evR3 hE) (evA1 hE hG) evG1_106 hE.2.2.2.1 hE.2.2.2.2.1 hS (by rw [hml]; exact hl.1) dX11_register_10 dX11_register_13 dX11_register_14 dX11_register_16 dX11_register_19 (fun x hx9 => (htab x hx9).elim) (by decide) (by decide) (by decide) (by decide) hlocks (fun t hvm9 hz9 hk9 => ⟨(), trivial, ⟨rfl, hP9.kept (fun k q hk => hk9 q.1 (vx_lt hP9 hk)), va_K.moved hvm9 hK9, hD9⟩, Nat.le_trans hS.1 hz9, fun q hq hA9 => (hk9 q (Nat.lt_of_lt_of_le hq hS.1)).trans (hS.2.1 q hq hA9)⟩) hS.2.2 (by decide) (by decide)
set_option maxHeartbeats 100000000 in
set_option maxRecDepth 100000 in
theorem cL_register_2 (l : Launch) (hst : l.stackTraces = false) (dC : Nat → ClassId) (dI : Nat → Nat → Nat) (adK adV : Nat → Nat) (h0 h1 h2 h3 h4 h5 h6 : Nat) (sz : Nat) (x0 x1 x2 : Int32) (ix0 : iv x0 16 2147483647) (ix1 : iv x1 0 2600) : Met l yL_register (Cond.codeWith yL_register cL_register 4 (some .int) [(0, 9, 12, 19)] :: lw_G) ({ frames := 7, cells := 1, slots := 6, locals := 103 }) (va_Pc [.ref h0, .int x0, .ref h1] (fun U => U.heap.size = sz ∧ va_P (dC, dI) vwCl [(h0, .inr (11, [.ref h2, .ref h3, .ref h4, .ref h5, .ref h6, .int x1, .int x2]))] U.heap ∧ va_K (dC, dI) vwCl [] U ∧ va_D (fun _ => True) [(h0, .inr (11, [.ref h2, .ref h3, .ref h4, .ref h5, .ref h6, .int x1, .int x2]))] ∧ ev adK adV (va_A [(h0, .inr (11, [.ref h2, .ref h3, .ref h4, .ref h5, .ref h6, .int x1, .int x2]))] sz) U U.heap)) (va_Qi (fun (r : Int32) (u : Unit) => r = 1 ∧ True) (fun (u : Unit) (t : State) => va_P (dC, dI) vwCl [(h0, .inr (11, [.ref h2, .ref h3, .ref h4, .ref h5, .ref h6, .int x1, .int x2]))] t.heap ∧ va_K (dC, dI) vwCl [] t ∧ va_D (va_A [(h0, .inr (11, [.ref h2, .ref h3, .ref h4, .ref h5, .ref h6, .int x1, .int x2]))] sz) [(h0, .inr (11, [.ref h2, .ref h3, .ref h4, .ref h5, .ref h6, .int x1, .int x2]))]) (va_A [(h0, .inr (11, [.ref h2, .ref h3, .ref h4, .ref h5, .ref h6, .int x1, .int x2]))] sz)) 1 6 (va_A [(h0, .inr (11, [.ref h2, .ref h3, .ref h4, .ref h5, .ref h6, .int x1, .int x2]))] sz) := by
  refine va_MetW (cc := cL_register) (maxL := 4) (ret := (some .int)) (by decide) rfl ?_
  intro p e s m args below meth c s₁ B hml hv
  obtain ⟨rfl, hsz, hP, hK, hD0, hE⟩ := hv
  have hx := B.exec
  have hb := B.bytes
  have hr := B.returns
  have hts0 := atoms_spec (ws := Cond.codeWith yL_register cL_register 4 (some .int) [(0, 9, 12, 19)] :: lw_G) B.pre
  have htab := vx_table (x := x) B (hts0 _ List.mem_cons_self)
  have hG : ∀ w ∈ lw_G, w.before _ s = true := fun w h => hts0 w (List.mem_cons_of_mem _ h)
  have hown : s.vm.findClass RL = some m.cls := findClass_of_methodNamed B.named
  have hlocks := B.notSynchronized
  subst hsz
  have hD := hD0.self (sz := s.heap.size)
  generalize hAe : va_A [(h0, .inr (11, [.ref h2, .ref h3, .ref h4, .ref h5, .ref h6, .int x1, .int x2]))] s.heap.size = A at hD hE ⊢
  have hA : ∀ q : Nat, s.heap.size ≤ q → A q := fun q h => by rw [← hAe]; exact Or.inr h
  have hS : va_S A s.heap s.heap [] := va_S.rf
  have hP : va_P (dC, dI) vwCl [(h0, .inr (11, [.ref h2, .ref h3, .ref h4, .ref h5, .ref h6, .int x1, .int x2]))] s.heap := hP
  have hl := lv_entry ([.ref h0, .int x0, .ref h1]) (n := 4) (Nat.le_of_ble_eq_true rfl)
  rw [lg_entry_eq]
  generalize (lg_sl ([.ref h0, .int x0, .ref h1]) ++ List.replicate (4 - (lg_sl ([.ref h0, .int x0, .ref h1])).length) Slot.unset).toArray = ls at hl ⊢
  have hl : lv_has ls 4 [(0, .ref h0), (1, .int x0), (2, .ref h1)] := hl
  generalize ([.ref h0, .int x0, .ref h1] : List Value).toArray = ar at hG ⊢
  refine wq (fun Q hQ => ?_)
  refine lv_aload_n hx hb dL_register_0 rfl (lv_at hl 2 rfl) ?_
  refine lv_iconst (v := 0) hx hb dL_register_1 (by decide) ?_
  refine lv_aload_n hx hb dL_register_2 rfl (lv_at hl 0 rfl) ?_
  refine lv_iload_n hx hb dL_register_3 rfl (lv_at hl 1 rfl) ?_
  obtain ⟨hPc, hDc, hFc⟩ := nv_sub3 (wc := [(h0, .inr (11, [.ref h2, .ref h3, .ref h4, .ref h5, .ref h6, .int x1, .int x2]))]) hP hD hS hA [0] (by decide) rfl
  have hKc := hK.sub (tys' := []) [] rfl
  refine vx_calli (vx_runV (As := [.int x0]) (rest := [.int 0, .ref h1]) ⟨hx, hb, hml, hown, hG⟩ (cX11_register_2 l hst dC dI adK adV h0 h2 h3 h4 h5 h6 s.heap.size x0 x1 x2 ix0 ix1) (cwV 1 hG (gV wd_1122 wd_1123 wd_1124 wd_1 wd_1125) rfl rfl rfl (by decide +kernel) ⟨Nat.le_of_ble_eq_true rfl, Nat.le_of_ble_eq_true rfl⟩) ⟨fun a U g mk q => by obtain ⟨q0, q1, qP, qK, qD, qE⟩ := q; exact ⟨q0, q1, qP, va_K.moved (u := U) (U := U.calling g mk a) (Vm.Alike.refl U.vm) qK, qD, qE.same rfl⟩, va_recv hKc hPc (ci := 11) (q0 := 0) rfl rfl, fun U hU hW => ⟨rfl, by rw [hU], by rw [hU]; exact hPc, va_K.moved hW.alike hKc, hDc.weaken (fun _ _ _ _ => trivial), by rw [hU]; exact ((hE.kept hS.2.1).narrow hFc).warm hW⟩⟩ rfl rfl hl.1 rfl (lv_room (Nat.le_of_ble_eq_true rfl)) dL_register_4 ⟨by decide, by decide⟩) hS (fun q _ h => hFc q h) hFc (fun q _ h => hFc q h) (fun E9 ce q1 u9 t H1 locs ht hvm hpx hB hz1 hk1 hS hce hcv hcl => ?_) (fun r u t H1 locs ht hvm hw hB hz1 hk1 hS => hw.elim)
  obtain ⟨rfl, hP1, hK1, hD1⟩ := hB
  rw [ht] at hP1
  have hK1 := va_K.moved hvm.symm hK1
  obtain ⟨hP, hD⟩ := nv_join (wf := [(h0, .inr (11, [.ref h2, .ref h3, .ref h4, .ref h5, .ref h6, .int x1, .int x2]))]) hP hD [0] [] rfl rfl (by decide) (by decide) hk1 hFc hP1 hD1 rfl
  have hK := (hK.sub (tys' := []) [] rfl).app hK1
  generalize H1 = H at hP hS hce ⊢
  have hK : va_K (dC, dI) vwCl [] s := hK
  refine vx_widen (k := 1) (n := 6) (by decide) (by decide) ?_
  refine vx_catch (name := "java/lang/IndexOutOfBoundsException") hown [] { startPc := 0, endPc := 9, handlerPc := 12, catchType := 19 } [] (by rw [htab]; rfl) (fun z hz => nomatch hz) (by decide) (by decide) (hG _ wd_1121) (evC1 hE) hce hcv hcl ?_
  refine lv_astore_n (lv' := [(3, .ref q1), (0, .ref h0), (1, .int x0), (2, .ref h1)]) hx hb dL_register_12 rfl hl (by decide) rfl (fun ls hl => ?_)
  refine lv_iconst (v := 1) hx hb dL_register_13 (by decide) ?_
  rw [hQ]
  obtain ⟨hP9, hD9⟩ := nv_sub2 (wc := [(h0, .inr (11, [.ref h2, .ref h3, .ref h4, .ref h5, .ref h6, .int x1, .int x2]))]) hP hD [0] (by decide) rfl
  have hK9 := hK.sub (tys' := []) [] rfl
  refine W.widen (k := 1) (n := 6) (by decide) (by decide) ?_
  exact W.iret (v := 1) hx hb hr (fun t ht hW => ⟨⟨1, (), rfl, ⟨rfl, trivial⟩, by rw [ht]; exact hP9, va_K.moved hW.alike hK9, hD9⟩, hS.F ht⟩) hS.2.2 dL_register_14
set_option maxHeartbeats 100000000 in
set_option maxRecDepth 100000 in
theorem cX11_register_3 (l : Launch) (dC : Nat → ClassId) (dI : Nat → Nat → Nat) (h0 h1 h2 h3 h4 h5 h6 h7 : Nat) (y0 : ClassId) (sz : Nat) (x0 x1 x2 x3 x4 x5 x6 x7 : Int32) (f0 : Nat → Int32) (ix0 : iv x0 0 15) (ix1 : iv x1 0 2600) (ix7 : iv x7 0 1) : Met l yX11_register (Cond.code yX11_register cX11_register 2 (some .int) :: lw_G) ({ frames := 1, cells := 0, slots := 0, locals := 21 }) (va_Pc [.ref h0, .int x0] (fun U => U.heap.size = sz ∧ va_P (dC, dI) vwCl [(h0, .inr (11, [.ref h1, .ref h2, .ref h3, .ref h4, .ref h5, .int x1, .int x2])), (h3, .inr (2, [.ref h6, .ref h7, .ref h2, .int x3, .int x4, .int x5, .int x6, .int x7])), (h6, .inl (y0, 16, .inl f0))] U.heap ∧ va_K (dC, dI) vwCl [(y0, .int)] U ∧ va_D (fun _ => True) [(h0, .inr (11, [.ref h1, .ref h2, .ref h3, .ref h4, .ref h5, .int x1, .int x2])), (h3, .inr (2, [.ref h6, .ref h7, .ref h2, .int x3, .int x4, .int x5, .int x6, .int x7])), (h6, .inl (y0, 16, .inl f0))])) (va_Qi (fun (r : Int32) (u : Unit) => True) (fun (u : Unit) (t : State) => va_P (dC, dI) vwCl [(h0, .inr (11, [.ref h1, .ref h2, .ref h3, .ref h4, .ref h5, .int x1, .int x2])), (h3, .inr (2, [.ref h6, .ref h7, .ref h2, .int x3, .int x4, .int x5, .int x6, .int x7])), (h6, .inl (y0, 16, .inl f0))] t.heap ∧ va_K (dC, dI) vwCl [(y0, .int)] t ∧ va_D (va_A [(h0, .inr (11, [.ref h1, .ref h2, .ref h3, .ref h4, .ref h5, .int x1, .int x2])), (h3, .inr (2, [.ref h6, .ref h7, .ref h2, .int x3, .int x4, .int x5, .int x6, .int x7])), (h6, .inl (y0, 16, .inl f0))] sz) [(h0, .inr (11, [.ref h1, .ref h2, .ref h3, .ref h4, .ref h5, .int x1, .int x2])), (h3, .inr (2, [.ref h6, .ref h7, .ref h2, .int x3, .int x4, .int x5, .int x6, .int x7])), (h6, .inl (y0, 16, .inl f0))]) (va_A [(h0, .inr (11, [.ref h1, .ref h2, .ref h3, .ref h4, .ref h5, .int x1, .int x2])), (h3, .inr (2, [.ref h6, .ref h7, .ref h2, .int x3, .int x4, .int x5, .int x6, .int x7])), (h6, .inl (y0, 16, .inl f0))] sz)) 0 0 (va_A [(h0, .inr (11, [.ref h1, .ref h2, .ref h3, .ref h4, .ref h5, .int x1, .int x2])), (h3, .inr (2, [.ref h6, .ref h7, .ref h2, .int x3, .int x4, .int x5, .int x6, .int x7])), (h6, .inl (y0, 16, .inl f0))] sz) := by
  refine Met.ofW (cc := cX11_register) (maxL := 2) (ret := (some .int)) (by decide) rfl ?_
  intro p e s m args below meth c s₁ B hml hv
  obtain ⟨rfl, hsz, hP, hK, hD0⟩ := hv
  have hx := B.exec
  have hb := B.bytes
  have hr := B.returns
  have hts0 := atoms_spec (ws := Cond.code yX11_register cX11_register 2 (some .int) :: lw_G) B.pre
  have hG : ∀ w ∈ lw_G, w.before _ s = true := fun w h => hts0 w (List.mem_cons_of_mem _ h)
  have hown : s.vm.findClass RX11 = some m.cls := findClass_of_methodNamed B.named
  have hlocks := B.notSynchronized
  subst hsz
  have hD := hD0.self (sz := s.heap.size)
  generalize hAe : va_A [(h0, .inr (11, [.ref h1, .ref h2, .ref h3, .ref h4, .ref h5, .int x1, .int x2])), (h3, .inr (2, [.ref h6, .ref h7, .ref h2, .int x3, .int x4, .int x5, .int x6, .int x7])), (h6, .inl (y0, 16, .inl f0))] s.heap.size = A at hD ⊢
  have hA : ∀ q : Nat, s.heap.size ≤ q → A q := fun q h => by rw [← hAe]; exact Or.inr h
  have hS : va_S A s.heap s.heap [] := va_S.rf
  have hP : va_P (dC, dI) vwCl [(h0, .inr (11, [.ref h1, .ref h2, .ref h3, .ref h4, .ref h5, .int x1, .int x2])), (h3, .inr (2, [.ref h6, .ref h7, .ref h2, .int x3, .int x4, .int x5, .int x6, .int x7])), (h6, .inl (y0, 16, .inl f0))] s.heap := hP
  have hl := lv_entry ([.ref h0, .int x0]) (n := 2) (Nat.le_of_ble_eq_true rfl)
  rw [lg_entry_eq]
  generalize (lg_sl ([.ref h0, .int x0]) ++ List.replicate (2 - (lg_sl ([.ref h0, .int x0])).length) Slot.unset).toArray = ls at hl ⊢
  have hl : lv_has ls 2 [(0, .ref h0), (1, .int x0)] := hl
  generalize ([.ref h0, .int x0] : List Value).toArray = ar at hG ⊢
  refine wq (fun Q hQ => ?_)
  refine lv_iload_n hx hb dX11_register_0 rfl (lv_at hl 1 rfl) ?_
  refine lv_if_lt (tgt := 10) hx hb dX11_register_1 (by decide) (fun c => absurd c (iv_nlt ix0 (by decide : iv 0 0 0) (by decide))) (fun _ => ?_)
  refine lv_iload_n hx hb dX11_register_4 rfl (lv_at hl 1 rfl) ?_
  refine lv_bipush (v := 16) hx hb dX11_register_5 (by decide) ?_
  refine lv_icmp_lt (tgt := 20) hx hb dX11_register_7 (by decide) (fun _ => ?_) (fun c => absurd (iv_lt ix0 (by decide : iv 16 16 16) (by decide)) c)
  refine lv_aload_n hx hb dX11_register_20 rfl (lv_at hl 0 rfl) ?_
  refine va_get (D := (dC, dI)) (ci := 11) (v := .ref h3) (C := RX11) (T := TX11) (N := 7) hx hb hG inGX11 hown hK hP 0 rfl rfl 2 (by decide) (hG _ wd_397) (fun _ h9 => h9) rfl dX11_register_21 ?_
  refine lv_iload_n hx hb dX11_register_24 rfl (lv_at hl 1 rfl) ?_
  obtain ⟨hPc, hDc, hFc⟩ := nv_sub3 (wc := [(h3, .inr (2, [.ref h6, .ref h7, .ref h2, .int x3, .int x4, .int x5, .int x6, .int x7])), (h6, .inl (y0, 16, .inl f0))]) hP hD hS hA [1, 2] (by decide) rfl
  have hKc := hK.sub (tys' := [(y0, .int)]) [0] rfl
  refine va_calli (va_runV (As := [.int x0]) (rest := []) ⟨hx, hb, hml, hown, hG⟩ (cX2_registerValue_1 l dC dI h3 h6 h7 h2 y0 s.heap.size x0 x3 x4 x5 x6 x7 f0 ix7) (cwV 1 hG (gV wd_1114 wd_1115 wd_1116 wd_6 wd_1117) rfl rfl rfl (by decide +kernel) ⟨Nat.le_of_ble_eq_true rfl, Nat.le_of_ble_eq_true rfl⟩) ⟨fun a U g mk q => by obtain ⟨q0, q1, qP, qK, qD⟩ := q; exact ⟨q0, q1, qP, va_K.moved (u := U) (U := U.calling g mk a) (Vm.Alike.refl U.vm) qK, qD⟩, va_recv hKc hPc (ci := 2) (q0 := 0) rfl rfl, fun U hU hW => ⟨rfl, by rw [hU], by rw [hU]; exact hPc, va_K.moved hW.alike hKc, hDc.weaken (fun _ _ _ _ => trivial)⟩⟩ rfl rfl hl.1 rfl (lv_room (Nat.le_of_ble_eq_true rfl)) dX11_register_25 ⟨by decide, by decide⟩) hS (fun q _ h => hFc q h) hFc (fun r1 u2 t H1 locs ht hvm hw hB hz1 hk1 hS => ?_)
  obtain ⟨hP1, hK1, hD1⟩ := hB
  rw [ht] at hP1
  have hK1 := va_K.moved hvm.symm hK1
  obtain ⟨hP, hD⟩ := nv_join (wf := [(h0, .inr (11, [.ref h1, .ref h2, .ref h3, .ref h4, .ref h5, .int x1, .int x2])), (h3, .inr (2, [.ref h6, .ref h7, .ref h2, .int x3, .int x4, .int x5, .int x6, .int x7])), (h6, .inl (y0, 16, .inl f0))]) hP hD [1, 2] [0] rfl rfl (by decide) (by decide) hk1 hFc hP1 hD1 rfl
  have hK := (hK.sub (tys' := []) [] rfl).app hK1
  generalize H1 = H at hP hS ⊢
  have hK : va_K (dC, dI) vwCl [(y0, .int)] s := hK
  rw [hQ]
  obtain ⟨hP9, hD9⟩ := nv_sub2 (wc := [(h0, .inr (11, [.ref h1, .ref h2, .ref h3, .ref h4, .ref h5, .int x1, .int x2])), (h3, .inr (2, [.ref h6, .ref h7, .ref h2, .int x3, .int x4, .int x5, .int x6, .int x7])), (h6, .inl (y0, 16, .inl f0))]) hP hD [0, 1, 2] (by decide) rfl
  have hK9 := hK.sub (tys' := [(y0, .int)]) [0] rfl
  exact W.iret (v := r1) hx hb hr (fun t ht hW => ⟨⟨r1, (), rfl, trivial, by rw [ht]; exact hP9, va_K.moved hW.alike hK9, hD9⟩, hS.F ht⟩) hS.2.2 dX11_register_28
set_option maxHeartbeats 100000000 in
set_option maxRecDepth 100000 in
theorem cL_register_3 (l : Launch) (dC : Nat → ClassId) (dI : Nat → Nat → Nat) (h0 h1 h2 h3 h4 h5 h6 h7 h8 : Nat) (y0 y1 : ClassId) (sz : Nat) (x0 x1 x2 x3 x4 x5 x6 x7 : Int32) (f0 : Nat → Int32) (g0 : Nat → Int64) (ix0 : iv x0 0 15) (ix1 : iv x1 0 2600) (ix7 : iv x7 0 1) : Met l yL_register (Cond.codeWith yL_register cL_register 4 (some .int) [(0, 9, 12, 19)] :: lw_G) ({ frames := 2, cells := 0, slots := 0, locals := 42 }) (va_Pc [.ref h0, .int x0, .ref h1] (fun U => U.heap.size = sz ∧ va_P (dC, dI) vwCl [(h0, .inr (11, [.ref h2, .ref h3, .ref h4, .ref h5, .ref h6, .int x1, .int x2])), (h4, .inr (2, [.ref h7, .ref h8, .ref h3, .int x3, .int x4, .int x5, .int x6, .int x7])), (h7, .inl (y0, 16, .inl f0)), (h1, .inl (y1, 1, .inr (.inl g0)))] U.heap ∧ va_K (dC, dI) vwCl [(y0, .int), (y1, .long)] U ∧ va_D (fun _ => True) [(h0, .inr (11, [.ref h2, .ref h3, .ref h4, .ref h5, .ref h6, .int x1, .int x2])), (h4, .inr (2, [.ref h7, .ref h8, .ref h3, .int x3, .int x4, .int x5, .int x6, .int x7])), (h7, .inl (y0, 16, .inl f0)), (h1, .inl (y1, 1, .inr (.inl g0)))])) (va_Qi (fun (r : Int32) (u : (Nat → Int64)) => r = 0 ∧ True) (fun (u : (Nat → Int64)) (t : State) => va_P (dC, dI) vwCl [(h0, .inr (11, [.ref h2, .ref h3, .ref h4, .ref h5, .ref h6, .int x1, .int x2])), (h4, .inr (2, [.ref h7, .ref h8, .ref h3, .int x3, .int x4, .int x5, .int x6, .int x7])), (h7, .inl (y0, 16, .inl f0)), (h1, .inl (y1, 1, .inr (.inl u)))] t.heap ∧ va_K (dC, dI) vwCl [(y0, .int), (y1, .long)] t ∧ va_D (va_A [(h0, .inr (11, [.ref h2, .ref h3, .ref h4, .ref h5, .ref h6, .int x1, .int x2])), (h4, .inr (2, [.ref h7, .ref h8, .ref h3, .int x3, .int x4, .int x5, .int x6, .int x7])), (h7, .inl (y0, 16, .inl f0)), (h1, .inl (y1, 1, .inr (.inl g0)))] sz) [(h0, .inr (11, [.ref h2, .ref h3, .ref h4, .ref h5, .ref h6, .int x1, .int x2])), (h4, .inr (2, [.ref h7, .ref h8, .ref h3, .int x3, .int x4, .int x5, .int x6, .int x7])), (h7, .inl (y0, 16, .inl f0)), (h1, .inl (y1, 1, .inr (.inl u)))]) (va_A [(h0, .inr (11, [.ref h2, .ref h3, .ref h4, .ref h5, .ref h6, .int x1, .int x2])), (h4, .inr (2, [.ref h7, .ref h8, .ref h3, .int x3, .int x4, .int x5, .int x6, .int x7])), (h7, .inl (y0, 16, .inl f0)), (h1, .inl (y1, 1, .inr (.inl g0)))] sz)) 0 0 (va_A [(h0, .inr (11, [.ref h2, .ref h3, .ref h4, .ref h5, .ref h6, .int x1, .int x2])), (h4, .inr (2, [.ref h7, .ref h8, .ref h3, .int x3, .int x4, .int x5, .int x6, .int x7])), (h7, .inl (y0, 16, .inl f0)), (h1, .inl (y1, 1, .inr (.inl g0)))] sz) := by
  refine va_MetW (cc := cL_register) (maxL := 4) (ret := (some .int)) (by decide) rfl ?_
  intro p e s m args below meth c s₁ B hml hv
  obtain ⟨rfl, hsz, hP, hK, hD0⟩ := hv
  have hx := B.exec
  have hb := B.bytes
  have hr := B.returns
  have hts0 := atoms_spec (ws := Cond.codeWith yL_register cL_register 4 (some .int) [(0, 9, 12, 19)] :: lw_G) B.pre
  have htab := vx_table (x := x) B (hts0 _ List.mem_cons_self)
  have hG : ∀ w ∈ lw_G, w.before _ s = true := fun w h => hts0 w (List.mem_cons_of_mem _ h)
  have hown : s.vm.findClass RL = some m.cls := findClass_of_methodNamed B.named
  have hlocks := B.notSynchronized
  subst hsz
  have hD := hD0.self (sz := s.heap.size)
  generalize hAe : va_A [(h0, .inr (11, [.ref h2, .ref h3, .ref h4, .ref h5, .ref h6, .int x1, .int x2])), (h4, .inr (2, [.ref h7, .ref h8, .ref h3, .int x3, .int x4, .int x5, .int x6, .int x7])), (h7, .inl (y0, 16, .inl f0)), (h1, .inl (y1, 1, .inr (.inl g0)))] s.heap.size = A at hD ⊢
  have hA : ∀ q : Nat, s.heap.size ≤ q → A q := fun q h => by rw [← hAe]; exact Or.inr h
  have hS : va_S A s.heap s.heap [] := va_S.rf
  have hP : va_P (dC, dI) vwCl [(h0, .inr (11, [.ref h2, .ref h3, .ref h4, .ref h5, .ref h6, .int x1, .int x2])), (h4, .inr (2, [.ref h7, .ref h8, .ref h3, .int x3, .int x4, .int x5, .int x6, .int x7])), (h7, .inl (y0, 16, .inl f0)), (h1, .inl (y1, 1, .inr (.inl g0)))] s.heap := hP
  have hl := lv_entry ([.ref h0, .int x0, .ref h1]) (n := 4) (Nat.le_of_ble_eq_true rfl)
  rw [lg_entry_eq]
  generalize (lg_sl ([.ref h0, .int x0, .ref h1]) ++ List.replicate (4 - (lg_sl ([.ref h0, .int x0, .ref h1])).length) Slot.unset).toArray = ls at hl ⊢
  have hl : lv_has ls 4 [(0, .ref h0), (1, .int x0), (2, .ref h1)] := hl
  generalize ([.ref h0, .int x0, .ref h1] : List Value).toArray = ar at hG ⊢
  refine wq (fun Q hQ => ?_)
  refine lv_aload_n hx hb dL_register_0 rfl (lv_at hl 2 rfl) ?_
  refine lv_iconst (v := 0) hx hb dL_register_1 (by decide) ?_
  refine lv_aload_n hx hb dL_register_2 rfl (lv_at hl 0 rfl) ?_
  refine lv_iload_n hx hb dL_register_3 rfl (lv_at hl 1 rfl) ?_
  obtain ⟨hPc, hDc, hFc⟩ := nv_sub3 (wc := [(h0, .inr (11, [.ref h2, .ref h3, .ref h4, .ref h5, .ref h6, .int x1, .int x2])), (h4, .inr (2, [.ref h7, .ref h8, .ref h3, .int x3, .int x4, .int x5, .int x6, .int x7])), (h7, .inl (y0, 16, .inl f0))]) hP hD hS hA [0, 1, 2] (by decide) rfl
  have hKc := hK.sub (tys' := [(y0, .int)]) [0] rfl
  refine va_calli (va_runV (As := [.int x0]) (rest := [.int 0, .ref h1]) ⟨hx, hb, hml, hown, hG⟩ (cX11_register_3 l dC dI h0 h2 h3 h4 h5 h6 h7 h8 y0 s.heap.size x0 x1 x2 x3 x4 x5 x6 x7 f0 ix0 ix1 ix7) (cwV 1 hG (gV wd_1122 wd_1123 wd_1124 wd_1 wd_1125) rfl rfl rfl (by decide +kernel) ⟨Nat.le_of_ble_eq_true rfl, Nat.le_of_ble_eq_true rfl⟩) ⟨fun a U g mk q => by obtain ⟨q0, q1, qP, qK, qD⟩ := q; exact ⟨q0, q1, qP, va_K.moved (u := U) (U := U.calling g mk a) (Vm.Alike.refl U.vm) qK, qD⟩, va_recv hKc hPc (ci := 11) (q0 := 0) rfl rfl, fun U hU hW => ⟨rfl, by rw [hU], by rw [hU]; exact hPc, va_K.moved hW.alike hKc, hDc.weaken (fun _ _ _ _ => trivial)⟩⟩ rfl rfl hl.1 rfl (lv_room (Nat.le_of_ble_eq_true rfl)) dL_register_4 ⟨by decide, by decide⟩) hS (fun q _ h => hFc q h) hFc (fun r1 u2 t H1 locs ht hvm hw hB hz1 hk1 hS => ?_)
  obtain ⟨hP1, hK1, hD1⟩ := hB
  rw [ht] at hP1
  have hK1 := va_K.moved hvm.symm hK1
  obtain ⟨hP, hD⟩ := nv_join (wf := [(h1, .inl (y1, 1, .inr (.inl g0))), (h0, .inr (11, [.ref h2, .ref h3, .ref h4, .ref h5, .ref h6, .int x1, .int x2])), (h4, .inr (2, [.ref h7, .ref h8, .ref h3, .int x3, .int x4, .int x5, .int x6, .int x7])), (h7, .inl (y0, 16, .inl f0))]) hP hD [0, 1, 2] [3] rfl rfl (by decide) (by decide) hk1 hFc hP1 hD1 rfl
  have hK := (hK.sub (tys' := [(y1, .long)]) [1] rfl).app hK1
  generalize H1 = H at hP hS ⊢
  have hK : va_K (dC, dI) vwCl [(y1, .long), (y0, .int)] s := hK
  refine lv_i2l (v := _) hx hb dL_register_7 rfl ?_
  refine lv_topl (fun w3 ew3 => ?_)
  refine va_last hx hb hK hP hD hS 0 0 rfl rfl (iv_in (by decide : iv 0 0 0) (by decide) (by decide) : vp_in 0 1) dL_register_8 (fun H locs hP hD hS => ?_)
  obtain ⟨nf4, enf4⟩ : ∃ z, z = vp_updL g0 (0 : Int32).toNatClampNeg w3 := ⟨_, rfl⟩
  obtain ⟨hP, hD⟩ := nv_eq (ws' := [(h1, .inl (y1, 1, .inr (.inl nf4))), (h0, .inr (11, [.ref h2, .ref h3, .ref h4, .ref h5, .ref h6, .int x1, .int x2])), (h4, .inr (2, [.ref h7, .ref h8, .ref h3, .int x3, .int x4, .int x5, .int x6, .int x7])), (h7, .inl (y0, 16, .inl f0))]) hP hD (by subst enf4; rfl)
  refine lv_goto (tgt := 15) hx hb dL_register_9 (by decide) ?_
  refine lv_iconst (v := 0) hx hb dL_register_15 (by decide) ?_
  rw [hQ]
  obtain ⟨hP9, hD9⟩ := nv_sub2 (wc := [(h0, .inr (11, [.ref h2, .ref h3, .ref h4, .ref h5, .ref h6, .int x1, .int x2])), (h4, .inr (2, [.ref h7, .ref h8, .ref h3, .int x3, .int x4, .int x5, .int x6, .int x7])), (h7, .inl (y0, 16, .inl f0)), (h1, .inl (y1, 1, .inr (.inl nf4)))]) hP hD [1, 2, 3, 0] (by decide) rfl
  have hK9 := hK.sub (tys' := [(y0, .int), (y1, .long)]) [1, 0] rfl
  exact W.iret (v := 0) hx hb hr (fun t ht hW => ⟨⟨0, nf4, rfl, ⟨rfl, trivial⟩, by rw [ht]; exact hP9, va_K.moved hW.alike hK9, hD9⟩, hS.F ht⟩) hS.2.2 dL_register_16
set_option maxHeartbeats 100000000 in
set_option maxRecDepth 100000 in
theorem cX11_set_1 (l : Launch) (hst : l.stackTraces = false) (dC : Nat → ClassId) (dI : Nat → Nat → Nat) (adK adV : Nat → Nat) (h0 h1 h2 h3 h4 h5 : Nat) (sz : Nat) (x0 x1 x2 x3 : Int32) (ix0 : iv x0 (-2147483648) (-1)) (ix2 : iv x2 0 2600) : vx_Met l yX11_set (Cond.code yX11_set cX11_set 3 none :: lw_G) ({ frames := 6, cells := 1, slots := 6, locals := 82 }) (va_Pc [.ref h0, .int x0, .int x1] (fun U => U.heap.size = sz ∧ va_P (dC, dI) vwCl [(h0, .inr (11, [.ref h1, .ref h2, .ref h3, .ref h4, .ref h5, .int x2, .int x3]))] U.heap ∧ va_K (dC, dI) vwCl [] U ∧ va_D (fun _ => True) [(h0, .inr (11, [.ref h1, .ref h2, .ref h3, .ref h4, .ref h5, .int x2, .int x3]))] ∧ ev adK adV (va_A [(h0, .inr (11, [.ref h1, .ref h2, .ref h3, .ref h4, .ref h5, .int x2, .int x3]))] sz) U U.heap)) (va_Qv (fun (_ : Unit) => False) (fun _ _ => True) (va_A [(h0, .inr (11, [.ref h1, .ref h2, .ref h3, .ref h4, .ref h5, .int x2, .int x3]))] sz)) (vx_X (fun (_ : Unit) => True) (fun (E : String) (_ : Unit) (t : State) => E = "java/lang/IndexOutOfBoundsException" ∧ va_P (dC, dI) vwCl [(h0, .inr (11, [.ref h1, .ref h2, .ref h3, .ref h4, .ref h5, .int x2, .int x3]))] t.heap ∧ va_K (dC, dI) vwCl [] t ∧ va_D (va_A [(h0, .inr (11, [.ref h1, .ref h2, .ref h3, .ref h4, .ref h5, .int x2, .int x3]))] sz) [(h0, .inr (11, [.ref h1, .ref h2, .ref h3, .ref h4, .ref h5, .int x2, .int x3]))]) (va_A [(h0, .inr (11, [.ref h1, .ref h2, .ref h3, .ref h4, .ref h5, .int x2, .int x3]))] sz)) 1 6 (va_A [(h0, .inr (11, [.ref h1, .ref h2, .ref h3, .ref h4, .ref h5, .int x2, .int x3]))] sz) := by
  refine vx_ofW (cc := cX11_set) (maxL := 3) (ret := none) (by decide) rfl ?_
  intro p e s m args below meth c s₁ B hml htab hv
  obtain ⟨rfl, hsz, hP, hK, hD0, hE⟩ := hv
  have hx := B.exec
  have hb := B.bytes
  have hr := B.returns
  have hts0 := atoms_spec (ws := Cond.code yX11_set cX11_set 3 none :: lw_G) B.pre
  have hG : ∀ w ∈ lw_G, w.before _ s = true := fun w h => hts0 w (List.mem_cons_of_mem _ h)
  have hown : s.vm.findClass RX11 = some m.cls := findClass_of_methodNamed B.named
  have hlocks := B.notSynchronized
  subst hsz
  have hD := hD0.self (sz := s.heap.size)
  generalize hAe : va_A [(h0, .inr (11, [.ref h1, .ref h2, .ref h3, .ref h4, .ref h5, .int x2, .int x3]))] s.heap.size = A at hD hE ⊢
  have hA : ∀ q : Nat, s.heap.size ≤ q → A q := fun q h => by rw [← hAe]; exact Or.inr h
  have hS : va_S A s.heap s.heap [] := va_S.rf
  have hP : va_P (dC, dI) vwCl [(h0, .inr (11, [.ref h1, .ref h2, .ref h3, .ref h4, .ref h5, .int x2, .int x3]))] s.heap := hP
  have hl := lv_entry ([.ref h0, .int x0, .int x1]) (n := 3) (Nat.le_of_ble_eq_true rfl)
  rw [lg_entry_eq]
  generalize (lg_sl ([.ref h0, .int x0, .int x1]) ++ List.replicate (3 - (lg_sl ([.ref h0, .int x0, .int x1])).length) Slot.unset).toArray = ls at hl ⊢
  have hl : lv_has ls 3 [(0, .ref h0), (1, .int x0), (2, .int x1)] := hl
  refine lv_iload_n hx hb dX11_set_0 rfl (lv_at hl 1 rfl) ?_
  refine lv_if_lt (tgt := 10) hx hb dX11_set_1 (by decide) (fun _ => ?_) (fun c => absurd (iv_lt ix0 (by decide : iv 0 0 0) (by decide)) c)
  obtain ⟨hP9, hD9⟩ := nv_sub2 (wc := [(h0, .inr (11, [.ref h1, .ref h2, .ref h3, .ref h4, .ref h5, .int x2, .int x3]))]) hP hD [0] (by decide) rfl
  have hK9 := hK.sub (tys' := []) [] rfl
  refine vx_throwS (own := RX11) (cls := "java/lang/IndexOutOfBoundsException") (text := evT3) (names := ["java/lang/RuntimeException", "java/lang/Exception"]) hx hb hst hown (by decide) (by decide) (hG _ wd_1126) (hG _ wd_24) (evR3 hE) (evA1 hE hG) evG1_106 hE.2.2.2.1 hE.2.2.2.2.1 hS (by rw [hml]; exact hl.1) dX11_set_10 dX11_set_13 dX11_set_14 dX11_set_16 dX11_set_19 (fun x hx9 => (htab x hx9).elim) (by decide) (by decide) (by decide) (by decide) hlocks (fun t hvm9 hz9 hk9 => ⟨(), trivial, ⟨rfl, hP9.kept (fun k q hk => hk9 q.1 (vx_lt hP9 hk)), va_K.moved hvm9 hK9, hD9⟩, Nat.le_trans hS.1 hz9, fun q hq hA9 => (hk9 q (Nat.lt_of_lt_of_le hq hS.1)).trans (hS.2.1 q hq hA9)⟩) hS.2.2 (by decide) (by decide)
set_option maxHeartbeats 100000000 in
set_option maxRecDepth 100000 in
theorem cL_set_1 (l : Launch) (hst : l.stackTraces = false) (dC : Nat → ClassId) (dI : Nat → Nat → Nat) (adK adV : Nat → Nat) (h0 h1 h2 h3 h4 h5 : Nat) (sz : Nat) (x0 x1 x2 x3 : Int32) (ix0 : iv x0 (-2147483648) (-1)) (ix2 : iv x2 0 2600) : Met l yL_set (Cond.codeWith yL_set cL_set 4 (some .int) [(0, 6, 9, 19)] :: lw_G) ({ frames := 7, cells := 1, slots := 6, locals := 104 }) (va_Pc [.ref h0, .int x0, .int x1] (fun U => U.heap.size = sz ∧ va_P (dC, dI) vwCl [(h0, .inr (11, [.ref h1, .ref h2, .ref h3, .ref h4, .ref h5, .int x2, .int x3]))] U.heap ∧ va_K (dC, dI) vwCl [] U ∧ va_D (fun _ => True) [(h0, .inr (11, [.ref h1, .ref h2, .ref h3, .ref h4, .ref h5, .int x2, .int x3]))] ∧ ev adK adV (va_A [(h0, .inr (11, [.ref h1, .ref h2, .ref h3, .ref h4, .ref h5, .int x2, .int x3]))] sz) U U.heap)) (va_Qi (fun (r : Int32) (u : Unit) => r = 1 ∧ True) (fun (u : Unit) (t : State) => va_P (dC, dI) vwCl [(h0, .inr (11, [.ref h1, .ref h2, .ref h3, .ref h4, .ref h5, .int x2, .int x3]))] t.heap ∧ va_K (dC, dI) vwCl [] t ∧ va_D (va_A [(h0, .inr (11, [.ref h1, .ref h2, .ref h3, .ref h4, .ref h5, .int x2, .int x3]))] sz) [(h0, .inr (11, [.ref h1, .ref h2, .ref h3, .ref h4, .ref h5, .int x2, .int x3]))]) (va_A [(h0, .inr (11, [.ref h1, .ref h2, .ref h3, .ref h4, .ref h5, .int x2, .int x3]))] sz)) 1 6 (va_A [(h0, .inr (11, [.ref h1, .ref h2, .ref h3, .ref h4, .ref h5, .int x2, .int x3]))] sz) := by
  refine va_MetW (cc := cL_set) (maxL := 4) (ret := (some .int)) (by decide) rfl ?_
  intro p e s m args below meth c s₁ B hml hv
  obtain ⟨rfl, hsz, hP, hK, hD0, hE⟩ := hv
  have hx := B.exec
  have hb := B.bytes
  have hr := B.returns
  have hts0 := atoms_spec (ws := Cond.codeWith yL_set cL_set 4 (some .int) [(0, 6, 9, 19)] :: lw_G) B.pre
  have htab := vx_table (x := x) B (hts0 _ List.mem_cons_self)
  have hG : ∀ w ∈ lw_G, w.before _ s = true := fun w h => hts0 w (List.mem_cons_of_mem _ h)
  have hown : s.vm.findClass RL = some m.cls := findClass_of_methodNamed B.named
  have hlocks := B.notSynchronized
  subst hsz
  have hD := hD0.self (sz := s.heap.size)
  generalize hAe : va_A [(h0, .inr (11, [.ref h1, .ref h2, .ref h3, .ref h4, .ref h5, .int x2, .int x3]))] s.heap.size = A at hD hE ⊢
  have hA : ∀ q : Nat, s.heap.size ≤ q → A q := fun q h => by rw [← hAe]; exact Or.inr h
  have hS : va_S A s.heap s.heap [] := va_S.rf
  have hP : va_P (dC, dI) vwCl [(h0, .inr (11, [.ref h1, .ref h2, .ref h3, .ref h4, .ref h5, .int x2, .int x3]))] s.heap := hP
  have hl := lv_entry ([.ref h0, .int x0, .int x1]) (n := 4) (Nat.le_of_ble_eq_true rfl)
  rw [lg_entry_eq]
  generalize (lg_sl ([.ref h0, .int x0, .int x1]) ++ List.replicate (4 - (lg_sl ([.ref h0, .int x0, .int x1])).length) Slot.unset).toArray = ls at hl ⊢
  have hl : lv_has ls 4 [(0, .ref h0), (1, .int x0), (2, .int x1)] := hl
  generalize ([.ref h0, .int x0, .int x1] : List Value).toArray = ar at hG ⊢
  refine wq (fun Q hQ => ?_)
  refine lv_aload_n hx hb dL_set_0 rfl (lv_at hl 0 rfl) ?_
  refine lv_iload_n hx hb dL_set_1 rfl (lv_at hl 1 rfl) ?_
  refine lv_iload_n hx hb dL_set_2 rfl (lv_at hl 2 rfl) ?_
  obtain ⟨hPc, hDc, hFc⟩ := nv_sub3 (wc := [(h0, .inr (11, [.ref h1, .ref h2, .ref h3, .ref h4, .ref h5, .int x2, .int x3]))]) hP hD hS hA [0] (by decide) rfl
  have hKc := hK.sub (tys' := []) [] rfl
  refine vx_callv (vx_runV (As := [.int x0, .int x1]) (rest := []) ⟨hx, hb, hml, hown, hG⟩ (cX11_set_1 l hst dC dI adK adV h0 h1 h2 h3 h4 h5 s.heap.size x0 x1 x2 x3 ix0 ix2) (cwV 2 hG (gV wd_1145 wd_1146 wd_1147 wd_1 wd_1148) rfl rfl rfl (by decide +kernel) ⟨Nat.le_of_ble_eq_true rfl, Nat.le_of_ble_eq_true rfl⟩) ⟨fun a U g mk q => by obtain ⟨q0, q1, qP, qK, qD, qE⟩ := q; exact ⟨q0, q1, qP, va_K.moved (u := U) (U := U.calling g mk a) (Vm.Alike.refl U.vm) qK, qD, qE.same rfl⟩, va_recv hKc hPc (ci := 11) (q0 := 0) rfl rfl, fun U hU hW => ⟨rfl, by rw [hU], by rw [hU]; exact hPc, va_K.moved hW.alike hKc, hDc.weaken (fun _ _ _ _ => trivial), by rw [hU]; exact ((hE.kept hS.2.1).narrow hFc).warm hW⟩⟩ rfl rfl hl.1 rfl (lv_room (Nat.le_of_ble_eq_true rfl)) dL_set_3 ⟨by decide, by decide⟩) hS (fun q _ h => hFc q h) hFc (fun q _ h => hFc q h) (fun E9 ce q1 u9 t H1 locs ht hvm hpx hB hz1 hk1 hS hce hcv hcl => ?_) (fun u t H1 locs ht hvm hw hB hz1 hk1 hS => hw.elim)
  obtain ⟨rfl, hP1, hK1, hD1⟩ := hB
  rw [ht] at hP1
  have hK1 := va_K.moved hvm.symm hK1
  obtain ⟨hP, hD⟩ := nv_join (wf := [(h0, .inr (11, [.ref h1, .ref h2, .ref h3, .ref h4, .ref h5, .int x2, .int x3]))]) hP hD [0] [] rfl rfl (by decide) (by decide) hk1 hFc hP1 hD1 rfl
  have hK := (hK.sub (tys' := []) [] rfl).app hK1
  generalize H1 = H at hP hS hce ⊢
  have hK : va_K (dC, dI) vwCl [] s := hK
  refine vx_widen (k := 1) (n := 6) (by decide) (by decide) ?_
  refine vx_catch (name := "java/lang/IndexOutOfBoundsException") hown [] { startPc := 0, endPc := 6, handlerPc := 9, catchType := 19 } [] (by rw [htab]; rfl) (fun z hz => nomatch hz) (by decide) (by decide) (hG _ wd_1121) (evC1 hE) hce hcv hcl ?_
  refine lv_astore_n (lv' := [(3, .ref q1), (0, .ref h0), (1, .int x0), (2, .int x1)]) hx hb dL_set_9 rfl hl (by decide) rfl (fun ls hl => ?_)
  refine lv_iconst (v := 1) hx hb dL_set_10 (by decide) ?_
  rw [hQ]
  obtain ⟨hP9, hD9⟩ := nv_sub2 (wc := [(h0, .inr (11, [.ref h1, .ref h2, .ref h3, .ref h4, .ref h5, .int x2, .int x3]))]) hP hD [0] (by decide) rfl
  have hK9 := hK.sub (tys' := []) [] rfl
  refine W.widen (k := 1) (n := 6) (by decide) (by decide) ?_
  exact W.iret (v := 1) hx hb hr (fun t ht hW => ⟨⟨1, (), rfl, ⟨rfl, trivial⟩, by rw [ht]; exact hP9, va_K.moved hW.alike hK9, hD9⟩, hS.F ht⟩) hS.2.2 dL_set_11
