set_option maxHeartbeats 100000000 in
set_option maxRecDepth 100000 in
theorem cX6_takeNumber_1 (l : Launch) (dC : Nat → ClassId) (dI : Nat → Nat → Nat) (h0 : Nat) (sz : Nat) (x0 x1 x2 x3 x4 x5 : Int32) (ix4 : iv x4 0 1) (ix5 : iv x5 0 1) : Met l yX6_takeNumber (Cond.code yX6_takeNumber cX6_takeNumber 2 none :: lw_G) ({ frames := 1, cells := 0, slots := 0, locals := 23 }) (va_Pc [.ref h0, .int x0] (fun U => U.heap.size = sz ∧ va_P (dC, dI) vwCl [(h0, .inr (6, [.int x1, .int x2, .int x3, .int x4, .int x5]))] U.heap ∧ va_K (dC, dI) vwCl [] U ∧ va_D (fun _ => True) [(h0, .inr (6, [.int x1, .int x2, .int x3, .int x4, .int x5]))])) (va_Qv (fun (u : Int32 × Int32 × Int32 × Int32) => iv u.1 0 3 ∧ iv u.2.1 0 3 ∧ iv u.2.2.2 0 1 ∧ True) (fun (u : Int32 × Int32 × Int32 × Int32) (t : State) => va_P (dC, dI) vwCl [(h0, .inr (6, [.int u.1, .int u.2.1, .int u.2.2.1, .int u.2.2.2, .int 0]))] t.heap ∧ va_K (dC, dI) vwCl [] t ∧ va_D (va_A [(h0, .inr (6, [.int x1, .int x2, .int x3, .int x4, .int x5]))] sz) [(h0, .inr (6, [.int u.1, .int u.2.1, .int u.2.2.1, .int u.2.2.2, .int 0]))]) (va_A [(h0, .inr (6, [.int x1, .int x2, .int x3, .int x4, .int x5]))] sz)) 0 0 (va_A [(h0, .inr (6, [.int x1, .int x2, .int x3, .int x4, .int x5]))] sz) := by
  refine Met.ofW (cc := cX6_takeNumber) (maxL := 2) (ret := none) (by decide) rfl ?_
  intro p e s m args below meth c s₁ B hml hv
  obtain ⟨rfl, hsz, hP, hK, hD0⟩ := hv
  have hx := B.exec
  have hb := B.bytes
  have hr := B.returns
  have hts0 := atoms_spec (ws := Cond.code yX6_takeNumber cX6_takeNumber 2 none :: lw_G) B.pre
  have hG : ∀ w ∈ lw_G, w.before _ s = true := fun w h => hts0 w (List.mem_cons_of_mem _ h)
  have hown : s.vm.findClass RX6 = some m.cls := findClass_of_methodNamed B.named
  have hlocks := B.notSynchronized
  subst hsz
  have hD := hD0.self (sz := s.heap.size)
  generalize hAe : va_A [(h0, .inr (6, [.int x1, .int x2, .int x3, .int x4, .int x5]))] s.heap.size = A at hD ⊢
  have hA : ∀ q : Nat, s.heap.size ≤ q → A q := fun q h => by rw [← hAe]; exact Or.inr h
  have hS : va_S A s.heap s.heap [] := va_S.rf
  have hP : va_P (dC, dI) vwCl [(h0, .inr (6, [.int x1, .int x2, .int x3, .int x4, .int x5]))] s.heap := hP
  have hl := lv_entry ([.ref h0, .int x0]) (n := 2) (Nat.le_of_ble_eq_true rfl)
  rw [lg_entry_eq]
  generalize (lg_sl ([.ref h0, .int x0]) ++ List.replicate (2 - (lg_sl ([.ref h0, .int x0])).length) Slot.unset).toArray = ls at hl ⊢
  have hl : lv_has ls 2 [(0, .ref h0), (1, .int x0)] := hl
  generalize ([.ref h0, .int x0] : List Value).toArray = ar at hG ⊢
  refine wq (fun Q hQ => ?_)
  refine lv_iload_n hx hb dX6_takeNumber_0 rfl (lv_at hl 1 rfl) ?_
  refine lv_ldc hx hb hown (hG _ wd_642) dX6_takeNumber_1 ?_
  refine lv_iand hx hb dX6_takeNumber_3 ?_
  refine lv_topi (fun v1 ev1 => ?_)
  have iv1 : iv v1 0 65535 := iv_eq ev1 (iv_and (x := x0) (iv_w (by decide : iv 65535 65535 65535) (by decide) (by decide) : iv 65535 0 65535))
  refine jcut (a := ∀ (b20 : Int32) (b21 : Int32) (b22 : Int32) (b23 : Int32) (ib20 : iv b20 0 3) (ib21 : iv b21 0 3) (ib23 : iv b23 0 1) (H : Heap) (locs : List Loc) (hK : va_K (dC, dI) vwCl [] s) (hP : va_P (dC, dI) vwCl [(h0, .inr (6, [.int b20, .int b21, .int b22, .int b23, .int 0]))] H) (hD : va_D A [(h0, .inr (6, [.int b20, .int b21, .int b22, .int b23, .int 0]))]) (hS : va_S A s.heap H locs) (ls : Array Slot) (hl : lv_has ls 2 []), W p l e (headSpec (Cond.code yX6_takeNumber cX6_takeNumber 2 none :: lw_G) ({ frames := 1, cells := 0, slots := 0, locals := 23 })).room s m ar below meth c H locs 0 0 Q (F0 m 109 ls [])) ?_ (fun j24 => ?_)
  · skip
    intro b20 b21 b22 b23 ib20 ib21 ib23 H locs hK hP hD hS ls hl
    rw [hQ]
    obtain ⟨hP9, hD9⟩ := nv_sub2 (wc := [(h0, .inr (6, [.int b20, .int b21, .int b22, .int b23, .int 0]))]) hP hD [0] (by decide) rfl
    have hK9 := hK.sub (tys' := []) [] rfl
    exact W.vret hx hb hr (fun t ht hW => ⟨⟨(b20, b21, b22, b23), rfl, ⟨iv_w ib20 (by decide) (by decide), iv_w ib21 (by decide) (by decide), iv_w ib23 (by decide) (by decide), trivial⟩, by rw [ht]; exact hP9, va_K.moved hW.alike hK9, hD9⟩, hS.F ht⟩) hS.2.2 dX6_takeNumber_109
  have s2x : v1 = 0 ∨ v1 = 1 ∨ v1 = 2 ∨ v1 = 4 ∨ v1 = 8 ∨ v1 = 65535 ∨ (¬ v1 = 0 ∧ ¬ v1 = 1 ∧ ¬ v1 = 2 ∧ ¬ v1 = 4 ∧ ¬ v1 = 8 ∧ ¬ v1 = 65535) := by
    by_cases q0 : v1 = 0; · simp [q0]
    by_cases q1 : v1 = 1; · simp [q1]
    by_cases q2 : v1 = 2; · simp [q2]
    by_cases q4 : v1 = 4; · simp [q4]
    by_cases q8 : v1 = 8; · simp [q8]
    by_cases q65535 : v1 = 65535; · simp [q65535]
    simp [q0, q1, q2, q4, q8, q65535]
  rcases s2x with rfl | rfl | rfl | rfl | rfl | rfl | s2
  · skip
    refine lv_lookup (off := 60) (tgt := 64) hx hb dX6_takeNumber_4 (by decide) (by decide) (by decide) ?_
    refine lv_aload_n hx hb dX6_takeNumber_64 rfl (lv_at hl 0 rfl) ?_
    refine lv_iload_n hx hb dX6_takeNumber_65 rfl (lv_at hl 1 rfl) ?_
    refine lv_iconst (v := 3) hx hb dX6_takeNumber_66 (by decide) ?_
    refine lv_iand hx hb dX6_takeNumber_67 ?_
    refine lv_topi (fun v25 ev25 => ?_)
    have iv25 : iv v25 0 3 := iv_eq ev25 (iv_and (x := x0) (iv_w (by decide : iv 3 3 3) (by decide) (by decide) : iv 3 0 3))
    refine lv_iconst (v := 3) hx hb dX6_takeNumber_68 (by decide) ?_
    obtain ⟨hPc, hDc, hFc⟩ := nv_sub3 (wc := [(h0, .inr (6, [.int x1, .int x2, .int x3, .int x4, .int x5]))]) hP hD hS hA [0] (by decide) rfl
    have hKc := hK.sub (tys' := []) [] rfl
    refine va_callv (va_runV (As := [.int v25, .int 3]) (rest := []) ⟨hx, hb, hml, hown, hG⟩ (cX6_take_1 l dC dI h0 s.heap.size v25 3 x1 x2 x3 x4 x5 ix4 ix5) (cwV 2 hG (gV wd_643 wd_627 wd_628 wd_9 wd_629) rfl rfl rfl (by decide +kernel) ⟨Nat.le_of_ble_eq_true rfl, Nat.le_of_ble_eq_true rfl⟩) ⟨fun a U g mk q => by obtain ⟨q0, q1, qP, qK, qD⟩ := q; exact ⟨q0, q1, qP, va_K.moved (u := U) (U := U.calling g mk a) (Vm.Alike.refl U.vm) qK, qD⟩, va_recv hKc hPc (ci := 6) (q0 := 0) rfl rfl, fun U hU hW => ⟨rfl, by rw [hU], by rw [hU]; exact hPc, va_K.moved hW.alike hKc, hDc.weaken (fun _ _ _ _ => trivial)⟩⟩ rfl rfl hl.1 rfl (lv_room (Nat.le_of_ble_eq_true rfl)) dX6_takeNumber_69 ⟨by decide, by decide⟩) hS (fun q _ h => hFc q h) hFc (fun u27 t H1 locs ht hvm hw hB hz1 hk1 hS => ?_)
    obtain ⟨hP1, hK1, hD1⟩ := hB
    rw [ht] at hP1
    have hK1 := va_K.moved hvm.symm hK1
    obtain ⟨hP, hD⟩ := nv_join (wf := [(h0, .inr (6, [.int v25, .int 3, .int 0, .int 0, .int 0]))]) hP hD [0] [] rfl rfl (by decide) (by decide) hk1 hFc hP1 hD1 rfl
    have hK := (hK.sub (tys' := []) [] rfl).app hK1
    generalize H1 = H at hP hS ⊢
    have hK : va_K (dC, dI) vwCl [] s := hK
    refine lv_goto (tgt := 109) hx hb dX6_takeNumber_72 (by decide) ?_
    exact j24 v25 3 0 0 iv25 (iv_w (by decide : iv 3 3 3) (by decide) (by decide)) (iv_w (by decide : iv 0 0 0) (by decide) (by decide)) _ _ hK hP hD hS ls (lv_sub hl [] rfl)
  · skip
    refine lv_lookup (off := 60) (tgt := 64) hx hb dX6_takeNumber_4 (by decide) (by decide) (by decide) ?_
    refine lv_aload_n hx hb dX6_takeNumber_64 rfl (lv_at hl 0 rfl) ?_
    refine lv_iload_n hx hb dX6_takeNumber_65 rfl (lv_at hl 1 rfl) ?_
    refine lv_iconst (v := 3) hx hb dX6_takeNumber_66 (by decide) ?_
    refine lv_iand hx hb dX6_takeNumber_67 ?_
    refine lv_topi (fun v28 ev28 => ?_)
    have iv28 : iv v28 0 3 := iv_eq ev28 (iv_and (x := x0) (iv_w (by decide : iv 3 3 3) (by decide) (by decide) : iv 3 0 3))
    refine lv_iconst (v := 3) hx hb dX6_takeNumber_68 (by decide) ?_
    obtain ⟨hPc, hDc, hFc⟩ := nv_sub3 (wc := [(h0, .inr (6, [.int x1, .int x2, .int x3, .int x4, .int x5]))]) hP hD hS hA [0] (by decide) rfl
    have hKc := hK.sub (tys' := []) [] rfl
    refine va_callv (va_runV (As := [.int v28, .int 3]) (rest := []) ⟨hx, hb, hml, hown, hG⟩ (cX6_take_1 l dC dI h0 s.heap.size v28 3 x1 x2 x3 x4 x5 ix4 ix5) (cwV 2 hG (gV wd_643 wd_627 wd_628 wd_9 wd_629) rfl rfl rfl (by decide +kernel) ⟨Nat.le_of_ble_eq_true rfl, Nat.le_of_ble_eq_true rfl⟩) ⟨fun a U g mk q => by obtain ⟨q0, q1, qP, qK, qD⟩ := q; exact ⟨q0, q1, qP, va_K.moved (u := U) (U := U.calling g mk a) (Vm.Alike.refl U.vm) qK, qD⟩, va_recv hKc hPc (ci := 6) (q0 := 0) rfl rfl, fun U hU hW => ⟨rfl, by rw [hU], by rw [hU]; exact hPc, va_K.moved hW.alike hKc, hDc.weaken (fun _ _ _ _ => trivial)⟩⟩ rfl rfl hl.1 rfl (lv_room (Nat.le_of_ble_eq_true rfl)) dX6_takeNumber_69 ⟨by decide, by decide⟩) hS (fun q _ h => hFc q h) hFc (fun u30 t H1 locs ht hvm hw hB hz1 hk1 hS => ?_)
    obtain ⟨hP1, hK1, hD1⟩ := hB
    rw [ht] at hP1
    have hK1 := va_K.moved hvm.symm hK1
    obtain ⟨hP, hD⟩ := nv_join (wf := [(h0, .inr (6, [.int v28, .int 3, .int 0, .int 0, .int 0]))]) hP hD [0] [] rfl rfl (by decide) (by decide) hk1 hFc hP1 hD1 rfl
    have hK := (hK.sub (tys' := []) [] rfl).app hK1
    generalize H1 = H at hP hS ⊢
    have hK : va_K (dC, dI) vwCl [] s := hK
    refine lv_goto (tgt := 109) hx hb dX6_takeNumber_72 (by decide) ?_
    exact j24 v28 3 0 0 iv28 (iv_w (by decide : iv 3 3 3) (by decide) (by decide)) (iv_w (by decide : iv 0 0 0) (by decide) (by decide)) _ _ hK hP hD hS ls (lv_sub hl [] rfl)
  · skip
    refine lv_lookup (off := 60) (tgt := 64) hx hb dX6_takeNumber_4 (by decide) (by decide) (by decide) ?_
    refine lv_aload_n hx hb dX6_takeNumber_64 rfl (lv_at hl 0 rfl) ?_
    refine lv_iload_n hx hb dX6_takeNumber_65 rfl (lv_at hl 1 rfl) ?_
    refine lv_iconst (v := 3) hx hb dX6_takeNumber_66 (by decide) ?_
    refine lv_iand hx hb dX6_takeNumber_67 ?_
    refine lv_topi (fun v31 ev31 => ?_)
    have iv31 : iv v31 0 3 := iv_eq ev31 (iv_and (x := x0) (iv_w (by decide : iv 3 3 3) (by decide) (by decide) : iv 3 0 3))
    refine lv_iconst (v := 3) hx hb dX6_takeNumber_68 (by decide) ?_
    obtain ⟨hPc, hDc, hFc⟩ := nv_sub3 (wc := [(h0, .inr (6, [.int x1, .int x2, .int x3, .int x4, .int x5]))]) hP hD hS hA [0] (by decide) rfl
    have hKc := hK.sub (tys' := []) [] rfl
    refine va_callv (va_runV (As := [.int v31, .int 3]) (rest := []) ⟨hx, hb, hml, hown, hG⟩ (cX6_take_1 l dC dI h0 s.heap.size v31 3 x1 x2 x3 x4 x5 ix4 ix5) (cwV 2 hG (gV wd_643 wd_627 wd_628 wd_9 wd_629) rfl rfl rfl (by decide +kernel) ⟨Nat.le_of_ble_eq_true rfl, Nat.le_of_ble_eq_true rfl⟩) ⟨fun a U g mk q => by obtain ⟨q0, q1, qP, qK, qD⟩ := q; exact ⟨q0, q1, qP, va_K.moved (u := U) (U := U.calling g mk a) (Vm.Alike.refl U.vm) qK, qD⟩, va_recv hKc hPc (ci := 6) (q0 := 0) rfl rfl, fun U hU hW => ⟨rfl, by rw [hU], by rw [hU]; exact hPc, va_K.moved hW.alike hKc, hDc.weaken (fun _ _ _ _ => trivial)⟩⟩ rfl rfl hl.1 rfl (lv_room (Nat.le_of_ble_eq_true rfl)) dX6_takeNumber_69 ⟨by decide, by decide⟩) hS (fun q _ h => hFc q h) hFc (fun u33 t H1 locs ht hvm hw hB hz1 hk1 hS => ?_)
    obtain ⟨hP1, hK1, hD1⟩ := hB
    rw [ht] at hP1
    have hK1 := va_K.moved hvm.symm hK1
    obtain ⟨hP, hD⟩ := nv_join (wf := [(h0, .inr (6, [.int v31, .int 3, .int 0, .int 0, .int 0]))]) hP hD [0] [] rfl rfl (by decide) (by decide) hk1 hFc hP1 hD1 rfl
    have hK := (hK.sub (tys' := []) [] rfl).app hK1
    generalize H1 = H at hP hS ⊢
    have hK : va_K (dC, dI) vwCl [] s := hK
    refine lv_goto (tgt := 109) hx hb dX6_takeNumber_72 (by decide) ?_
    exact j24 v31 3 0 0 iv31 (iv_w (by decide : iv 3 3 3) (by decide) (by decide)) (iv_w (by decide : iv 0 0 0) (by decide) (by decide)) _ _ hK hP hD hS ls (lv_sub hl [] rfl)
  · skip
    refine lv_lookup (off := 80) (tgt := 84) hx hb dX6_takeNumber_4 (by decide) (by decide) (by decide) ?_
    refine lv_aload_n hx hb dX6_takeNumber_84 rfl (lv_at hl 0 rfl) ?_
    refine lv_iconst (v := 2) hx hb dX6_takeNumber_85 (by decide) ?_
    refine lv_iconst (v := 2) hx hb dX6_takeNumber_86 (by decide) ?_
    obtain ⟨hPc, hDc, hFc⟩ := nv_sub3 (wc := [(h0, .inr (6, [.int x1, .int x2, .int x3, .int x4, .int x5]))]) hP hD hS hA [0] (by decide) rfl
    have hKc := hK.sub (tys' := []) [] rfl
    refine va_callv (va_runV (As := [.int 2, .int 2]) (rest := []) ⟨hx, hb, hml, hown, hG⟩ (cX6_take_1 l dC dI h0 s.heap.size 2 2 x1 x2 x3 x4 x5 ix4 ix5) (cwV 2 hG (gV wd_643 wd_627 wd_628 wd_9 wd_629) rfl rfl rfl (by decide +kernel) ⟨Nat.le_of_ble_eq_true rfl, Nat.le_of_ble_eq_true rfl⟩) ⟨fun a U g mk q => by obtain ⟨q0, q1, qP, qK, qD⟩ := q; exact ⟨q0, q1, qP, va_K.moved (u := U) (U := U.calling g mk a) (Vm.Alike.refl U.vm) qK, qD⟩, va_recv hKc hPc (ci := 6) (q0 := 0) rfl rfl, fun U hU hW => ⟨rfl, by rw [hU], by rw [hU]; exact hPc, va_K.moved hW.alike hKc, hDc.weaken (fun _ _ _ _ => trivial)⟩⟩ rfl rfl hl.1 rfl (lv_room (Nat.le_of_ble_eq_true rfl)) dX6_takeNumber_87 ⟨by decide, by decide⟩) hS (fun q _ h => hFc q h) hFc (fun u35 t H1 locs ht hvm hw hB hz1 hk1 hS => ?_)
    obtain ⟨hP1, hK1, hD1⟩ := hB
    rw [ht] at hP1
    have hK1 := va_K.moved hvm.symm hK1
    obtain ⟨hP, hD⟩ := nv_join (wf := [(h0, .inr (6, [.int 2, .int 2, .int 0, .int 0, .int 0]))]) hP hD [0] [] rfl rfl (by decide) (by decide) hk1 hFc hP1 hD1 rfl
    have hK := (hK.sub (tys' := []) [] rfl).app hK1
    generalize H1 = H at hP hS ⊢
    have hK : va_K (dC, dI) vwCl [] s := hK
    refine lv_goto (tgt := 109) hx hb dX6_takeNumber_90 (by decide) ?_
    exact j24 2 2 0 0 (iv_w (by decide : iv 2 2 2) (by decide) (by decide)) (iv_w (by decide : iv 2 2 2) (by decide) (by decide)) (iv_w (by decide : iv 0 0 0) (by decide) (by decide)) _ _ hK hP hD hS ls (lv_sub hl [] rfl)
  · skip
    refine lv_lookup (off := 89) (tgt := 93) hx hb dX6_takeNumber_4 (by decide) (by decide) (by decide) ?_
    refine lv_aload_n hx hb dX6_takeNumber_93 rfl (lv_at hl 0 rfl) ?_
    refine lv_iconst (v := 3) hx hb dX6_takeNumber_94 (by decide) ?_
    refine lv_iconst (v := 2) hx hb dX6_takeNumber_95 (by decide) ?_
    obtain ⟨hPc, hDc, hFc⟩ := nv_sub3 (wc := [(h0, .inr (6, [.int x1, .int x2, .int x3, .int x4, .int x5]))]) hP hD hS hA [0] (by decide) rfl
    have hKc := hK.sub (tys' := []) [] rfl
    refine va_callv (va_runV (As := [.int 3, .int 2]) (rest := []) ⟨hx, hb, hml, hown, hG⟩ (cX6_take_1 l dC dI h0 s.heap.size 3 2 x1 x2 x3 x4 x5 ix4 ix5) (cwV 2 hG (gV wd_643 wd_627 wd_628 wd_9 wd_629) rfl rfl rfl (by decide +kernel) ⟨Nat.le_of_ble_eq_true rfl, Nat.le_of_ble_eq_true rfl⟩) ⟨fun a U g mk q => by obtain ⟨q0, q1, qP, qK, qD⟩ := q; exact ⟨q0, q1, qP, va_K.moved (u := U) (U := U.calling g mk a) (Vm.Alike.refl U.vm) qK, qD⟩, va_recv hKc hPc (ci := 6) (q0 := 0) rfl rfl, fun U hU hW => ⟨rfl, by rw [hU], by rw [hU]; exact hPc, va_K.moved hW.alike hKc, hDc.weaken (fun _ _ _ _ => trivial)⟩⟩ rfl rfl hl.1 rfl (lv_room (Nat.le_of_ble_eq_true rfl)) dX6_takeNumber_96 ⟨by decide, by decide⟩) hS (fun q _ h => hFc q h) hFc (fun u37 t H1 locs ht hvm hw hB hz1 hk1 hS => ?_)
    obtain ⟨hP1, hK1, hD1⟩ := hB
    rw [ht] at hP1
    have hK1 := va_K.moved hvm.symm hK1
    obtain ⟨hP, hD⟩ := nv_join (wf := [(h0, .inr (6, [.int 3, .int 2, .int 0, .int 0, .int 0]))]) hP hD [0] [] rfl rfl (by decide) (by decide) hk1 hFc hP1 hD1 rfl
    have hK := (hK.sub (tys' := []) [] rfl).app hK1
    generalize H1 = H at hP hS ⊢
    have hK : va_K (dC, dI) vwCl [] s := hK
    refine lv_goto (tgt := 109) hx hb dX6_takeNumber_99 (by decide) ?_
    exact j24 3 2 0 0 (iv_w (by decide : iv 3 3 3) (by decide) (by decide)) (iv_w (by decide : iv 2 2 2) (by decide) (by decide)) (iv_w (by decide : iv 0 0 0) (by decide) (by decide)) _ _ hK hP hD hS ls (lv_sub hl [] rfl)
  · skip
    refine lv_lookup (off := 71) (tgt := 75) hx hb dX6_takeNumber_4 (by decide) (by decide) (by decide) ?_
    refine lv_aload_n hx hb dX6_takeNumber_75 rfl (lv_at hl 0 rfl) ?_
    refine lv_iconst (v := 3) hx hb dX6_takeNumber_76 (by decide) ?_
    refine lv_iconst (v := 3) hx hb dX6_takeNumber_77 (by decide) ?_
    obtain ⟨hPc, hDc, hFc⟩ := nv_sub3 (wc := [(h0, .inr (6, [.int x1, .int x2, .int x3, .int x4, .int x5]))]) hP hD hS hA [0] (by decide) rfl
    have hKc := hK.sub (tys' := []) [] rfl
    refine va_callv (va_runV (As := [.int 3, .int 3]) (rest := []) ⟨hx, hb, hml, hown, hG⟩ (cX6_take_1 l dC dI h0 s.heap.size 3 3 x1 x2 x3 x4 x5 ix4 ix5) (cwV 2 hG (gV wd_643 wd_627 wd_628 wd_9 wd_629) rfl rfl rfl (by decide +kernel) ⟨Nat.le_of_ble_eq_true rfl, Nat.le_of_ble_eq_true rfl⟩) ⟨fun a U g mk q => by obtain ⟨q0, q1, qP, qK, qD⟩ := q; exact ⟨q0, q1, qP, va_K.moved (u := U) (U := U.calling g mk a) (Vm.Alike.refl U.vm) qK, qD⟩, va_recv hKc hPc (ci := 6) (q0 := 0) rfl rfl, fun U hU hW => ⟨rfl, by rw [hU], by rw [hU]; exact hPc, va_K.moved hW.alike hKc, hDc.weaken (fun _ _ _ _ => trivial)⟩⟩ rfl rfl hl.1 rfl (lv_room (Nat.le_of_ble_eq_true rfl)) dX6_takeNumber_78 ⟨by decide, by decide⟩) hS (fun q _ h => hFc q h) hFc (fun u39 t H1 locs ht hvm hw hB hz1 hk1 hS => ?_)
    obtain ⟨hP1, hK1, hD1⟩ := hB
    rw [ht] at hP1
    have hK1 := va_K.moved hvm.symm hK1
    obtain ⟨hP, hD⟩ := nv_join (wf := [(h0, .inr (6, [.int 3, .int 3, .int 0, .int 0, .int 0]))]) hP hD [0] [] rfl rfl (by decide) (by decide) hk1 hFc hP1 hD1 rfl
    have hK := (hK.sub (tys' := []) [] rfl).app hK1
    generalize H1 = H at hP hS ⊢
    have hK : va_K (dC, dI) vwCl [] s := hK
    refine lv_goto (tgt := 109) hx hb dX6_takeNumber_81 (by decide) ?_
    exact j24 3 3 0 0 (iv_w (by decide : iv 3 3 3) (by decide) (by decide)) (iv_w (by decide : iv 3 3 3) (by decide) (by decide)) (iv_w (by decide : iv 0 0 0) (by decide) (by decide)) _ _ hK hP hD hS ls (lv_sub hl [] rfl)
  · skip
    refine lv_lookup (off := 98) (tgt := 102) hx hb dX6_takeNumber_4 (by decide) (by
        refine (lv_osw s2.1 (by decide : (0 : Int32).toInt = 0)).trans ?_
        refine (lv_osw s2.2.1 (by decide : (1 : Int32).toInt = 1)).trans ?_
        refine (lv_osw s2.2.2.1 (by decide : (2 : Int32).toInt = 2)).trans ?_
        refine (lv_osw s2.2.2.2.1 (by decide : (4 : Int32).toInt = 4)).trans ?_
        refine (lv_osw s2.2.2.2.2.1 (by decide : (8 : Int32).toInt = 8)).trans ?_
        refine (lv_osw s2.2.2.2.2.2 (by decide : (65535 : Int32).toInt = 65535)).trans ?_
        rfl) (by decide) ?_
    refine lv_aload_n hx hb dX6_takeNumber_102 rfl (lv_at hl 0 rfl) ?_
    refine lv_iconst (v := 3) hx hb dX6_takeNumber_103 (by decide) ?_
    refine lv_iconst (v := 0) hx hb dX6_takeNumber_104 (by decide) ?_
    refine lv_iload_n hx hb dX6_takeNumber_105 rfl (lv_at hl 1 rfl) ?_
    obtain ⟨hPc, hDc, hFc⟩ := nv_sub3 (wc := [(h0, .inr (6, [.int x1, .int x2, .int x3, .int x4, .int x5]))]) hP hD hS hA [0] (by decide) rfl
    have hKc := hK.sub (tys' := []) [] rfl
    refine va_callv (va_runV (As := [.int 3, .int 0, .int x0]) (rest := []) ⟨hx, hb, hml, hown, hG⟩ (cX6_takeWithNext_1 l dC dI h0 s.heap.size 3 0 x0 x1 x2 x3 x4 x5 ix4 ix5) (cwV 3 hG (gV wd_644 wd_645 wd_646 wd_9 wd_647) rfl rfl rfl (by decide +kernel) ⟨Nat.le_of_ble_eq_true rfl, Nat.le_of_ble_eq_true rfl⟩) ⟨fun a U g mk q => by obtain ⟨q0, q1, qP, qK, qD⟩ := q; exact ⟨q0, q1, qP, va_K.moved (u := U) (U := U.calling g mk a) (Vm.Alike.refl U.vm) qK, qD⟩, va_recv hKc hPc (ci := 6) (q0 := 0) rfl rfl, fun U hU hW => ⟨rfl, by rw [hU], by rw [hU]; exact hPc, va_K.moved hW.alike hKc, hDc.weaken (fun _ _ _ _ => trivial)⟩⟩ rfl rfl hl.1 rfl (lv_room (Nat.le_of_ble_eq_true rfl)) dX6_takeNumber_106 ⟨by decide, by decide⟩) hS (fun q _ h => hFc q h) hFc (fun u41 t H1 locs ht hvm hw hB hz1 hk1 hS => ?_)
    obtain ⟨hP1, hK1, hD1⟩ := hB
    rw [ht] at hP1
    have hK1 := va_K.moved hvm.symm hK1
    obtain ⟨hP, hD⟩ := nv_join (wf := [(h0, .inr (6, [.int 3, .int 0, .int x0, .int 1, .int 0]))]) hP hD [0] [] rfl rfl (by decide) (by decide) hk1 hFc hP1 hD1 rfl
    have hK := (hK.sub (tys' := []) [] rfl).app hK1
    generalize H1 = H at hP hS ⊢
    have hK : va_K (dC, dI) vwCl [] s := hK
    exact j24 3 0 x0 1 (iv_w (by decide : iv 3 3 3) (by decide) (by decide)) (iv_w (by decide : iv 0 0 0) (by decide) (by decide)) (iv_w (by decide : iv 1 1 1) (by decide) (by decide)) _ _ hK hP hD hS ls (lv_sub hl [] rfl)
set_option maxHeartbeats 100000000 in
set_option maxRecDepth 100000 in
theorem cX0_through_1 (l : Launch) (dC : Nat → ClassId) (dI : Nat → Nat → Nat) (h0 h1 h2 h3 h4 h5 h6 h7 h8 h9 h10 h11 h12 h13 : Nat) (y0 y1 y2 : ClassId) (sz : Nat) (x0 x1 x2 x3 x4 x5 x6 x7 x8 x9 x10 x11 x12 x13 x14 x15 x16 x17 x18 x19 : Int32) (z0 : Int64) (f0 f1 f2 : Nat → Int32) (ix0 : iv x0 0 2600) (ix1 : iv x1 0 1) (ix7 : iv x7 0 1) (ix10 : iv x10 0 2600) (ix11 : iv x11 0 2501) (ix12 : iv x12 0 2500) (ix18 : iv x18 0 1) (ix19 : iv x19 0 1) : Met l yX0_through (Cond.code yX0_through cX0_through 4 (some .boolean) :: lw_G) ({ frames := 1, cells := 0, slots := 0, locals := 22 }) (va_Pc [.ref h0, .ref h1] (fun U => U.heap.size = sz ∧ va_P (dC, dI) vwCl [(h0, .inr (0, [.ref h2, .ref h3, .ref h1, .ref h4, .ref h5, .ref h6, .ref h7, .int x0, .int x1, .int x2, .int x3, .int x4, .int x5, .int x6, .int x7, .int x8, .int x9])), (h2, .inr (10, [.ref h8, .ref h9, .ref h10, .ref h11, .ref h12, .ref h13, .int x10, .int x11, .int x12, .int x13, .int x14, .long z0])), (h8, .inl (y0, 2501, .inl f0)), (h10, .inl (y1, 2501, .inl f1)), (h1, .inr (6, [.int x15, .int x16, .int x17, .int x18, .int x19])), (h9, .inl (y2, 2501, .inl f2))] U.heap ∧ va_K (dC, dI) vwCl [(y0, .int), (y1, .int), (y2, .int)] U ∧ va_D (fun _ => True) [(h0, .inr (0, [.ref h2, .ref h3, .ref h1, .ref h4, .ref h5, .ref h6, .ref h7, .int x0, .int x1, .int x2, .int x3, .int x4, .int x5, .int x6, .int x7, .int x8, .int x9])), (h2, .inr (10, [.ref h8, .ref h9, .ref h10, .ref h11, .ref h12, .ref h13, .int x10, .int x11, .int x12, .int x13, .int x14, .long z0])), (h8, .inl (y0, 2501, .inl f0)), (h10, .inl (y1, 2501, .inl f1)), (h1, .inr (6, [.int x15, .int x16, .int x17, .int x18, .int x19])), (h9, .inl (y2, 2501, .inl f2))])) (va_Qi (fun (r : Int32) (u : Int32 × Int32 × Int32 × Int32 × Int32 × Int32 × Int32 × Int32) => iv r 0 1 ∧ iv u.2.2.1 0 2500 ∧ iv u.2.2.2.2.2.2.1 0 1 ∧ iv u.2.2.2.2.2.2.2 0 1 ∧ True) (fun (u : Int32 × Int32 × Int32 × Int32 × Int32 × Int32 × Int32 × Int32) (t : State) => va_P (dC, dI) vwCl [(h0, .inr (0, [.ref h2, .ref h3, .ref h1, .ref h4, .ref h5, .ref h6, .ref h7, .int x0, .int x1, .int x2, .int x3, .int x4, .int x5, .int x6, .int x7, .int u.1, .int u.2.1])), (h2, .inr (10, [.ref h8, .ref h9, .ref h10, .ref h11, .ref h12, .ref h13, .int x10, .int x11, .int u.2.2.1, .int x13, .int x14, .long z0])), (h8, .inl (y0, 2501, .inl f0)), (h10, .inl (y1, 2501, .inl f1)), (h1, .inr (6, [.int u.2.2.2.1, .int u.2.2.2.2.1, .int u.2.2.2.2.2.1, .int u.2.2.2.2.2.2.1, .int u.2.2.2.2.2.2.2])), (h9, .inl (y2, 2501, .inl f2))] t.heap ∧ va_K (dC, dI) vwCl [(y0, .int), (y1, .int), (y2, .int)] t ∧ va_D (va_A [(h0, .inr (0, [.ref h2, .ref h3, .ref h1, .ref h4, .ref h5, .ref h6, .ref h7, .int x0, .int x1, .int x2, .int x3, .int x4, .int x5, .int x6, .int x7, .int x8, .int x9])), (h2, .inr (10, [.ref h8, .ref h9, .ref h10, .ref h11, .ref h12, .ref h13, .int x10, .int x11, .int x12, .int x13, .int x14, .long z0])), (h8, .inl (y0, 2501, .inl f0)), (h10, .inl (y1, 2501, .inl f1)), (h1, .inr (6, [.int x15, .int x16, .int x17, .int x18, .int x19])), (h9, .inl (y2, 2501, .inl f2))] sz) [(h0, .inr (0, [.ref h2, .ref h3, .ref h1, .ref h4, .ref h5, .ref h6, .ref h7, .int x0, .int x1, .int x2, .int x3, .int x4, .int x5, .int x6, .int x7, .int u.1, .int u.2.1])), (h2, .inr (10, [.ref h8, .ref h9, .ref h10, .ref h11, .ref h12, .ref h13, .int x10, .int x11, .int u.2.2.1, .int x13, .int x14, .long z0])), (h8, .inl (y0, 2501, .inl f0)), (h10, .inl (y1, 2501, .inl f1)), (h1, .inr (6, [.int u.2.2.2.1, .int u.2.2.2.2.1, .int u.2.2.2.2.2.1, .int u.2.2.2.2.2.2.1, .int u.2.2.2.2.2.2.2])), (h9, .inl (y2, 2501, .inl f2))]) (va_A [(h0, .inr (0, [.ref h2, .ref h3, .ref h1, .ref h4, .ref h5, .ref h6, .ref h7, .int x0, .int x1, .int x2, .int x3, .int x4, .int x5, .int x6, .int x7, .int x8, .int x9])), (h2, .inr (10, [.ref h8, .ref h9, .ref h10, .ref h11, .ref h12, .ref h13, .int x10, .int x11, .int x12, .int x13, .int x14, .long z0])), (h8, .inl (y0, 2501, .inl f0)), (h10, .inl (y1, 2501, .inl f1)), (h1, .inr (6, [.int x15, .int x16, .int x17, .int x18, .int x19])), (h9, .inl (y2, 2501, .inl f2))] sz)) 0 0 (va_A [(h0, .inr (0, [.ref h2, .ref h3, .ref h1, .ref h4, .ref h5, .ref h6, .ref h7, .int x0, .int x1, .int x2, .int x3, .int x4, .int x5, .int x6, .int x7, .int x8, .int x9])), (h2, .inr (10, [.ref h8, .ref h9, .ref h10, .ref h11, .ref h12, .ref h13, .int x10, .int x11, .int x12, .int x13, .int x14, .long z0])), (h8, .inl (y0, 2501, .inl f0)), (h10, .inl (y1, 2501, .inl f1)), (h1, .inr (6, [.int x15, .int x16, .int x17, .int x18, .int x19])), (h9, .inl (y2, 2501, .inl f2))] sz) := by
  refine Met.ofW (cc := cX0_through) (maxL := 4) (ret := (some .boolean)) (by decide) rfl ?_
  intro p e s m args below meth c s₁ B hml hv
  obtain ⟨rfl, hsz, hP, hK, hD0⟩ := hv
  have hx := B.exec
  have hb := B.bytes
  have hr := B.returns
  have hts0 := atoms_spec (ws := Cond.code yX0_through cX0_through 4 (some .boolean) :: lw_G) B.pre
  have hG : ∀ w ∈ lw_G, w.before _ s = true := fun w h => hts0 w (List.mem_cons_of_mem _ h)
  have hown : s.vm.findClass RX0 = some m.cls := findClass_of_methodNamed B.named
  have hlocks := B.notSynchronized
  subst hsz
  have hD := hD0.self (sz := s.heap.size)
  generalize hAe : va_A [(h0, .inr (0, [.ref h2, .ref h3, .ref h1, .ref h4, .ref h5, .ref h6, .ref h7, .int x0, .int x1, .int x2, .int x3, .int x4, .int x5, .int x6, .int x7, .int x8, .int x9])), (h2, .inr (10, [.ref h8, .ref h9, .ref h10, .ref h11, .ref h12, .ref h13, .int x10, .int x11, .int x12, .int x13, .int x14, .long z0])), (h8, .inl (y0, 2501, .inl f0)), (h10, .inl (y1, 2501, .inl f1)), (h1, .inr (6, [.int x15, .int x16, .int x17, .int x18, .int x19])), (h9, .inl (y2, 2501, .inl f2))] s.heap.size = A at hD ⊢
  have hA : ∀ q : Nat, s.heap.size ≤ q → A q := fun q h => by rw [← hAe]; exact Or.inr h
  have hS : va_S A s.heap s.heap [] := va_S.rf
  have hP : va_P (dC, dI) vwCl [(h0, .inr (0, [.ref h2, .ref h3, .ref h1, .ref h4, .ref h5, .ref h6, .ref h7, .int x0, .int x1, .int x2, .int x3, .int x4, .int x5, .int x6, .int x7, .int x8, .int x9])), (h2, .inr (10, [.ref h8, .ref h9, .ref h10, .ref h11, .ref h12, .ref h13, .int x10, .int x11, .int x12, .int x13, .int x14, .long z0])), (h8, .inl (y0, 2501, .inl f0)), (h10, .inl (y1, 2501, .inl f1)), (h1, .inr (6, [.int x15, .int x16, .int x17, .int x18, .int x19])), (h9, .inl (y2, 2501, .inl f2))] s.heap := hP
  have hl := lv_entry ([.ref h0, .ref h1]) (n := 4) (Nat.le_of_ble_eq_true rfl)
  rw [lg_entry_eq]
  generalize (lg_sl ([.ref h0, .ref h1]) ++ List.replicate (4 - (lg_sl ([.ref h0, .ref h1])).length) Slot.unset).toArray = ls at hl ⊢
  have hl : lv_has ls 4 [(0, .ref h0), (1, .ref h1)] := hl
  generalize ([.ref h0, .ref h1] : List Value).toArray = ar at hG ⊢
  refine wq (fun Q hQ => ?_)
  refine lv_aload_n hx hb dX0_through_0 rfl (lv_at hl 0 rfl) ?_
  refine va_get (D := (dC, dI)) (ci := 0) (v := .ref h2) (C := RX0) (T := TX0) (N := 17) hx hb hG inGX0 hown hK hP 0 rfl rfl 0 (by decide) (hG _ wd_321) (fun _ h9 => h9) rfl dX0_through_1 ?_
  obtain ⟨hPc, hDc, hFc⟩ := nv_sub3 (wc := [(h2, .inr (10, [.ref h8, .ref h9, .ref h10, .ref h11, .ref h12, .ref h13, .int x10, .int x11, .int x12, .int x13, .int x14, .long z0]))]) hP hD hS hA [1] (by decide) rfl
  have hKc := hK.sub (tys' := []) [] rfl
  refine va_callv (va_runV (As := []) (rest := []) ⟨hx, hb, hml, hown, hG⟩ (cX10_skip_1 l dC dI h2 h8 h9 h10 h11 h12 h13 s.heap.size x10 x11 x12 x13 x14 z0 ix10 ix11 ix12) (cwV 0 hG (gV wd_576 wd_577 wd_578 wd_11 wd_579) rfl rfl rfl (by decide +kernel) ⟨Nat.le_of_ble_eq_true rfl, Nat.le_of_ble_eq_true rfl⟩) ⟨fun a U g mk q => by obtain ⟨q0, q1, qP, qK, qD⟩ := q; exact ⟨q0, q1, qP, va_K.moved (u := U) (U := U.calling g mk a) (Vm.Alike.refl U.vm) qK, qD⟩, va_recv hKc hPc (ci := 10) (q0 := 0) rfl rfl, fun U hU hW => ⟨rfl, by rw [hU], by rw [hU]; exact hPc, va_K.moved hW.alike hKc, hDc.weaken (fun _ _ _ _ => trivial)⟩⟩ rfl rfl hl.1 rfl (lv_room (Nat.le_of_ble_eq_true rfl)) dX0_through_4 ⟨by decide, by decide⟩) hS (fun q _ h => hFc q h) hFc (fun u2 t H1 locs ht hvm hw hB hz1 hk1 hS => ?_)
  obtain ⟨u2_0, rfl⟩ : ∃ z, z = u2 := ⟨_, rfl⟩
  have hw : iv u2_0 0 2500 ∧ True := hw
  obtain ⟨iu2_0, -⟩ := hw
  obtain ⟨hP1, hK1, hD1⟩ := hB
  rw [ht] at hP1
  have hK1 := va_K.moved hvm.symm hK1
  obtain ⟨hP, hD⟩ := nv_join (wf := [(h0, .inr (0, [.ref h2, .ref h3, .ref h1, .ref h4, .ref h5, .ref h6, .ref h7, .int x0, .int x1, .int x2, .int x3, .int x4, .int x5, .int x6, .int x7, .int x8, .int x9])), (h8, .inl (y0, 2501, .inl f0)), (h10, .inl (y1, 2501, .inl f1)), (h1, .inr (6, [.int x15, .int x16, .int x17, .int x18, .int x19])), (h9, .inl (y2, 2501, .inl f2)), (h2, .inr (10, [.ref h8, .ref h9, .ref h10, .ref h11, .ref h12, .ref h13, .int x10, .int x11, .int u2_0, .int x13, .int x14, .long z0]))]) hP hD [1] [0, 2, 3, 4, 5] rfl rfl (by decide) (by decide) hk1 hFc hP1 hD1 rfl
  have hK := (hK.sub (tys' := [(y0, .int), (y1, .int), (y2, .int)]) [0, 1, 2] rfl).app hK1
  generalize H1 = H at hP hS ⊢
  have hK : va_K (dC, dI) vwCl [(y0, .int), (y1, .int), (y2, .int)] s := hK
  refine lv_aload_n hx hb dX0_through_7 rfl (lv_at hl 0 rfl) ?_
  refine va_get (D := (dC, dI)) (ci := 0) (v := .ref h2) (C := RX0) (T := TX0) (N := 17) hx hb hG inGX0 hown hK hP 0 rfl rfl 0 (by decide) (hG _ wd_321) (fun _ h9 => h9) rfl dX0_through_8 ?_
  obtain ⟨hPc, hDc, hFc⟩ := nv_sub3 (wc := [(h2, .inr (10, [.ref h8, .ref h9, .ref h10, .ref h11, .ref h12, .ref h13, .int x10, .int x11, .int u2_0, .int x13, .int x14, .long z0])), (h8, .inl (y0, 2501, .inl f0)), (h10, .inl (y1, 2501, .inl f1))]) hP hD hS hA [5, 1, 2] (by decide) rfl
  have hKc := hK.sub (tys' := [(y0, .int), (y1, .int)]) [0, 1] rfl
  refine va_calli (va_runV (As := []) (rest := []) ⟨hx, hb, hml, hown, hG⟩ (cX10_isBase_1 l dC dI h2 h8 h9 h10 h11 h12 h13 y0 y1 H.size x10 x11 u2_0 x13 x14 z0 f0 f1 ix10 ix11 iu2_0) (cwV 0 hG (gV wd_634 wd_635 wd_636 wd_11 wd_637) rfl rfl rfl (by decide +kernel) ⟨Nat.le_of_ble_eq_true rfl, Nat.le_of_ble_eq_true rfl⟩) ⟨fun a U g mk q => by obtain ⟨q0, q1, qP, qK, qD⟩ := q; exact ⟨q0, q1, qP, va_K.moved (u := U) (U := U.calling g mk a) (Vm.Alike.refl U.vm) qK, qD⟩, va_recv hKc hPc (ci := 10) (q0 := 0) rfl rfl, fun U hU hW => ⟨rfl, by rw [hU], by rw [hU]; exact hPc, va_K.moved hW.alike hKc, hDc.weaken (fun _ _ _ _ => trivial)⟩⟩ rfl rfl hl.1 rfl (lv_room (Nat.le_of_ble_eq_true rfl)) dX0_through_11 ⟨by decide, by decide⟩) hS (fun q _ h => hFc q h) hFc (fun r3 u4 t H1 locs ht hvm hw hB hz1 hk1 hS => ?_)
  have hw : iv r3 0 1 ∧ True := hw
  obtain ⟨ir3, -⟩ := hw
  obtain ⟨hP1, hK1, hD1⟩ := hB
  rw [ht] at hP1
  have hK1 := va_K.moved hvm.symm hK1
  obtain ⟨hP, hD⟩ := nv_join (wf := [(h0, .inr (0, [.ref h2, .ref h3, .ref h1, .ref h4, .ref h5, .ref h6, .ref h7, .int x0, .int x1, .int x2, .int x3, .int x4, .int x5, .int x6, .int x7, .int x8, .int x9])), (h1, .inr (6, [.int x15, .int x16, .int x17, .int x18, .int x19])), (h9, .inl (y2, 2501, .inl f2)), (h2, .inr (10, [.ref h8, .ref h9, .ref h10, .ref h11, .ref h12, .ref h13, .int x10, .int x11, .int u2_0, .int x13, .int x14, .long z0])), (h8, .inl (y0, 2501, .inl f0)), (h10, .inl (y1, 2501, .inl f1))]) hP hD [5, 1, 2] [0, 3, 4] rfl rfl (by decide) (by decide) hk1 hFc hP1 hD1 rfl
  have hK := (hK.sub (tys' := [(y2, .int)]) [2] rfl).app hK1
  generalize H1 = H at hP hS ⊢
  have hK : va_K (dC, dI) vwCl [(y2, .int), (y0, .int), (y1, .int)] s := hK
  refine lv_if_ne (tgt := 30) hx hb dX0_through_14 (by decide) (fun c5 => ?_) (fun c5 => ?_)
  · skip
    have j6 : iv r3 1 1 := iv_neLo ir3 (by decide : iv 0 0 0) c5 (by decide)
    refine lv_aload_n hx hb dX0_through_30 rfl (lv_at hl 0 rfl) ?_
    refine va_get (D := (dC, dI)) (ci := 0) (v := .ref h2) (C := RX0) (T := TX0) (N := 17) hx hb hG inGX0 hown hK hP 0 rfl rfl 0 (by decide) (hG _ wd_321) (fun _ h9 => h9) rfl dX0_through_31 ?_
    obtain ⟨hPc, hDc, hFc⟩ := nv_sub3 (wc := [(h2, .inr (10, [.ref h8, .ref h9, .ref h10, .ref h11, .ref h12, .ref h13, .int x10, .int x11, .int u2_0, .int x13, .int x14, .long z0])), (h10, .inl (y1, 2501, .inl f1))]) hP hD hS hA [3, 5] (by decide) rfl
    have hKc := hK.sub (tys' := [(y1, .int)]) [2] rfl
    refine va_calli (va_runV (As := []) (rest := []) ⟨hx, hb, hml, hown, hG⟩ (cX10_value_1 l dC dI h2 h8 h9 h10 h11 h12 h13 y1 H.size x10 x11 u2_0 x13 x14 z0 f1 ix10 ix11 iu2_0) (cwV 0 hG (gV wd_584 wd_585 wd_586 wd_11 wd_587) rfl rfl rfl (by decide +kernel) ⟨Nat.le_of_ble_eq_true rfl, Nat.le_of_ble_eq_true rfl⟩) ⟨fun a U g mk q => by obtain ⟨q0, q1, qP, qK, qD⟩ := q; exact ⟨q0, q1, qP, va_K.moved (u := U) (U := U.calling g mk a) (Vm.Alike.refl U.vm) qK, qD⟩, va_recv hKc hPc (ci := 10) (q0 := 0) rfl rfl, fun U hU hW => ⟨rfl, by rw [hU], by rw [hU]; exact hPc, va_K.moved hW.alike hKc, hDc.weaken (fun _ _ _ _ => trivial)⟩⟩ rfl rfl hl.1 rfl (lv_room (Nat.le_of_ble_eq_true rfl)) dX0_through_34 ⟨by decide, by decide⟩) hS (fun q _ h => hFc q h) hFc (fun r7 u8 t H1 locs ht hvm hw hB hz1 hk1 hS => ?_)
    obtain ⟨hP1, hK1, hD1⟩ := hB
    rw [ht] at hP1
    have hK1 := va_K.moved hvm.symm hK1
    obtain ⟨hP, hD⟩ := nv_join (wf := [(h0, .inr (0, [.ref h2, .ref h3, .ref h1, .ref h4, .ref h5, .ref h6, .ref h7, .int x0, .int x1, .int x2, .int x3, .int x4, .int x5, .int x6, .int x7, .int x8, .int x9])), (h1, .inr (6, [.int x15, .int x16, .int x17, .int x18, .int x19])), (h9, .inl (y2, 2501, .inl f2)), (h8, .inl (y0, 2501, .inl f0)), (h2, .inr (10, [.ref h8, .ref h9, .ref h10, .ref h11, .ref h12, .ref h13, .int x10, .int x11, .int u2_0, .int x13, .int x14, .long z0])), (h10, .inl (y1, 2501, .inl f1))]) hP hD [3, 5] [0, 1, 2, 4] rfl rfl (by decide) (by decide) hk1 hFc hP1 hD1 rfl
    have hK := (hK.sub (tys' := [(y2, .int), (y0, .int)]) [0, 1] rfl).app hK1
    generalize H1 = H at hP hS ⊢
    have hK : va_K (dC, dI) vwCl [(y2, .int), (y0, .int), (y1, .int)] s := hK
    refine lv_istore_n (lv' := [(2, .int r7), (0, .ref h0), (1, .ref h1)]) hx hb dX0_through_37 rfl hl (by decide) rfl (fun ls hl => ?_)
    refine lv_aload_n hx hb dX0_through_38 rfl (lv_at hl 1 rfl) ?_
    refine va_get (D := (dC, dI)) (ci := 0) (v := .ref h2) (C := RX0) (T := TX0) (N := 17) hx hb hG inGX0 hown hK hP 0 rfl rfl 0 (by decide) (hG _ wd_321) (fun _ h9 => h9) rfl dX0_through_39 ?_
    obtain ⟨hPc, hDc, hFc⟩ := nv_sub3 (wc := [(h2, .inr (10, [.ref h8, .ref h9, .ref h10, .ref h11, .ref h12, .ref h13, .int x10, .int x11, .int u2_0, .int x13, .int x14, .long z0]))]) hP hD hS hA [4] (by decide) rfl
    have hKc := hK.sub (tys' := []) [] rfl
    refine va_callv (va_runV (As := []) (rest := []) ⟨hx, hb, hml, hown, hG⟩ (cX10_skip_1 l dC dI h2 h8 h9 h10 h11 h12 h13 H.size x10 x11 u2_0 x13 x14 z0 ix10 ix11 iu2_0) (cwV 0 hG (gV wd_576 wd_577 wd_578 wd_11 wd_579) rfl rfl rfl (by decide +kernel) ⟨Nat.le_of_ble_eq_true rfl, Nat.le_of_ble_eq_true rfl⟩) ⟨fun a U g mk q => by obtain ⟨q0, q1, qP, qK, qD⟩ := q; exact ⟨q0, q1, qP, va_K.moved (u := U) (U := U.calling g mk a) (Vm.Alike.refl U.vm) qK, qD⟩, va_recv hKc hPc (ci := 10) (q0 := 0) rfl rfl, fun U hU hW => ⟨rfl, by rw [hU], by rw [hU]; exact hPc, va_K.moved hW.alike hKc, hDc.weaken (fun _ _ _ _ => trivial)⟩⟩ rfl rfl hl.1 rfl (lv_room (Nat.le_of_ble_eq_true rfl)) dX0_through_42 ⟨by decide, by decide⟩) hS (fun q _ h => hFc q h) hFc (fun u10 t H1 locs ht hvm hw hB hz1 hk1 hS => ?_)
    obtain ⟨u10_0, rfl⟩ : ∃ z, z = u10 := ⟨_, rfl⟩
    have hw : iv u10_0 0 2500 ∧ True := hw
    obtain ⟨iu10_0, -⟩ := hw
    obtain ⟨hP1, hK1, hD1⟩ := hB
    rw [ht] at hP1
    have hK1 := va_K.moved hvm.symm hK1
    obtain ⟨hP, hD⟩ := nv_join (wf := [(h0, .inr (0, [.ref h2, .ref h3, .ref h1, .ref h4, .ref h5, .ref h6, .ref h7, .int x0, .int x1, .int x2, .int x3, .int x4, .int x5, .int x6, .int x7, .int x8, .int x9])), (h1, .inr (6, [.int x15, .int x16, .int x17, .int x18, .int x19])), (h9, .inl (y2, 2501, .inl f2)), (h8, .inl (y0, 2501, .inl f0)), (h10, .inl (y1, 2501, .inl f1)), (h2, .inr (10, [.ref h8, .ref h9, .ref h10, .ref h11, .ref h12, .ref h13, .int x10, .int x11, .int u10_0, .int x13, .int x14, .long z0]))]) hP hD [4] [0, 1, 2, 3, 5] rfl rfl (by decide) (by decide) hk1 hFc hP1 hD1 rfl
    have hK := (hK.sub (tys' := [(y2, .int), (y0, .int), (y1, .int)]) [0, 1, 2] rfl).app hK1
    generalize H1 = H at hP hS ⊢
    have hK : va_K (dC, dI) vwCl [(y2, .int), (y0, .int), (y1, .int)] s := hK
    refine lv_aload_n hx hb dX0_through_45 rfl (lv_at hl 1 rfl) ?_
    refine va_get (D := (dC, dI)) (ci := 0) (v := .ref h2) (C := RX0) (T := TX0) (N := 17) hx hb hG inGX0 hown hK hP 0 rfl rfl 0 (by decide) (hG _ wd_321) (fun _ h9 => h9) rfl dX0_through_46 ?_
    obtain ⟨hPc, hDc, hFc⟩ := nv_sub3 (wc := [(h2, .inr (10, [.ref h8, .ref h9, .ref h10, .ref h11, .ref h12, .ref h13, .int x10, .int x11, .int u10_0, .int x13, .int x14, .long z0])), (h8, .inl (y0, 2501, .inl f0))]) hP hD hS hA [5, 3] (by decide) rfl
    have hKc := hK.sub (tys' := [(y0, .int)]) [1] rfl
    refine va_calli (va_runV (As := []) (rest := []) ⟨hx, hb, hml, hown, hG⟩ (cX10_kind_1 l dC dI h2 h8 h9 h10 h11 h12 h13 y0 H.size x10 x11 u10_0 x13 x14 z0 f0 ix10 ix11 iu10_0) (cwV 0 hG (gV wd_556 wd_557 wd_558 wd_11 wd_559) rfl rfl rfl (by decide +kernel) ⟨Nat.le_of_ble_eq_true rfl, Nat.le_of_ble_eq_true rfl⟩) ⟨fun a U g mk q => by obtain ⟨q0, q1, qP, qK, qD⟩ := q; exact ⟨q0, q1, qP, va_K.moved (u := U) (U := U.calling g mk a) (Vm.Alike.refl U.vm) qK, qD⟩, va_recv hKc hPc (ci := 10) (q0 := 0) rfl rfl, fun U hU hW => ⟨rfl, by rw [hU], by rw [hU]; exact hPc, va_K.moved hW.alike hKc, hDc.weaken (fun _ _ _ _ => trivial)⟩⟩ rfl rfl hl.1 rfl (lv_room (Nat.le_of_ble_eq_true rfl)) dX0_through_49 ⟨by decide, by decide⟩) hS (fun q _ h => hFc q h) hFc (fun r11 u12 t H1 locs ht hvm hw hB hz1 hk1 hS => ?_)
    obtain ⟨hP1, hK1, hD1⟩ := hB
    rw [ht] at hP1
    have hK1 := va_K.moved hvm.symm hK1
    obtain ⟨hP, hD⟩ := nv_join (wf := [(h0, .inr (0, [.ref h2, .ref h3, .ref h1, .ref h4, .ref h5, .ref h6, .ref h7, .int x0, .int x1, .int x2, .int x3, .int x4, .int x5, .int x6, .int x7, .int x8, .int x9])), (h1, .inr (6, [.int x15, .int x16, .int x17, .int x18, .int x19])), (h9, .inl (y2, 2501, .inl f2)), (h10, .inl (y1, 2501, .inl f1)), (h2, .inr (10, [.ref h8, .ref h9, .ref h10, .ref h11, .ref h12, .ref h13, .int x10, .int x11, .int u10_0, .int x13, .int x14, .long z0])), (h8, .inl (y0, 2501, .inl f0))]) hP hD [5, 3] [0, 1, 2, 4] rfl rfl (by decide) (by decide) hk1 hFc hP1 hD1 rfl
    have hK := (hK.sub (tys' := [(y2, .int), (y1, .int)]) [0, 2] rfl).app hK1
    generalize H1 = H at hP hS ⊢
    have hK : va_K (dC, dI) vwCl [(y2, .int), (y1, .int), (y0, .int)] s := hK
    refine lv_bipush (v := 43) hx hb dX0_through_52 (by decide) ?_
    refine jcut (a := ∀ (b14 : Int32) (ib14 : iv b14 0 1) (H : Heap) (locs : List Loc) (hK : va_K (dC, dI) vwCl [(y2, .int), (y1, .int), (y0, .int)] s) (hP : va_P (dC, dI) vwCl [(h0, .inr (0, [.ref h2, .ref h3, .ref h1, .ref h4, .ref h5, .ref h6, .ref h7, .int x0, .int x1, .int x2, .int x3, .int x4, .int x5, .int x6, .int x7, .int x8, .int x9])), (h1, .inr (6, [.int x15, .int x16, .int x17, .int x18, .int x19])), (h9, .inl (y2, 2501, .inl f2)), (h10, .inl (y1, 2501, .inl f1)), (h2, .inr (10, [.ref h8, .ref h9, .ref h10, .ref h11, .ref h12, .ref h13, .int x10, .int x11, .int u10_0, .int x13, .int x14, .long z0])), (h8, .inl (y0, 2501, .inl f0))] H) (hD : va_D A [(h0, .inr (0, [.ref h2, .ref h3, .ref h1, .ref h4, .ref h5, .ref h6, .ref h7, .int x0, .int x1, .int x2, .int x3, .int x4, .int x5, .int x6, .int x7, .int x8, .int x9])), (h1, .inr (6, [.int x15, .int x16, .int x17, .int x18, .int x19])), (h9, .inl (y2, 2501, .inl f2)), (h10, .inl (y1, 2501, .inl f1)), (h2, .inr (10, [.ref h8, .ref h9, .ref h10, .ref h11, .ref h12, .ref h13, .int x10, .int x11, .int u10_0, .int x13, .int x14, .long z0])), (h8, .inl (y0, 2501, .inl f0))]) (hS : va_S A s.heap H locs) (ls : Array Slot) (hl : lv_has ls 4 [(2, .int r7), (0, .ref h0), (1, .ref h1)]), W p l e (headSpec (Cond.code yX0_through cX0_through 4 (some .boolean) :: lw_G) ({ frames := 1, cells := 0, slots := 0, locals := 22 })).room s m ar below meth c H locs 0 0 Q (F0 m 62 ls [.int b14])) ?_ (fun j15 => ?_)
    · skip
      intro b14 ib14 H locs hK hP hD hS ls hl
      refine lv_istore_n (lv' := [(3, .int b14), (2, .int r7), (0, .ref h0), (1, .ref h1)]) hx hb dX0_through_62 rfl hl (by decide) rfl (fun ls hl => ?_)
      refine lv_iload_n hx hb dX0_through_63 rfl (lv_at hl 0 rfl) ?_
      refine jcut (a := ∀ (b20 : Int32) (b21 : Int32) (ib20 : iv b20 0 1) (ib21 : iv b21 0 2500) (H : Heap) (locs : List Loc) (hK : va_K (dC, dI) vwCl [(y2, .int), (y1, .int), (y0, .int)] s) (hP : va_P (dC, dI) vwCl [(h0, .inr (0, [.ref h2, .ref h3, .ref h1, .ref h4, .ref h5, .ref h6, .ref h7, .int x0, .int x1, .int x2, .int x3, .int x4, .int x5, .int x6, .int x7, .int x8, .int x9])), (h1, .inr (6, [.int x15, .int x16, .int x17, .int x18, .int x19])), (h9, .inl (y2, 2501, .inl f2)), (h10, .inl (y1, 2501, .inl f1)), (h2, .inr (10, [.ref h8, .ref h9, .ref h10, .ref h11, .ref h12, .ref h13, .int x10, .int x11, .int b21, .int x13, .int x14, .long z0])), (h8, .inl (y0, 2501, .inl f0))] H) (hD : va_D A [(h0, .inr (0, [.ref h2, .ref h3, .ref h1, .ref h4, .ref h5, .ref h6, .ref h7, .int x0, .int x1, .int x2, .int x3, .int x4, .int x5, .int x6, .int x7, .int x8, .int x9])), (h1, .inr (6, [.int x15, .int x16, .int x17, .int x18, .int x19])), (h9, .inl (y2, 2501, .inl f2)), (h10, .inl (y1, 2501, .inl f1)), (h2, .inr (10, [.ref h8, .ref h9, .ref h10, .ref h11, .ref h12, .ref h13, .int x10, .int x11, .int b21, .int x13, .int x14, .long z0])), (h8, .inl (y0, 2501, .inl f0))]) (hS : va_S A s.heap H locs) (ls : Array Slot) (hl : lv_has ls 4 [(3, .int b20), (2, .int r7), (1, .ref h1)]), W p l e (headSpec (Cond.code yX0_through cX0_through 4 (some .boolean) :: lw_G) ({ frames := 1, cells := 0, slots := 0, locals := 22 })).room s m ar below meth c H locs 0 0 Q (F0 m 74 ls [])) ?_ (fun j22 => ?_)
      · skip
        intro b20 b21 ib20 ib21 H locs hK hP hD hS ls hl
        refine lv_aload_n hx hb dX0_through_74 rfl (lv_at hl 2 rfl) ?_
        refine lv_iload_n hx hb dX0_through_75 rfl (lv_at hl 0 rfl) ?_
        refine jcut (a := ∀ (b25 : Int32) (ib25 : iv b25 2 3) (H : Heap) (locs : List Loc) (hK : va_K (dC, dI) vwCl [(y2, .int), (y1, .int), (y0, .int)] s) (hP : va_P (dC, dI) vwCl [(h0, .inr (0, [.ref h2, .ref h3, .ref h1, .ref h4, .ref h5, .ref h6, .ref h7, .int x0, .int x1, .int x2, .int x3, .int x4, .int x5, .int x6, .int x7, .int x8, .int x9])), (h1, .inr (6, [.int x15, .int x16, .int x17, .int x18, .int x19])), (h9, .inl (y2, 2501, .inl f2)), (h10, .inl (y1, 2501, .inl f1)), (h2, .inr (10, [.ref h8, .ref h9, .ref h10, .ref h11, .ref h12, .ref h13, .int x10, .int x11, .int b21, .int x13, .int x14, .long z0])), (h8, .inl (y0, 2501, .inl f0))] H) (hD : va_D A [(h0, .inr (0, [.ref h2, .ref h3, .ref h1, .ref h4, .ref h5, .ref h6, .ref h7, .int x0, .int x1, .int x2, .int x3, .int x4, .int x5, .int x6, .int x7, .int x8, .int x9])), (h1, .inr (6, [.int x15, .int x16, .int x17, .int x18, .int x19])), (h9, .inl (y2, 2501, .inl f2)), (h10, .inl (y1, 2501, .inl f1)), (h2, .inr (10, [.ref h8, .ref h9, .ref h10, .ref h11, .ref h12, .ref h13, .int x10, .int x11, .int b21, .int x13, .int x14, .long z0])), (h8, .inl (y0, 2501, .inl f0))]) (hS : va_S A s.heap H locs) (ls : Array Slot) (hl : lv_has ls 4 [(2, .int r7)]), W p l e (headSpec (Cond.code yX0_through cX0_through 4 (some .boolean) :: lw_G) ({ frames := 1, cells := 0, slots := 0, locals := 22 })).room s m ar below meth c H locs 0 0 Q (F0 m 84 ls [.int b25, .ref h1])) ?_ (fun j26 => ?_)
        · skip
          intro b25 ib25 H locs hK hP hD hS ls hl
          refine lv_iload_n hx hb dX0_through_84 rfl (lv_at hl 0 rfl) ?_
          obtain ⟨hPc, hDc, hFc⟩ := nv_sub3 (wc := [(h1, .inr (6, [.int x15, .int x16, .int x17, .int x18, .int x19]))]) hP hD hS hA [1] (by decide) rfl
          have hKc := hK.sub (tys' := []) [] rfl
          refine va_callv (va_runV (As := [.int b25, .int r7]) (rest := []) ⟨hx, hb, hml, hown, hG⟩ (cX6_take_1 l dC dI h1 H.size b25 r7 x15 x16 x17 x18 x19 ix18 ix19) (cwV 2 hG (gV wd_626 wd_627 wd_628 wd_9 wd_629) rfl rfl rfl (by decide +kernel) ⟨Nat.le_of_ble_eq_true rfl, Nat.le_of_ble_eq_true rfl⟩) ⟨fun a U g mk q => by obtain ⟨q0, q1, qP, qK, qD⟩ := q; exact ⟨q0, q1, qP, va_K.moved (u := U) (U := U.calling g mk a) (Vm.Alike.refl U.vm) qK, qD⟩, va_recv hKc hPc (ci := 6) (q0 := 0) rfl rfl, fun U hU hW => ⟨rfl, by rw [hU], by rw [hU]; exact hPc, va_K.moved hW.alike hKc, hDc.weaken (fun _ _ _ _ => trivial)⟩⟩ rfl rfl hl.1 rfl (lv_room (Nat.le_of_ble_eq_true rfl)) dX0_through_85 ⟨by decide, by decide⟩) hS (fun q _ h => hFc q h) hFc (fun u28 t H1 locs ht hvm hw hB hz1 hk1 hS => ?_)
          obtain ⟨hP1, hK1, hD1⟩ := hB
          rw [ht] at hP1
          have hK1 := va_K.moved hvm.symm hK1
          obtain ⟨hP, hD⟩ := nv_join (wf := [(h0, .inr (0, [.ref h2, .ref h3, .ref h1, .ref h4, .ref h5, .ref h6, .ref h7, .int x0, .int x1, .int x2, .int x3, .int x4, .int x5, .int x6, .int x7, .int x8, .int x9])), (h9, .inl (y2, 2501, .inl f2)), (h10, .inl (y1, 2501, .inl f1)), (h2, .inr (10, [.ref h8, .ref h9, .ref h10, .ref h11, .ref h12, .ref h13, .int x10, .int x11, .int b21, .int x13, .int x14, .long z0])), (h8, .inl (y0, 2501, .inl f0)), (h1, .inr (6, [.int b25, .int r7, .int 0, .int 0, .int 0]))]) hP hD [1] [0, 2, 3, 4, 5] rfl rfl (by decide) (by decide) hk1 hFc hP1 hD1 rfl
          have hK := (hK.sub (tys' := [(y2, .int), (y1, .int), (y0, .int)]) [0, 1, 2] rfl).app hK1
          generalize H1 = H at hP hS ⊢
          have hK : va_K (dC, dI) vwCl [(y2, .int), (y1, .int), (y0, .int)] s := hK
          refine lv_iconst (v := 1) hx hb dX0_through_88 (by decide) ?_
          rw [hQ]
          obtain ⟨hP9, hD9⟩ := nv_sub2 (wc := [(h0, .inr (0, [.ref h2, .ref h3, .ref h1, .ref h4, .ref h5, .ref h6, .ref h7, .int x0, .int x1, .int x2, .int x3, .int x4, .int x5, .int x6, .int x7, .int x8, .int x9])), (h2, .inr (10, [.ref h8, .ref h9, .ref h10, .ref h11, .ref h12, .ref h13, .int x10, .int x11, .int b21, .int x13, .int x14, .long z0])), (h8, .inl (y0, 2501, .inl f0)), (h10, .inl (y1, 2501, .inl f1)), (h1, .inr (6, [.int b25, .int r7, .int 0, .int 0, .int 0])), (h9, .inl (y2, 2501, .inl f2))]) hP hD [0, 3, 4, 2, 5, 1] (by decide) rfl
          have hK9 := hK.sub (tys' := [(y0, .int), (y1, .int), (y2, .int)]) [2, 1, 0] rfl
          exact W.zret (v := 1) hx hb hr rfl (fun t ht hW => ⟨⟨1, (x8, x9, b21, b25, r7, 0, 0, 0), rfl, ⟨iv_w (by decide : iv 1 1 1) (by decide) (by decide), iv_w ib21 (by decide) (by decide), iv_w (by decide : iv 0 0 0) (by decide) (by decide), iv_w (by decide : iv 0 0 0) (by decide) (by decide), trivial⟩, by rw [ht]; exact hP9, va_K.moved hW.alike hK9, hD9⟩, hS.F ht⟩) hS.2.2 dX0_through_89
        refine lv_if_eq (tgt := 83) hx hb dX0_through_76 (by decide) (fun c23 => ?_) (fun c23 => ?_)
        · skip
          subst c23
          refine lv_iconst (v := 2) hx hb dX0_through_83 (by decide) ?_
          exact j26 2 (iv_w (by decide : iv 2 2 2) (by decide) (by decide)) _ _ hK hP hD hS ls (lv_sub hl [1] rfl)
        · skip
          have j29 : iv b20 1 1 := iv_neLo ib20 (by decide : iv 0 0 0) c23 (by decide)
          refine lv_iconst (v := 3) hx hb dX0_through_79 (by decide) ?_
          refine lv_goto (tgt := 84) hx hb dX0_through_80 (by decide) ?_
          exact j26 3 (iv_w (by decide : iv 3 3 3) (by decide) (by decide)) _ _ hK hP hD hS ls (lv_sub hl [1] rfl)
      refine lv_if_eq (tgt := 74) hx hb dX0_through_64 (by decide) (fun c16 => ?_) (fun c16 => ?_)
      · skip
        subst c16
        exact j22 0 u10_0 (iv_w (by decide : iv 0 0 0) (by decide) (by decide)) iu10_0 _ _ hK hP hD hS ls (lv_sub hl [0, 1, 3] rfl)
      · skip
        have j30 : iv b14 1 1 := iv_neLo ib14 (by decide : iv 0 0 0) c16 (by decide)
        refine lv_aload_n hx hb dX0_through_67 rfl (lv_at hl 2 rfl) ?_
        refine va_get (D := (dC, dI)) (ci := 0) (v := .ref h2) (C := RX0) (T := TX0) (N := 17) hx hb hG inGX0 hown hK hP 0 rfl rfl 0 (by decide) (hG _ wd_321) (fun _ h9 => h9) rfl dX0_through_68 ?_
        obtain ⟨hPc, hDc, hFc⟩ := nv_sub3 (wc := [(h2, .inr (10, [.ref h8, .ref h9, .ref h10, .ref h11, .ref h12, .ref h13, .int x10, .int x11, .int u10_0, .int x13, .int x14, .long z0]))]) hP hD hS hA [4] (by decide) rfl
        have hKc := hK.sub (tys' := []) [] rfl
        refine va_callv (va_runV (As := []) (rest := []) ⟨hx, hb, hml, hown, hG⟩ (cX10_skip_1 l dC dI h2 h8 h9 h10 h11 h12 h13 H.size x10 x11 u10_0 x13 x14 z0 ix10 ix11 iu10_0) (cwV 0 hG (gV wd_576 wd_577 wd_578 wd_11 wd_579) rfl rfl rfl (by decide +kernel) ⟨Nat.le_of_ble_eq_true rfl, Nat.le_of_ble_eq_true rfl⟩) ⟨fun a U g mk q => by obtain ⟨q0, q1, qP, qK, qD⟩ := q; exact ⟨q0, q1, qP, va_K.moved (u := U) (U := U.calling g mk a) (Vm.Alike.refl U.vm) qK, qD⟩, va_recv hKc hPc (ci := 10) (q0 := 0) rfl rfl, fun U hU hW => ⟨rfl, by rw [hU], by rw [hU]; exact hPc, va_K.moved hW.alike hKc, hDc.weaken (fun _ _ _ _ => trivial)⟩⟩ rfl rfl hl.1 rfl (lv_room (Nat.le_of_ble_eq_true rfl)) dX0_through_71 ⟨by decide, by decide⟩) hS (fun q _ h => hFc q h) hFc (fun u32 t H1 locs ht hvm hw hB hz1 hk1 hS => ?_)
        obtain ⟨u32_0, rfl⟩ : ∃ z, z = u32 := ⟨_, rfl⟩
        have hw : iv u32_0 0 2500 ∧ True := hw
        obtain ⟨iu32_0, -⟩ := hw
        obtain ⟨hP1, hK1, hD1⟩ := hB
        rw [ht] at hP1
        have hK1 := va_K.moved hvm.symm hK1
        obtain ⟨hP, hD⟩ := nv_join (wf := [(h0, .inr (0, [.ref h2, .ref h3, .ref h1, .ref h4, .ref h5, .ref h6, .ref h7, .int x0, .int x1, .int x2, .int x3, .int x4, .int x5, .int x6, .int x7, .int x8, .int x9])), (h1, .inr (6, [.int x15, .int x16, .int x17, .int x18, .int x19])), (h9, .inl (y2, 2501, .inl f2)), (h10, .inl (y1, 2501, .inl f1)), (h8, .inl (y0, 2501, .inl f0)), (h2, .inr (10, [.ref h8, .ref h9, .ref h10, .ref h11, .ref h12, .ref h13, .int x10, .int x11, .int u32_0, .int x13, .int x14, .long z0]))]) hP hD [4] [0, 1, 2, 3, 5] rfl rfl (by decide) (by decide) hk1 hFc hP1 hD1 rfl
        have hK := (hK.sub (tys' := [(y2, .int), (y1, .int), (y0, .int)]) [0, 1, 2] rfl).app hK1
        generalize H1 = H at hP hS ⊢
        have hK : va_K (dC, dI) vwCl [(y2, .int), (y1, .int), (y0, .int)] s := hK
        exact j22 b14 u32_0 (iv_w j30 (by decide) (by decide)) iu32_0 _ _ hK (hP.sub (ws' := _) [0, 1, 2, 3, 5, 4] rfl) (hD.sub (ws' := _) [0, 1, 2, 3, 5, 4] (by decide) rfl) hS ls (lv_sub hl [0, 1, 3] rfl)
    refine lv_icmp_ne (tgt := 61) hx hb dX0_through_54 (by decide) (fun c13 => ?_) (fun c13 => ?_)
    · skip
      refine lv_iconst (v := 0) hx hb dX0_through_61 (by decide) ?_
      exact j15 0 (iv_w (by decide : iv 0 0 0) (by decide) (by decide)) _ _ hK hP hD hS ls hl
    · skip
      subst c13
      refine lv_iconst (v := 1) hx hb dX0_through_57 (by decide) ?_
      refine lv_goto (tgt := 62) hx hb dX0_through_58 (by decide) ?_
      exact j15 1 (iv_w (by decide : iv 1 1 1) (by decide) (by decide)) _ _ hK hP hD hS ls hl
  · skip
    subst c5
    refine lv_aload_n hx hb dX0_through_17 rfl (lv_at hl 0 rfl) ?_
    refine lv_iconst (v := 1) hx hb dX0_through_18 (by decide) ?_
    refine lv_aload_n hx hb dX0_through_19 rfl (lv_at hl 0 rfl) ?_
    refine va_get (D := (dC, dI)) (ci := 0) (v := .ref h2) (C := RX0) (T := TX0) (N := 17) hx hb hG inGX0 hown hK hP 0 rfl rfl 0 (by decide) (hG _ wd_321) (fun _ h9 => h9) rfl dX0_through_20 ?_
    obtain ⟨hPc, hDc, hFc⟩ := nv_sub3 (wc := [(h2, .inr (10, [.ref h8, .ref h9, .ref h10, .ref h11, .ref h12, .ref h13, .int x10, .int x11, .int u2_0, .int x13, .int x14, .long z0])), (h9, .inl (y2, 2501, .inl f2))]) hP hD hS hA [3, 2] (by decide) rfl
    have hKc := hK.sub (tys' := [(y2, .int)]) [0] rfl
    refine va_calli (va_runV (As := []) (rest := [.int 1, .ref h0]) ⟨hx, hb, hml, hown, hG⟩ (cX10_place_1 l dC dI h2 h8 h9 h10 h11 h12 h13 y2 H.size x10 x11 u2_0 x13 x14 z0 f2 ix10 ix11 iu2_0) (cwV 0 hG (gV wd_572 wd_573 wd_574 wd_11 wd_575) rfl rfl rfl (by decide +kernel) ⟨Nat.le_of_ble_eq_true rfl, Nat.le_of_ble_eq_true rfl⟩) ⟨fun a U g mk q => by obtain ⟨q0, q1, qP, qK, qD⟩ := q; exact ⟨q0, q1, qP, va_K.moved (u := U) (U := U.calling g mk a) (Vm.Alike.refl U.vm) qK, qD⟩, va_recv hKc hPc (ci := 10) (q0 := 0) rfl rfl, fun U hU hW => ⟨rfl, by rw [hU], by rw [hU]; exact hPc, va_K.moved hW.alike hKc, hDc.weaken (fun _ _ _ _ => trivial)⟩⟩ rfl rfl hl.1 rfl (lv_room (Nat.le_of_ble_eq_true rfl)) dX0_through_23 ⟨by decide, by decide⟩) hS (fun q _ h => hFc q h) hFc (fun r33 u34 t H1 locs ht hvm hw hB hz1 hk1 hS => ?_)
    obtain ⟨hP1, hK1, hD1⟩ := hB
    rw [ht] at hP1
    have hK1 := va_K.moved hvm.symm hK1
    obtain ⟨hP, hD⟩ := nv_join (wf := [(h0, .inr (0, [.ref h2, .ref h3, .ref h1, .ref h4, .ref h5, .ref h6, .ref h7, .int x0, .int x1, .int x2, .int x3, .int x4, .int x5, .int x6, .int x7, .int x8, .int x9])), (h1, .inr (6, [.int x15, .int x16, .int x17, .int x18, .int x19])), (h8, .inl (y0, 2501, .inl f0)), (h10, .inl (y1, 2501, .inl f1)), (h2, .inr (10, [.ref h8, .ref h9, .ref h10, .ref h11, .ref h12, .ref h13, .int x10, .int x11, .int u2_0, .int x13, .int x14, .long z0])), (h9, .inl (y2, 2501, .inl f2))]) hP hD [3, 2] [0, 1, 4, 5] rfl rfl (by decide) (by decide) hk1 hFc hP1 hD1 rfl
    have hK := (hK.sub (tys' := [(y0, .int), (y1, .int)]) [1, 2] rfl).app hK1
    generalize H1 = H at hP hS ⊢
    have hK : va_K (dC, dI) vwCl [(y0, .int), (y1, .int), (y2, .int)] s := hK
    obtain ⟨hPc, hDc, hFc⟩ := nv_sub3 (wc := [(h0, .inr (0, [.ref h2, .ref h3, .ref h1, .ref h4, .ref h5, .ref h6, .ref h7, .int x0, .int x1, .int x2, .int x3, .int x4, .int x5, .int x6, .int x7, .int x8, .int x9]))]) hP hD hS hA [0] (by decide) rfl
    have hKc := hK.sub (tys' := []) [] rfl
    refine va_calli (va_runV (As := [.int 1, .int r33]) (rest := []) ⟨hx, hb, hml, hown, hG⟩ (cX0_fail_1 l dC dI h0 h2 h3 h1 h4 h5 h6 h7 H.size 1 r33 x0 x1 x2 x3 x4 x5 x6 x7 x8 x9 ix0 ix1 ix7) (cwV 2 hG (gV wd_437 wd_439 wp_1 wd_8 wd_440) rfl rfl rfl (by decide +kernel) ⟨Nat.le_of_ble_eq_true rfl, Nat.le_of_ble_eq_true rfl⟩) ⟨fun a U g mk q => by obtain ⟨q0, q1, qP, qK, qD⟩ := q; exact ⟨q0, q1, qP, va_K.moved (u := U) (U := U.calling g mk a) (Vm.Alike.refl U.vm) qK, qD⟩, va_recv hKc hPc (ci := 0) (q0 := 0) rfl rfl, fun U hU hW => ⟨rfl, by rw [hU], by rw [hU]; exact hPc, va_K.moved hW.alike hKc, hDc.weaken (fun _ _ _ _ => trivial)⟩⟩ rfl rfl hl.1 rfl (lv_room (Nat.le_of_ble_eq_true rfl)) dX0_through_26 ⟨by decide, by decide⟩) hS (fun q _ h => hFc q h) hFc (fun r35 u36 t H1 locs ht hvm hw hB hz1 hk1 hS => ?_)
    have hw : r35 = 0 ∧ True := hw
    obtain ⟨er35, -⟩ := hw
    obtain ⟨hP1, hK1, hD1⟩ := hB
    rw [ht] at hP1
    have hK1 := va_K.moved hvm.symm hK1
    obtain ⟨hP, hD⟩ := nv_join (wf := [(h1, .inr (6, [.int x15, .int x16, .int x17, .int x18, .int x19])), (h8, .inl (y0, 2501, .inl f0)), (h10, .inl (y1, 2501, .inl f1)), (h2, .inr (10, [.ref h8, .ref h9, .ref h10, .ref h11, .ref h12, .ref h13, .int x10, .int x11, .int u2_0, .int x13, .int x14, .long z0])), (h9, .inl (y2, 2501, .inl f2)), (h0, .inr (0, [.ref h2, .ref h3, .ref h1, .ref h4, .ref h5, .ref h6, .ref h7, .int x0, .int x1, .int x2, .int x3, .int x4, .int x5, .int x6, .int x7, .int 1, .int r33]))]) hP hD [0] [1, 2, 3, 4, 5] rfl rfl (by decide) (by decide) hk1 hFc hP1 hD1 rfl
    have hK := (hK.sub (tys' := [(y0, .int), (y1, .int), (y2, .int)]) [0, 1, 2] rfl).app hK1
    generalize H1 = H at hP hS ⊢
    have hK : va_K (dC, dI) vwCl [(y0, .int), (y1, .int), (y2, .int)] s := hK
    subst er35
    rw [hQ]
    obtain ⟨hP9, hD9⟩ := nv_sub2 (wc := [(h0, .inr (0, [.ref h2, .ref h3, .ref h1, .ref h4, .ref h5, .ref h6, .ref h7, .int x0, .int x1, .int x2, .int x3, .int x4, .int x5, .int x6, .int x7, .int 1, .int r33])), (h2, .inr (10, [.ref h8, .ref h9, .ref h10, .ref h11, .ref h12, .ref h13, .int x10, .int x11, .int u2_0, .int x13, .int x14, .long z0])), (h8, .inl (y0, 2501, .inl f0)), (h10, .inl (y1, 2501, .inl f1)), (h1, .inr (6, [.int x15, .int x16, .int x17, .int x18, .int x19])), (h9, .inl (y2, 2501, .inl f2))]) hP hD [5, 3, 1, 2, 0, 4] (by decide) rfl
    have hK9 := hK.sub (tys' := [(y0, .int), (y1, .int), (y2, .int)]) [0, 1, 2] rfl
    exact W.zret (v := 0) hx hb hr rfl (fun t ht hW => ⟨⟨0, (1, r33, u2_0, x15, x16, x17, x18, x19), rfl, ⟨iv_w (by decide : iv 0 0 0) (by decide) (by decide), iv_w iu2_0 (by decide) (by decide), iv_w ix18 (by decide) (by decide), iv_w ix19 (by decide) (by decide), trivial⟩, by rw [ht]; exact hP9, va_K.moved hW.alike hK9, hD9⟩, hS.F ht⟩) hS.2.2 dX0_through_29
set_option maxHeartbeats 100000000 in
set_option maxRecDepth 100000 in
theorem cX0_operand_1 (l : Launch) (dC : Nat → ClassId) (dI : Nat → Nat → Nat) (h0 h1 h2 h3 h4 h5 h6 h7 h8 h9 h10 h11 h12 h13 h14 h15 h16 : Nat) (y0 y1 y2 y3 y4 y5 : ClassId) (sz : Nat) (x0 x1 x2 x3 x4 x5 x6 x7 x8 x9 x10 x11 x12 x13 x14 x15 x16 x17 x18 x19 x20 x21 x22 : Int32) (z0 : Int64) (f0 f1 f2 f3 : Nat → Int32) (g0 g1 : Nat → Int64) (ix0 : iv x0 0 1) (ix1 : iv x1 0 1) (ix2 : iv x2 0 2600) (ix3 : iv x3 0 1) (ix9 : iv x9 0 1) (ix12 : iv x12 0 2600) (ix13 : iv x13 0 2501) (ix14 : iv x14 0 2500) (ix17 : iv x17 0 60) (ix21 : iv x21 0 1) (ix22 : iv x22 0 1) : Met l yX0_operand (Cond.code yX0_operand cX0_operand 6 (some .boolean) :: lw_G) ({ frames := 2, cells := 0, slots := 0, locals := 46 }) (va_Pc [.ref h0, .ref h1, .int x0, .int x1] (fun U => U.heap.size = sz ∧ va_P (dC, dI) vwCl [(h0, .inr (0, [.ref h2, .ref h3, .ref h1, .ref h4, .ref h5, .ref h6, .ref h7, .int x2, .int x3, .int x4, .int x5, .int x6, .int x7, .int x8, .int x9, .int x10, .int x11])), (h2, .inr (10, [.ref h8, .ref h9, .ref h10, .ref h11, .ref h12, .ref h13, .int x12, .int x13, .int x14, .int x15, .int x16, .long z0])), (h8, .inl (y0, 2501, .inl f0)), (h9, .inl (y1, 2501, .inl f1)), (h10, .inl (y2, 2501, .inl f2)), (h11, .inl (y3, 2501, .inr (.inl g0))), (h6, .inr (4, [.ref h14, .ref h15, .ref h16, .int x17])), (h14, .inl (y4, 60, .inr (.inl g1))), (h15, .inl (y5, 60, .inl f3)), (h1, .inr (6, [.int x18, .int x19, .int x20, .int x21, .int x22]))] U.heap ∧ va_K (dC, dI) vwCl [(y0, .int), (y1, .int), (y2, .int), (y3, .long), (y4, .long), (y5, .int)] U ∧ va_D (fun _ => True) [(h0, .inr (0, [.ref h2, .ref h3, .ref h1, .ref h4, .ref h5, .ref h6, .ref h7, .int x2, .int x3, .int x4, .int x5, .int x6, .int x7, .int x8, .int x9, .int x10, .int x11])), (h2, .inr (10, [.ref h8, .ref h9, .ref h10, .ref h11, .ref h12, .ref h13, .int x12, .int x13, .int x14, .int x15, .int x16, .long z0])), (h8, .inl (y0, 2501, .inl f0)), (h9, .inl (y1, 2501, .inl f1)), (h10, .inl (y2, 2501, .inl f2)), (h11, .inl (y3, 2501, .inr (.inl g0))), (h6, .inr (4, [.ref h14, .ref h15, .ref h16, .int x17])), (h14, .inl (y4, 60, .inr (.inl g1))), (h15, .inl (y5, 60, .inl f3)), (h1, .inr (6, [.int x18, .int x19, .int x20, .int x21, .int x22]))])) (va_Qi (fun (r : Int32) (u : Int32 × Int32 × Int32 × Int32 × Int32 × Int32 × Int32 × Int32 × Int32 × Int32 × Int32 × Int32) => iv r 0 1 ∧ iv u.1 0 1 ∧ iv u.2.2.2.1 0 1 ∧ iv u.2.2.2.2.2.2.1 0 2500 ∧ iv u.2.2.2.2.2.2.2.2.2.2.1 0 1 ∧ iv u.2.2.2.2.2.2.2.2.2.2.2 0 1 ∧ True) (fun (u : Int32 × Int32 × Int32 × Int32 × Int32 × Int32 × Int32 × Int32 × Int32 × Int32 × Int32 × Int32) (t : State) => va_P (dC, dI) vwCl [(h0, .inr (0, [.ref h2, .ref h3, .ref h1, .ref h4, .ref h5, .ref h6, .ref h7, .int x2, .int u.1, .int x4, .int x5, .int x6, .int u.2.1, .int u.2.2.1, .int u.2.2.2.1, .int u.2.2.2.2.1, .int u.2.2.2.2.2.1])), (h2, .inr (10, [.ref h8, .ref h9, .ref h10, .ref h11, .ref h12, .ref h13, .int x12, .int x13, .int u.2.2.2.2.2.2.1, .int x15, .int x16, .long z0])), (h8, .inl (y0, 2501, .inl f0)), (h9, .inl (y1, 2501, .inl f1)), (h10, .inl (y2, 2501, .inl f2)), (h11, .inl (y3, 2501, .inr (.inl g0))), (h6, .inr (4, [.ref h14, .ref h15, .ref h16, .int x17])), (h14, .inl (y4, 60, .inr (.inl g1))), (h15, .inl (y5, 60, .inl f3)), (h1, .inr (6, [.int u.2.2.2.2.2.2.2.1, .int u.2.2.2.2.2.2.2.2.1, .int u.2.2.2.2.2.2.2.2.2.1, .int u.2.2.2.2.2.2.2.2.2.2.1, .int u.2.2.2.2.2.2.2.2.2.2.2]))] t.heap ∧ va_K (dC, dI) vwCl [(y0, .int), (y1, .int), (y2, .int), (y3, .long), (y4, .long), (y5, .int)] t ∧ va_D (va_A [(h0, .inr (0, [.ref h2, .ref h3, .ref h1, .ref h4, .ref h5, .ref h6, .ref h7, .int x2, .int x3, .int x4, .int x5, .int x6, .int x7, .int x8, .int x9, .int x10, .int x11])), (h2, .inr (10, [.ref h8, .ref h9, .ref h10, .ref h11, .ref h12, .ref h13, .int x12, .int x13, .int x14, .int x15, .int x16, .long z0])), (h8, .inl (y0, 2501, .inl f0)), (h9, .inl (y1, 2501, .inl f1)), (h10, .inl (y2, 2501, .inl f2)), (h11, .inl (y3, 2501, .inr (.inl g0))), (h6, .inr (4, [.ref h14, .ref h15, .ref h16, .int x17])), (h14, .inl (y4, 60, .inr (.inl g1))), (h15, .inl (y5, 60, .inl f3)), (h1, .inr (6, [.int x18, .int x19, .int x20, .int x21, .int x22]))] sz) [(h0, .inr (0, [.ref h2, .ref h3, .ref h1, .ref h4, .ref h5, .ref h6, .ref h7, .int x2, .int u.1, .int x4, .int x5, .int x6, .int u.2.1, .int u.2.2.1, .int u.2.2.2.1, .int u.2.2.2.2.1, .int u.2.2.2.2.2.1])), (h2, .inr (10, [.ref h8, .ref h9, .ref h10, .ref h11, .ref h12, .ref h13, .int x12, .int x13, .int u.2.2.2.2.2.2.1, .int x15, .int x16, .long z0])), (h8, .inl (y0, 2501, .inl f0)), (h9, .inl (y1, 2501, .inl f1)), (h10, .inl (y2, 2501, .inl f2)), (h11, .inl (y3, 2501, .inr (.inl g0))), (h6, .inr (4, [.ref h14, .ref h15, .ref h16, .int x17])), (h14, .inl (y4, 60, .inr (.inl g1))), (h15, .inl (y5, 60, .inl f3)), (h1, .inr (6, [.int u.2.2.2.2.2.2.2.1, .int u.2.2.2.2.2.2.2.2.1, .int u.2.2.2.2.2.2.2.2.2.1, .int u.2.2.2.2.2.2.2.2.2.2.1, .int u.2.2.2.2.2.2.2.2.2.2.2]))]) (va_A [(h0, .inr (0, [.ref h2, .ref h3, .ref h1, .ref h4, .ref h5, .ref h6, .ref h7, .int x2, .int x3, .int x4, .int x5, .int x6, .int x7, .int x8, .int x9, .int x10, .int x11])), (h2, .inr (10, [.ref h8, .ref h9, .ref h10, .ref h11, .ref h12, .ref h13, .int x12, .int x13, .int x14, .int x15, .int x16, .long z0])), (h8, .inl (y0, 2501, .inl f0)), (h9, .inl (y1, 2501, .inl f1)), (h10, .inl (y2, 2501, .inl f2)), (h11, .inl (y3, 2501, .inr (.inl g0))), (h6, .inr (4, [.ref h14, .ref h15, .ref h16, .int x17])), (h14, .inl (y4, 60, .inr (.inl g1))), (h15, .inl (y5, 60, .inl f3)), (h1, .inr (6, [.int x18, .int x19, .int x20, .int x21, .int x22]))] sz)) 0 0 (va_A [(h0, .inr (0, [.ref h2, .ref h3, .ref h1, .ref h4, .ref h5, .ref h6, .ref h7, .int x2, .int x3, .int x4, .int x5, .int x6, .int x7, .int x8, .int x9, .int x10, .int x11])), (h2, .inr (10, [.ref h8, .ref h9, .ref h10, .ref h11, .ref h12, .ref h13, .int x12, .int x13, .int x14, .int x15, .int x16, .long z0])), (h8, .inl (y0, 2501, .inl f0)), (h9, .inl (y1, 2501, .inl f1)), (h10, .inl (y2, 2501, .inl f2)), (h11, .inl (y3, 2501, .inr (.inl g0))), (h6, .inr (4, [.ref h14, .ref h15, .ref h16, .int x17])), (h14, .inl (y4, 60, .inr (.inl g1))), (h15, .inl (y5, 60, .inl f3)), (h1, .inr (6, [.int x18, .int x19, .int x20, .int x21, .int x22]))] sz) := by
  refine Met.ofW (cc := cX0_operand) (maxL := 6) (ret := (some .boolean)) (by decide) rfl ?_
  intro p e s m args below meth c s₁ B hml hv
  obtain ⟨rfl, hsz, hP, hK, hD0⟩ := hv
  have hx := B.exec
  have hb := B.bytes
  have hr := B.returns
  have hts0 := atoms_spec (ws := Cond.code yX0_operand cX0_operand 6 (some .boolean) :: lw_G) B.pre
  have hG : ∀ w ∈ lw_G, w.before _ s = true := fun w h => hts0 w (List.mem_cons_of_mem _ h)
  have hown : s.vm.findClass RX0 = some m.cls := findClass_of_methodNamed B.named
  have hlocks := B.notSynchronized
  subst hsz
  have hD := hD0.self (sz := s.heap.size)
  generalize hAe : va_A [(h0, .inr (0, [.ref h2, .ref h3, .ref h1, .ref h4, .ref h5, .ref h6, .ref h7, .int x2, .int x3, .int x4, .int x5, .int x6, .int x7, .int x8, .int x9, .int x10, .int x11])), (h2, .inr (10, [.ref h8, .ref h9, .ref h10, .ref h11, .ref h12, .ref h13, .int x12, .int x13, .int x14, .int x15, .int x16, .long z0])), (h8, .inl (y0, 2501, .inl f0)), (h9, .inl (y1, 2501, .inl f1)), (h10, .inl (y2, 2501, .inl f2)), (h11, .inl (y3, 2501, .inr (.inl g0))), (h6, .inr (4, [.ref h14, .ref h15, .ref h16, .int x17])), (h14, .inl (y4, 60, .inr (.inl g1))), (h15, .inl (y5, 60, .inl f3)), (h1, .inr (6, [.int x18, .int x19, .int x20, .int x21, .int x22]))] s.heap.size = A at hD ⊢
  have hA : ∀ q : Nat, s.heap.size ≤ q → A q := fun q h => by rw [← hAe]; exact Or.inr h
  have hS : va_S A s.heap s.heap [] := va_S.rf
  have hP : va_P (dC, dI) vwCl [(h0, .inr (0, [.ref h2, .ref h3, .ref h1, .ref h4, .ref h5, .ref h6, .ref h7, .int x2, .int x3, .int x4, .int x5, .int x6, .int x7, .int x8, .int x9, .int x10, .int x11])), (h2, .inr (10, [.ref h8, .ref h9, .ref h10, .ref h11, .ref h12, .ref h13, .int x12, .int x13, .int x14, .int x15, .int x16, .long z0])), (h8, .inl (y0, 2501, .inl f0)), (h9, .inl (y1, 2501, .inl f1)), (h10, .inl (y2, 2501, .inl f2)), (h11, .inl (y3, 2501, .inr (.inl g0))), (h6, .inr (4, [.ref h14, .ref h15, .ref h16, .int x17])), (h14, .inl (y4, 60, .inr (.inl g1))), (h15, .inl (y5, 60, .inl f3)), (h1, .inr (6, [.int x18, .int x19, .int x20, .int x21, .int x22]))] s.heap := hP
  have hl := lv_entry ([.ref h0, .ref h1, .int x0, .int x1]) (n := 6) (Nat.le_of_ble_eq_true rfl)
  rw [lg_entry_eq]
  generalize (lg_sl ([.ref h0, .ref h1, .int x0, .int x1]) ++ List.replicate (6 - (lg_sl ([.ref h0, .ref h1, .int x0, .int x1])).length) Slot.unset).toArray = ls at hl ⊢
  have hl : lv_has ls 6 [(0, .ref h0), (1, .ref h1), (2, .int x0), (3, .int x1)] := hl
  generalize ([.ref h0, .ref h1, .int x0, .int x1] : List Value).toArray = ar at hG ⊢
  refine wq (fun Q hQ => ?_)
  refine lv_aload_n hx hb dX0_operand_0 rfl (lv_at hl 0 rfl) ?_
  refine va_get (D := (dC, dI)) (ci := 0) (v := .ref h2) (C := RX0) (T := TX0) (N := 17) hx hb hG inGX0 hown hK hP 0 rfl rfl 0 (by decide) (hG _ wd_321) (fun _ h9 => h9) rfl dX0_operand_1 ?_
  obtain ⟨hPc, hDc, hFc⟩ := nv_sub3 (wc := [(h2, .inr (10, [.ref h8, .ref h9, .ref h10, .ref h11, .ref h12, .ref h13, .int x12, .int x13, .int x14, .int x15, .int x16, .long z0])), (h8, .inl (y0, 2501, .inl f0))]) hP hD hS hA [1, 2] (by decide) rfl
  have hKc := hK.sub (tys' := [(y0, .int)]) [0] rfl
  refine va_calli (va_runV (As := []) (rest := []) ⟨hx, hb, hml, hown, hG⟩ (cX10_kind_1 l dC dI h2 h8 h9 h10 h11 h12 h13 y0 s.heap.size x12 x13 x14 x15 x16 z0 f0 ix12 ix13 ix14) (cwV 0 hG (gV wd_556 wd_557 wd_558 wd_11 wd_559) rfl rfl rfl (by decide +kernel) ⟨Nat.le_of_ble_eq_true rfl, Nat.le_of_ble_eq_true rfl⟩) ⟨fun a U g mk q => by obtain ⟨q0, q1, qP, qK, qD⟩ := q; exact ⟨q0, q1, qP, va_K.moved (u := U) (U := U.calling g mk a) (Vm.Alike.refl U.vm) qK, qD⟩, va_recv hKc hPc (ci := 10) (q0 := 0) rfl rfl, fun U hU hW => ⟨rfl, by rw [hU], by rw [hU]; exact hPc, va_K.moved hW.alike hKc, hDc.weaken (fun _ _ _ _ => trivial)⟩⟩ rfl rfl hl.1 rfl (lv_room (Nat.le_of_ble_eq_true rfl)) dX0_operand_4 ⟨by decide, by decide⟩) hS (fun q _ h => hFc q h) hFc (fun r1 u2 t H1 locs ht hvm hw hB hz1 hk1 hS => ?_)
  obtain ⟨hP1, hK1, hD1⟩ := hB
  rw [ht] at hP1
  have hK1 := va_K.moved hvm.symm hK1
  obtain ⟨hP, hD⟩ := nv_join (wf := [(h0, .inr (0, [.ref h2, .ref h3, .ref h1, .ref h4, .ref h5, .ref h6, .ref h7, .int x2, .int x3, .int x4, .int x5, .int x6, .int x7, .int x8, .int x9, .int x10, .int x11])), (h9, .inl (y1, 2501, .inl f1)), (h10, .inl (y2, 2501, .inl f2)), (h11, .inl (y3, 2501, .inr (.inl g0))), (h6, .inr (4, [.ref h14, .ref h15, .ref h16, .int x17])), (h14, .inl (y4, 60, .inr (.inl g1))), (h15, .inl (y5, 60, .inl f3)), (h1, .inr (6, [.int x18, .int x19, .int x20, .int x21, .int x22])), (h2, .inr (10, [.ref h8, .ref h9, .ref h10, .ref h11, .ref h12, .ref h13, .int x12, .int x13, .int x14, .int x15, .int x16, .long z0])), (h8, .inl (y0, 2501, .inl f0))]) hP hD [1, 2] [0, 3, 4, 5, 6, 7, 8, 9] rfl rfl (by decide) (by decide) hk1 hFc hP1 hD1 rfl
  have hK := (hK.sub (tys' := [(y1, .int), (y2, .int), (y3, .long), (y4, .long), (y5, .int)]) [1, 2, 3, 4, 5] rfl).app hK1
  generalize H1 = H at hP hS ⊢
  have hK : va_K (dC, dI) vwCl [(y1, .int), (y2, .int), (y3, .long), (y4, .long), (y5, .int), (y0, .int)] s := hK
  refine lv_istore (lv' := [(4, .int r1), (0, .ref h0), (1, .ref h1), (2, .int x0), (3, .int x1)]) hx hb dX0_operand_7 hl (by decide) rfl (fun ls hl => ?_)
  refine lv_iload hx hb dX0_operand_9 (lv_at hl 0 rfl) ?_
  refine lv_iconst (v := 4) hx hb dX0_operand_11 (by decide) ?_
  refine lv_icmp_ne (tgt := 36) hx hb dX0_operand_12 (by decide) (fun c3 => ?_) (fun c3 => ?_)
  · skip
    refine lv_iload hx hb dX0_operand_36 (lv_at hl 0 rfl) ?_
    refine lv_bipush (v := 64) hx hb dX0_operand_38 (by decide) ?_
    refine lv_icmp_ne (tgt := 53) hx hb dX0_operand_40 (by decide) (fun c4 => ?_) (fun c4 => ?_)
    · skip
      refine lv_iload hx hb dX0_operand_53 (lv_at hl 0 rfl) ?_
      refine lv_bipush (v := 35) hx hb dX0_operand_55 (by decide) ?_
      refine jcut (a := ∀ (b8 : Int32) (b9 : Int32) (ib8 : iv b8 0 1) (H : Heap) (locs : List Loc) (hK : va_K (dC, dI) vwCl [(y1, .int), (y2, .int), (y3, .long), (y4, .long), (y5, .int), (y0, .int)] s) (hP : va_P (dC, dI) vwCl [(h0, .inr (0, [.ref h2, .ref h3, .ref h1, .ref h4, .ref h5, .ref h6, .ref h7, .int x2, .int x3, .int x4, .int x5, .int x6, .int x7, .int x8, .int x9, .int x10, .int x11])), (h9, .inl (y1, 2501, .inl f1)), (h10, .inl (y2, 2501, .inl f2)), (h11, .inl (y3, 2501, .inr (.inl g0))), (h6, .inr (4, [.ref h14, .ref h15, .ref h16, .int x17])), (h14, .inl (y4, 60, .inr (.inl g1))), (h15, .inl (y5, 60, .inl f3)), (h1, .inr (6, [.int x18, .int x19, .int x20, .int x21, .int x22])), (h2, .inr (10, [.ref h8, .ref h9, .ref h10, .ref h11, .ref h12, .ref h13, .int x12, .int x13, .int x14, .int x15, .int x16, .long z0])), (h8, .inl (y0, 2501, .inl f0))] H) (hD : va_D A [(h0, .inr (0, [.ref h2, .ref h3, .ref h1, .ref h4, .ref h5, .ref h6, .ref h7, .int x2, .int x3, .int x4, .int x5, .int x6, .int x7, .int x8, .int x9, .int x10, .int x11])), (h9, .inl (y1, 2501, .inl f1)), (h10, .inl (y2, 2501, .inl f2)), (h11, .inl (y3, 2501, .inr (.inl g0))), (h6, .inr (4, [.ref h14, .ref h15, .ref h16, .int x17])), (h14, .inl (y4, 60, .inr (.inl g1))), (h15, .inl (y5, 60, .inl f3)), (h1, .inr (6, [.int x18, .int x19, .int x20, .int x21, .int x22])), (h2, .inr (10, [.ref h8, .ref h9, .ref h10, .ref h11, .ref h12, .ref h13, .int x12, .int x13, .int x14, .int x15, .int x16, .long z0])), (h8, .inl (y0, 2501, .inl f0))]) (hS : va_S A s.heap H locs) (ls : Array Slot) (hl : lv_has ls 6 [(4, .int b9), (0, .ref h0), (1, .ref h1), (3, .int x1)]), W p l e (headSpec (Cond.code yX0_operand cX0_operand 6 (some .boolean) :: lw_G) ({ frames := 2, cells := 0, slots := 0, locals := 46 })).room s m ar below meth c H locs 0 0 Q (F0 m 69 ls [.int b8])) ?_ (fun j10 => ?_)
      · skip
        intro b8 b9 ib8 H locs hK hP hD hS ls hl
        refine lv_istore (lv' := [(5, .int b8), (4, .int b9), (0, .ref h0), (1, .ref h1), (3, .int x1)]) hx hb dX0_operand_69 hl (by decide) rfl (fun ls hl => ?_)
        refine lv_iload hx hb dX0_operand_71 (lv_at hl 0 rfl) ?_
        refine jcut (a := ∀ (b18 : Int32) (b19 : Int32) (b20 : Int32) (ib18 : iv b18 0 1) (ib20 : iv b20 0 2500) (H : Heap) (locs : List Loc) (hK : va_K (dC, dI) vwCl [(y1, .int), (y2, .int), (y3, .long), (y4, .long), (y5, .int), (y0, .int)] s) (hP : va_P (dC, dI) vwCl [(h0, .inr (0, [.ref h2, .ref h3, .ref h1, .ref h4, .ref h5, .ref h6, .ref h7, .int x2, .int x3, .int x4, .int x5, .int x6, .int x7, .int x8, .int x9, .int x10, .int x11])), (h9, .inl (y1, 2501, .inl f1)), (h10, .inl (y2, 2501, .inl f2)), (h11, .inl (y3, 2501, .inr (.inl g0))), (h6, .inr (4, [.ref h14, .ref h15, .ref h16, .int x17])), (h14, .inl (y4, 60, .inr (.inl g1))), (h15, .inl (y5, 60, .inl f3)), (h1, .inr (6, [.int x18, .int x19, .int x20, .int x21, .int x22])), (h8, .inl (y0, 2501, .inl f0)), (h2, .inr (10, [.ref h8, .ref h9, .ref h10, .ref h11, .ref h12, .ref h13, .int x12, .int x13, .int b20, .int x15, .int x16, .long z0]))] H) (hD : va_D A [(h0, .inr (0, [.ref h2, .ref h3, .ref h1, .ref h4, .ref h5, .ref h6, .ref h7, .int x2, .int x3, .int x4, .int x5, .int x6, .int x7, .int x8, .int x9, .int x10, .int x11])), (h9, .inl (y1, 2501, .inl f1)), (h10, .inl (y2, 2501, .inl f2)), (h11, .inl (y3, 2501, .inr (.inl g0))), (h6, .inr (4, [.ref h14, .ref h15, .ref h16, .int x17])), (h14, .inl (y4, 60, .inr (.inl g1))), (h15, .inl (y5, 60, .inl f3)), (h1, .inr (6, [.int x18, .int x19, .int x20, .int x21, .int x22])), (h8, .inl (y0, 2501, .inl f0)), (h2, .inr (10, [.ref h8, .ref h9, .ref h10, .ref h11, .ref h12, .ref h13, .int x12, .int x13, .int b20, .int x15, .int x16, .long z0]))]) (hS : va_S A s.heap H locs) (ls : Array Slot) (hl : lv_has ls 6 [(5, .int b18), (4, .int b19), (0, .ref h0), (1, .ref h1), (3, .int x1)]), W p l e (headSpec (Cond.code yX0_operand cX0_operand 6 (some .boolean) :: lw_G) ({ frames := 2, cells := 0, slots := 0, locals := 46 })).room s m ar below meth c H locs 0 0 Q (F0 m 90 ls [])) ?_ (fun j21 => ?_)
        · skip
          intro b18 b19 b20 ib18 ib20 H locs hK hP hD hS ls hl
          refine lv_aload_n hx hb dX0_operand_90 rfl (lv_at hl 2 rfl) ?_
          obtain ⟨hPc, hDc, hFc⟩ := nv_sub3 (wc := [(h0, .inr (0, [.ref h2, .ref h3, .ref h1, .ref h4, .ref h5, .ref h6, .ref h7, .int x2, .int x3, .int x4, .int x5, .int x6, .int x7, .int x8, .int x9, .int x10, .int x11])), (h2, .inr (10, [.ref h8, .ref h9, .ref h10, .ref h11, .ref h12, .ref h13, .int x12, .int x13, .int b20, .int x15, .int x16, .long z0])), (h9, .inl (y1, 2501, .inl f1)), (h8, .inl (y0, 2501, .inl f0)), (h10, .inl (y2, 2501, .inl f2)), (h11, .inl (y3, 2501, .inr (.inl g0))), (h6, .inr (4, [.ref h14, .ref h15, .ref h16, .int x17])), (h14, .inl (y4, 60, .inr (.inl g1))), (h15, .inl (y5, 60, .inl f3))]) hP hD hS hA [0, 9, 1, 8, 2, 3, 4, 5, 6] (by decide) rfl
          have hKc := hK.sub (tys' := [(y1, .int), (y0, .int), (y2, .int), (y3, .long), (y4, .long), (y5, .int)]) [0, 5, 1, 2, 3, 4] rfl
          refine va_calli (va_runV (As := []) (rest := []) ⟨hx, hb, hml, hown, hG⟩ (cX0_expression_1 l dC dI h0 h2 h3 h1 h4 h5 h6 h7 h8 h9 h10 h11 h12 h13 h14 h15 h16 y1 y0 y2 y3 y4 y5 H.size x2 x3 x4 x5 x6 x7 x8 x9 x10 x11 x12 x13 b20 x15 x16 x17 z0 f1 f0 f2 f3 g0 g1 ix2 ix3 ix9 ix12 ix13 ib20 ix17) (cwV 0 hG (gV wd_592 wd_594 wp_12 wd_8 wd_595) rfl rfl rfl (by decide +kernel) ⟨Nat.le_of_ble_eq_true rfl, Nat.le_of_ble_eq_true rfl⟩) ⟨fun a U g mk q => by obtain ⟨q0, q1, qP, qK, qD⟩ := q; exact ⟨q0, q1, qP, va_K.moved (u := U) (U := U.calling g mk a) (Vm.Alike.refl U.vm) qK, qD⟩, va_recv hKc hPc (ci := 0) (q0 := 0) rfl rfl, fun U hU hW => ⟨rfl, by rw [hU], by rw [hU]; exact hPc, va_K.moved hW.alike hKc, hDc.weaken (fun _ _ _ _ => trivial)⟩⟩ rfl rfl hl.1 rfl (lv_room (Nat.le_of_ble_eq_true rfl)) dX0_operand_91 ⟨by decide, by decide⟩) hS (fun q _ h => hFc q h) hFc (fun r22 u23 t H1 locs ht hvm hw hB hz1 hk1 hS => ?_)
          obtain ⟨u23_0, u23_1, u23_2, u23_3, u23_4, u23_5, u23_6⟩ := u23
          have hw : iv r22 0 1 ∧ iv u23_0 0 1 ∧ iv u23_3 0 1 ∧ iv u23_6 0 2500 ∧ True := hw
          obtain ⟨ir22, iu23_0, iu23_3, iu23_6, -⟩ := hw
          obtain ⟨hP1, hK1, hD1⟩ := hB
          rw [ht] at hP1
          have hK1 := va_K.moved hvm.symm hK1
          obtain ⟨hP, hD⟩ := nv_join (wf := [(h1, .inr (6, [.int x18, .int x19, .int x20, .int x21, .int x22])), (h0, .inr (0, [.ref h2, .ref h3, .ref h1, .ref h4, .ref h5, .ref h6, .ref h7, .int x2, .int u23_0, .int x4, .int x5, .int x6, .int u23_1, .int u23_2, .int u23_3, .int u23_4, .int u23_5])), (h2, .inr (10, [.ref h8, .ref h9, .ref h10, .ref h11, .ref h12, .ref h13, .int x12, .int x13, .int u23_6, .int x15, .int x16, .long z0])), (h9, .inl (y1, 2501, .inl f1)), (h8, .inl (y0, 2501, .inl f0)), (h10, .inl (y2, 2501, .inl f2)), (h11, .inl (y3, 2501, .inr (.inl g0))), (h6, .inr (4, [.ref h14, .ref h15, .ref h16, .int x17])), (h14, .inl (y4, 60, .inr (.inl g1))), (h15, .inl (y5, 60, .inl f3))]) hP hD [0, 9, 1, 8, 2, 3, 4, 5, 6] [7] rfl rfl (by decide) (by decide) hk1 hFc hP1 hD1 rfl
          have hK := (hK.sub (tys' := []) [] rfl).app hK1
          generalize H1 = H at hP hS ⊢
          have hK : va_K (dC, dI) vwCl [(y1, .int), (y0, .int), (y2, .int), (y3, .long), (y4, .long), (y5, .int)] s := hK
          refine lv_if_ne (tgt := 99) hx hb dX0_operand_94 (by decide) (fun c24 => ?_) (fun c24 => ?_)
          · skip
            have j25 : iv r22 1 1 := iv_neLo ir22 (by decide : iv 0 0 0) c24 (by decide)
            refine lv_iload hx hb dX0_operand_99 (lv_at hl 0 rfl) ?_
            refine lv_if_eq (tgt := 126) hx hb dX0_operand_101 (by decide) (fun c26 => ?_) (fun c26 => ?_)
            · skip
              subst c26
              refine lv_iload hx hb dX0_operand_126 (lv_at hl 0 rfl) ?_
              refine lv_if_eq (tgt := 144) hx hb dX0_operand_128 (by decide) (fun _ => ?_) (fun c => absurd (by decide) c)
              refine lv_iload hx hb dX0_operand_144 (lv_at hl 1 rfl) ?_
              refine lv_bipush (v := 38) hx hb dX0_operand_146 (by decide) ?_
              refine lv_icmp_ne (tgt := 164) hx hb dX0_operand_148 (by decide) (fun c27 => ?_) (fun c27 => ?_)
              · skip
                refine lv_aload_n hx hb dX0_operand_164 rfl (lv_at hl 2 rfl) ?_
                refine va_get (D := (dC, dI)) (ci := 0) (v := .ref h2) (C := RX0) (T := TX0) (N := 17) hx hb hG inGX0 hown hK hP 1 rfl rfl 0 (by decide) (hG _ wd_321) (fun _ h9 => h9) rfl dX0_operand_165 ?_
                obtain ⟨hPc, hDc, hFc⟩ := nv_sub3 (wc := [(h2, .inr (10, [.ref h8, .ref h9, .ref h10, .ref h11, .ref h12, .ref h13, .int x12, .int x13, .int u23_6, .int x15, .int x16, .long z0])), (h8, .inl (y0, 2501, .inl f0))]) hP hD hS hA [2, 4] (by decide) rfl
                have hKc := hK.sub (tys' := [(y0, .int)]) [1] rfl
                refine va_calli (va_runV (As := []) (rest := []) ⟨hx, hb, hml, hown, hG⟩ (cX10_kind_1 l dC dI h2 h8 h9 h10 h11 h12 h13 y0 H.size x12 x13 u23_6 x15 x16 z0 f0 ix12 ix13 iu23_6) (cwV 0 hG (gV wd_556 wd_557 wd_558 wd_11 wd_559) rfl rfl rfl (by decide +kernel) ⟨Nat.le_of_ble_eq_true rfl, Nat.le_of_ble_eq_true rfl⟩) ⟨fun a U g mk q => by obtain ⟨q0, q1, qP, qK, qD⟩ := q; exact ⟨q0, q1, qP, va_K.moved (u := U) (U := U.calling g mk a) (Vm.Alike.refl U.vm) qK, qD⟩, va_recv hKc hPc (ci := 10) (q0 := 0) rfl rfl, fun U hU hW => ⟨rfl, by rw [hU], by rw [hU]; exact hPc, va_K.moved hW.alike hKc, hDc.weaken (fun _ _ _ _ => trivial)⟩⟩ rfl rfl hl.1 rfl (lv_room (Nat.le_of_ble_eq_true rfl)) dX0_operand_168 ⟨by decide, by decide⟩) hS (fun q _ h => hFc q h) hFc (fun r28 u29 t H1 locs ht hvm hw hB hz1 hk1 hS => ?_)
                obtain ⟨hP1, hK1, hD1⟩ := hB
                rw [ht] at hP1
                have hK1 := va_K.moved hvm.symm hK1
                obtain ⟨hP, hD⟩ := nv_join (wf := [(h1, .inr (6, [.int x18, .int x19, .int x20, .int x21, .int x22])), (h0, .inr (0, [.ref h2, .ref h3, .ref h1, .ref h4, .ref h5, .ref h6, .ref h7, .int x2, .int u23_0, .int x4, .int x5, .int x6, .int u23_1, .int u23_2, .int u23_3, .int u23_4, .int u23_5])), (h9, .inl (y1, 2501, .inl f1)), (h10, .inl (y2, 2501, .inl f2)), (h11, .inl (y3, 2501, .inr (.inl g0))), (h6, .inr (4, [.ref h14, .ref h15, .ref h16, .int x17])), (h14, .inl (y4, 60, .inr (.inl g1))), (h15, .inl (y5, 60, .inl f3)), (h2, .inr (10, [.ref h8, .ref h9, .ref h10, .ref h11, .ref h12, .ref h13, .int x12, .int x13, .int u23_6, .int x15, .int x16, .long z0])), (h8, .inl (y0, 2501, .inl f0))]) hP hD [2, 4] [0, 1, 3, 5, 6, 7, 8, 9] rfl rfl (by decide) (by decide) hk1 hFc hP1 hD1 rfl
                have hK := (hK.sub (tys' := [(y1, .int), (y2, .int), (y3, .long), (y4, .long), (y5, .int)]) [0, 2, 3, 4, 5] rfl).app hK1
                generalize H1 = H at hP hS ⊢
                have hK : va_K (dC, dI) vwCl [(y1, .int), (y2, .int), (y3, .long), (y4, .long), (y5, .int), (y0, .int)] s := hK
                refine lv_bipush (v := 40) hx hb dX0_operand_171 (by decide) ?_
                refine lv_icmp_ne (tgt := 182) hx hb dX0_operand_173 (by decide) (fun c30 => ?_) (fun c30 => ?_)
                · skip
                  refine lv_aload_n hx hb dX0_operand_182 rfl (lv_at hl 3 rfl) ?_
                  refine lv_aload_n hx hb dX0_operand_183 rfl (lv_at hl 2 rfl) ?_
                  refine va_get (D := (dC, dI)) (ci := 0) (v := .int u23_1) (C := RX0) (T := TX0) (N := 17) hx hb hG inGX0 hown hK hP 1 rfl rfl 12 (by decide) (hG _ wd_333) (fun _ h9 => h9) rfl dX0_operand_184 ?_
                  obtain ⟨hPc, hDc, hFc⟩ := nv_sub3 (wc := [(h1, .inr (6, [.int x18, .int x19, .int x20, .int x21, .int x22]))]) hP hD hS hA [0] (by decide) rfl
                  have hKc := hK.sub (tys' := []) [] rfl
                  refine va_callv (va_runV (As := [.int u23_1]) (rest := []) ⟨hx, hb, hml, hown, hG⟩ (cX6_takeSymbolic_1 l dC dI h1 H.size u23_1 x18 x19 x20 x21 x22 ix21 ix22) (cwV 1 hG (gV wd_653 wd_654 wd_655 wd_9 wd_656) rfl rfl rfl (by decide +kernel) ⟨Nat.le_of_ble_eq_true rfl, Nat.le_of_ble_eq_true rfl⟩) ⟨fun a U g mk q => by obtain ⟨q0, q1, qP, qK, qD⟩ := q; exact ⟨q0, q1, qP, va_K.moved (u := U) (U := U.calling g mk a) (Vm.Alike.refl U.vm) qK, qD⟩, va_recv hKc hPc (ci := 6) (q0 := 0) rfl rfl, fun U hU hW => ⟨rfl, by rw [hU], by rw [hU]; exact hPc, va_K.moved hW.alike hKc, hDc.weaken (fun _ _ _ _ => trivial)⟩⟩ rfl rfl hl.1 rfl (lv_room (Nat.le_of_ble_eq_true rfl)) dX0_operand_187 ⟨by decide, by decide⟩) hS (fun q _ h => hFc q h) hFc (fun u32 t H1 locs ht hvm hw hB hz1 hk1 hS => ?_)
                  obtain ⟨hP1, hK1, hD1⟩ := hB
                  rw [ht] at hP1
                  have hK1 := va_K.moved hvm.symm hK1
                  obtain ⟨hP, hD⟩ := nv_join (wf := [(h0, .inr (0, [.ref h2, .ref h3, .ref h1, .ref h4, .ref h5, .ref h6, .ref h7, .int x2, .int u23_0, .int x4, .int x5, .int x6, .int u23_1, .int u23_2, .int u23_3, .int u23_4, .int u23_5])), (h9, .inl (y1, 2501, .inl f1)), (h10, .inl (y2, 2501, .inl f2)), (h11, .inl (y3, 2501, .inr (.inl g0))), (h6, .inr (4, [.ref h14, .ref h15, .ref h16, .int x17])), (h14, .inl (y4, 60, .inr (.inl g1))), (h15, .inl (y5, 60, .inl f3)), (h2, .inr (10, [.ref h8, .ref h9, .ref h10, .ref h11, .ref h12, .ref h13, .int x12, .int x13, .int u23_6, .int x15, .int x16, .long z0])), (h8, .inl (y0, 2501, .inl f0)), (h1, .inr (6, [.int 1, .int 0, .int u23_1, .int 1, .int 1]))]) hP hD [0] [1, 2, 3, 4, 5, 6, 7, 8, 9] rfl rfl (by decide) (by decide) hk1 hFc hP1 hD1 rfl
                  have hK := (hK.sub (tys' := [(y1, .int), (y2, .int), (y3, .long), (y4, .long), (y5, .int), (y0, .int)]) [0, 1, 2, 3, 4, 5] rfl).app hK1
                  generalize H1 = H at hP hS ⊢
                  have hK : va_K (dC, dI) vwCl [(y1, .int), (y2, .int), (y3, .long), (y4, .long), (y5, .int), (y0, .int)] s := hK
                  refine lv_iconst (v := 1) hx hb dX0_operand_190 (by decide) ?_
                  rw [hQ]
                  obtain ⟨hP9, hD9⟩ := nv_sub2 (wc := [(h0, .inr (0, [.ref h2, .ref h3, .ref h1, .ref h4, .ref h5, .ref h6, .ref h7, .int x2, .int u23_0, .int x4, .int x5, .int x6, .int u23_1, .int u23_2, .int u23_3, .int u23_4, .int u23_5])), (h2, .inr (10, [.ref h8, .ref h9, .ref h10, .ref h11, .ref h12, .ref h13, .int x12, .int x13, .int u23_6, .int x15, .int x16, .long z0])), (h8, .inl (y0, 2501, .inl f0)), (h9, .inl (y1, 2501, .inl f1)), (h10, .inl (y2, 2501, .inl f2)), (h11, .inl (y3, 2501, .inr (.inl g0))), (h6, .inr (4, [.ref h14, .ref h15, .ref h16, .int x17])), (h14, .inl (y4, 60, .inr (.inl g1))), (h15, .inl (y5, 60, .inl f3)), (h1, .inr (6, [.int 1, .int 0, .int u23_1, .int 1, .int 1]))]) hP hD [0, 7, 8, 1, 2, 3, 4, 5, 6, 9] (by decide) rfl
                  have hK9 := hK.sub (tys' := [(y0, .int), (y1, .int), (y2, .int), (y3, .long), (y4, .long), (y5, .int)]) [5, 0, 1, 2, 3, 4] rfl
                  exact W.zret (v := 1) hx hb hr rfl (fun t ht hW => ⟨⟨1, (u23_0, u23_1, u23_2, u23_3, u23_4, u23_5, u23_6, 1, 0, u23_1, 1, 1), rfl, ⟨iv_w (by decide : iv 1 1 1) (by decide) (by decide), iv_w iu23_0 (by decide) (by decide), iv_w iu23_3 (by decide) (by decide), iv_w iu23_6 (by decide) (by decide), iv_w (by decide : iv 1 1 1) (by decide) (by decide), iv_w (by decide : iv 1 1 1) (by decide) (by decide), trivial⟩, by rw [ht]; exact hP9, va_K.moved hW.alike hK9, hD9⟩, hS.F ht⟩) hS.2.2 dX0_operand_191
                · skip
                  subst c30
                  refine lv_aload_n hx hb dX0_operand_176 rfl (lv_at hl 2 rfl) ?_
                  refine lv_aload_n hx hb dX0_operand_177 rfl (lv_at hl 3 rfl) ?_
                  obtain ⟨hPc, hDc, hFc⟩ := nv_sub3 (wc := [(h0, .inr (0, [.ref h2, .ref h3, .ref h1, .ref h4, .ref h5, .ref h6, .ref h7, .int x2, .int u23_0, .int x4, .int x5, .int x6, .int u23_1, .int u23_2, .int u23_3, .int u23_4, .int u23_5])), (h2, .inr (10, [.ref h8, .ref h9, .ref h10, .ref h11, .ref h12, .ref h13, .int x12, .int x13, .int u23_6, .int x15, .int x16, .long z0])), (h8, .inl (y0, 2501, .inl f0)), (h10, .inl (y2, 2501, .inl f2)), (h1, .inr (6, [.int x18, .int x19, .int x20, .int x21, .int x22])), (h9, .inl (y1, 2501, .inl f1))]) hP hD hS hA [1, 8, 9, 3, 0, 2] (by decide) rfl
                  have hKc := hK.sub (tys' := [(y0, .int), (y2, .int), (y1, .int)]) [5, 1, 0] rfl
                  refine va_calli (va_runV (As := [.ref h1]) (rest := []) ⟨hx, hb, hml, hown, hG⟩ (cX0_indexed_1 l dC dI h0 h1 h2 h3 h4 h5 h6 h7 h8 h9 h10 h11 h12 h13 y0 y2 y1 H.size x2 u23_0 x4 x5 x6 u23_1 u23_2 u23_3 u23_4 u23_5 x12 x13 u23_6 x15 x16 x18 x19 x20 x21 x22 z0 f0 f2 f1 ix2 iu23_0 iu23_3 ix12 ix13 iu23_6 ix21 ix22) (cwV 1 hG (gV wd_649 wd_651 wp_21 wd_8 wd_652) rfl rfl rfl (by decide +kernel) ⟨Nat.le_of_ble_eq_true rfl, Nat.le_of_ble_eq_true rfl⟩) ⟨fun a U g mk q => by obtain ⟨q0, q1, qP, qK, qD⟩ := q; exact ⟨q0, q1, qP, va_K.moved (u := U) (U := U.calling g mk a) (Vm.Alike.refl U.vm) qK, qD⟩, va_recv hKc hPc (ci := 0) (q0 := 0) rfl rfl, fun U hU hW => ⟨rfl, by rw [hU], by rw [hU]; exact hPc, va_K.moved hW.alike hKc, hDc.weaken (fun _ _ _ _ => trivial)⟩⟩ rfl rfl hl.1 rfl (lv_room (Nat.le_of_ble_eq_true rfl)) dX0_operand_178 ⟨by decide, by decide⟩) hS (fun q _ h => hFc q h) hFc (fun r33 u34 t H1 locs ht hvm hw hB hz1 hk1 hS => ?_)
                  obtain ⟨u34_0, u34_1, u34_2, u34_3, u34_4, u34_5, u34_6, u34_7⟩ := u34
                  have hw : iv r33 0 1 ∧ iv u34_2 0 2500 ∧ iv u34_6 0 1 ∧ iv u34_7 0 1 ∧ True := hw
                  obtain ⟨ir33, iu34_2, iu34_6, iu34_7, -⟩ := hw
                  obtain ⟨hP1, hK1, hD1⟩ := hB
                  rw [ht] at hP1
                  have hK1 := va_K.moved hvm.symm hK1
                  obtain ⟨hP, hD⟩ := nv_join (wf := [(h11, .inl (y3, 2501, .inr (.inl g0))), (h6, .inr (4, [.ref h14, .ref h15, .ref h16, .int x17])), (h14, .inl (y4, 60, .inr (.inl g1))), (h15, .inl (y5, 60, .inl f3)), (h0, .inr (0, [.ref h2, .ref h3, .ref h1, .ref h4, .ref h5, .ref h6, .ref h7, .int x2, .int u23_0, .int x4, .int x5, .int x6, .int u23_1, .int u23_2, .int u23_3, .int u34_0, .int u34_1])), (h2, .inr (10, [.ref h8, .ref h9, .ref h10, .ref h11, .ref h12, .ref h13, .int x12, .int x13, .int u34_2, .int x15, .int x16, .long z0])), (h8, .inl (y0, 2501, .inl f0)), (h10, .inl (y2, 2501, .inl f2)), (h1, .inr (6, [.int u34_3, .int u34_4, .int u34_5, .int u34_6, .int u34_7])), (h9, .inl (y1, 2501, .inl f1))]) hP hD [1, 8, 9, 3, 0, 2] [4, 5, 6, 7] rfl rfl (by decide) (by decide) hk1 hFc hP1 hD1 rfl
                  have hK := (hK.sub (tys' := [(y3, .long), (y4, .long), (y5, .int)]) [2, 3, 4] rfl).app hK1
                  generalize H1 = H at hP hS ⊢
                  have hK : va_K (dC, dI) vwCl [(y3, .long), (y4, .long), (y5, .int), (y0, .int), (y2, .int), (y1, .int)] s := hK
                  rw [hQ]
                  obtain ⟨hP9, hD9⟩ := nv_sub2 (wc := [(h0, .inr (0, [.ref h2, .ref h3, .ref h1, .ref h4, .ref h5, .ref h6, .ref h7, .int x2, .int u23_0, .int x4, .int x5, .int x6, .int u23_1, .int u23_2, .int u23_3, .int u34_0, .int u34_1])), (h2, .inr (10, [.ref h8, .ref h9, .ref h10, .ref h11, .ref h12, .ref h13, .int x12, .int x13, .int u34_2, .int x15, .int x16, .long z0])), (h8, .inl (y0, 2501, .inl f0)), (h9, .inl (y1, 2501, .inl f1)), (h10, .inl (y2, 2501, .inl f2)), (h11, .inl (y3, 2501, .inr (.inl g0))), (h6, .inr (4, [.ref h14, .ref h15, .ref h16, .int x17])), (h14, .inl (y4, 60, .inr (.inl g1))), (h15, .inl (y5, 60, .inl f3)), (h1, .inr (6, [.int u34_3, .int u34_4, .int u34_5, .int u34_6, .int u34_7]))]) hP hD [4, 5, 6, 9, 7, 0, 1, 2, 3, 8] (by decide) rfl
                  have hK9 := hK.sub (tys' := [(y0, .int), (y1, .int), (y2, .int), (y3, .long), (y4, .long), (y5, .int)]) [3, 5, 4, 0, 1, 2] rfl
                  exact W.zret (v := r33) hx hb hr (iv_z (iv_w ir33 (by decide) (by decide))).1 (fun t ht hW => ⟨⟨r33, (u23_0, u23_1, u23_2, u23_3, u34_0, u34_1, u34_2, u34_3, u34_4, u34_5, u34_6, u34_7), rfl, ⟨iv_w ir33 (by decide) (by decide), iv_w iu23_0 (by decide) (by decide), iv_w iu23_3 (by decide) (by decide), iv_w iu34_2 (by decide) (by decide), iv_w iu34_6 (by decide) (by decide), iv_w iu34_7 (by decide) (by decide), trivial⟩, by rw [ht]; exact hP9, va_K.moved hW.alike hK9, hD9⟩, hS.F ht⟩) hS.2.2 dX0_operand_181
              · skip
                subst c27
                refine lv_aload_n hx hb dX0_operand_151 rfl (lv_at hl 3 rfl) ?_
                refine lv_iconst (v := 1) hx hb dX0_operand_152 (by decide) ?_
                refine lv_iconst (v := 2) hx hb dX0_operand_153 (by decide) ?_
                refine lv_aload_n hx hb dX0_operand_154 rfl (lv_at hl 2 rfl) ?_
                refine va_get (D := (dC, dI)) (ci := 0) (v := .int u23_1) (C := RX0) (T := TX0) (N := 17) hx hb hG inGX0 hown hK hP 1 rfl rfl 12 (by decide) (hG _ wd_333) (fun _ h9 => h9) rfl dX0_operand_155 ?_
                obtain ⟨hPc, hDc, hFc⟩ := nv_sub3 (wc := [(h1, .inr (6, [.int x18, .int x19, .int x20, .int x21, .int x22]))]) hP hD hS hA [0] (by decide) rfl
                have hKc := hK.sub (tys' := []) [] rfl
                refine va_callv (va_runV (As := [.int 1, .int 2, .int u23_1]) (rest := []) ⟨hx, hb, hml, hown, hG⟩ (cX6_takeWithNext_1 l dC dI h1 H.size 1 2 u23_1 x18 x19 x20 x21 x22 ix21 ix22) (cwV 3 hG (gV wd_648 wd_645 wd_646 wd_9 wd_647) rfl rfl rfl (by decide +kernel) ⟨Nat.le_of_ble_eq_true rfl, Nat.le_of_ble_eq_true rfl⟩) ⟨fun a U g mk q => by obtain ⟨q0, q1, qP, qK, qD⟩ := q; exact ⟨q0, q1, qP, va_K.moved (u := U) (U := U.calling g mk a) (Vm.Alike.refl U.vm) qK, qD⟩, va_recv hKc hPc (ci := 6) (q0 := 0) rfl rfl, fun U hU hW => ⟨rfl, by rw [hU], by rw [hU]; exact hPc, va_K.moved hW.alike hKc, hDc.weaken (fun _ _ _ _ => trivial)⟩⟩ rfl rfl hl.1 rfl (lv_room (Nat.le_of_ble_eq_true rfl)) dX0_operand_158 ⟨by decide, by decide⟩) hS (fun q _ h => hFc q h) hFc (fun u36 t H1 locs ht hvm hw hB hz1 hk1 hS => ?_)
                obtain ⟨hP1, hK1, hD1⟩ := hB
                rw [ht] at hP1
                have hK1 := va_K.moved hvm.symm hK1
                obtain ⟨hP, hD⟩ := nv_join (wf := [(h0, .inr (0, [.ref h2, .ref h3, .ref h1, .ref h4, .ref h5, .ref h6, .ref h7, .int x2, .int u23_0, .int x4, .int x5, .int x6, .int u23_1, .int u23_2, .int u23_3, .int u23_4, .int u23_5])), (h2, .inr (10, [.ref h8, .ref h9, .ref h10, .ref h11, .ref h12, .ref h13, .int x12, .int x13, .int u23_6, .int x15, .int x16, .long z0])), (h9, .inl (y1, 2501, .inl f1)), (h8, .inl (y0, 2501, .inl f0)), (h10, .inl (y2, 2501, .inl f2)), (h11, .inl (y3, 2501, .inr (.inl g0))), (h6, .inr (4, [.ref h14, .ref h15, .ref h16, .int x17])), (h14, .inl (y4, 60, .inr (.inl g1))), (h15, .inl (y5, 60, .inl f3)), (h1, .inr (6, [.int 1, .int 2, .int u23_1, .int 1, .int 0]))]) hP hD [0] [1, 2, 3, 4, 5, 6, 7, 8, 9] rfl rfl (by decide) (by decide) hk1 hFc hP1 hD1 rfl
                have hK := (hK.sub (tys' := [(y1, .int), (y0, .int), (y2, .int), (y3, .long), (y4, .long), (y5, .int)]) [0, 1, 2, 3, 4, 5] rfl).app hK1
                generalize H1 = H at hP hS ⊢
                have hK : va_K (dC, dI) vwCl [(y1, .int), (y0, .int), (y2, .int), (y3, .long), (y4, .long), (y5, .int)] s := hK
                refine lv_goto (tgt := 190) hx hb dX0_operand_161 (by decide) ?_
                refine lv_iconst (v := 1) hx hb dX0_operand_190 (by decide) ?_
                rw [hQ]
                obtain ⟨hP9, hD9⟩ := nv_sub2 (wc := [(h0, .inr (0, [.ref h2, .ref h3, .ref h1, .ref h4, .ref h5, .ref h6, .ref h7, .int x2, .int u23_0, .int x4, .int x5, .int x6, .int u23_1, .int u23_2, .int u23_3, .int u23_4, .int u23_5])), (h2, .inr (10, [.ref h8, .ref h9, .ref h10, .ref h11, .ref h12, .ref h13, .int x12, .int x13, .int u23_6, .int x15, .int x16, .long z0])), (h8, .inl (y0, 2501, .inl f0)), (h9, .inl (y1, 2501, .inl f1)), (h10, .inl (y2, 2501, .inl f2)), (h11, .inl (y3, 2501, .inr (.inl g0))), (h6, .inr (4, [.ref h14, .ref h15, .ref h16, .int x17])), (h14, .inl (y4, 60, .inr (.inl g1))), (h15, .inl (y5, 60, .inl f3)), (h1, .inr (6, [.int 1, .int 2, .int u23_1, .int 1, .int 0]))]) hP hD [0, 1, 3, 2, 4, 5, 6, 7, 8, 9] (by decide) rfl
                have hK9 := hK.sub (tys' := [(y0, .int), (y1, .int), (y2, .int), (y3, .long), (y4, .long), (y5, .int)]) [1, 0, 2, 3, 4, 5] rfl
                exact W.zret (v := 1) hx hb hr rfl (fun t ht hW => ⟨⟨1, (u23_0, u23_1, u23_2, u23_3, u23_4, u23_5, u23_6, 1, 2, u23_1, 1, 0), rfl, ⟨iv_w (by decide : iv 1 1 1) (by decide) (by decide), iv_w iu23_0 (by decide) (by decide), iv_w iu23_3 (by decide) (by decide), iv_w iu23_6 (by decide) (by decide), iv_w (by decide : iv 1 1 1) (by decide) (by decide), iv_w (by decide : iv 0 0 0) (by decide) (by decide), trivial⟩, by rw [ht]; exact hP9, va_K.moved hW.alike hK9, hD9⟩, hS.F ht⟩) hS.2.2 dX0_operand_191
            · skip
              have j37 : iv b18 1 1 := iv_neLo ib18 (by decide : iv 0 0 0) c26 (by decide)
              refine lv_aload_n hx hb dX0_operand_104 rfl (lv_at hl 2 rfl) ?_
              refine va_get (D := (dC, dI)) (ci := 0) (v := .int u23_3) (C := RX0) (T := TX0) (N := 17) hx hb hG inGX0 hown hK hP 1 rfl rfl 14 (by decide) (hG _ wd_335) (fun _ h9 => h9) rfl dX0_operand_105 ?_
              refine lv_if_eq (tgt := 126) hx hb dX0_operand_108 (by decide) (fun c38 => ?_) (fun c38 => ?_)
              · skip
                subst c38
                refine lv_iload hx hb dX0_operand_126 (lv_at hl 0 rfl) ?_
                refine lv_if_eq (tgt := 144) hx hb dX0_operand_128 (by decide) (fun c => absurd c c26) (fun _ => ?_)
                refine lv_aload_n hx hb dX0_operand_131 rfl (lv_at hl 3 rfl) ?_
                refine lv_iconst (v := 3) hx hb dX0_operand_132 (by decide) ?_
                refine lv_iconst (v := 0) hx hb dX0_operand_133 (by decide) ?_
                refine lv_aload_n hx hb dX0_operand_134 rfl (lv_at hl 2 rfl) ?_
                refine va_get (D := (dC, dI)) (ci := 0) (v := .int u23_1) (C := RX0) (T := TX0) (N := 17) hx hb hG inGX0 hown hK hP 1 rfl rfl 12 (by decide) (hG _ wd_333) (fun _ h9 => h9) rfl dX0_operand_135 ?_
                obtain ⟨hPc, hDc, hFc⟩ := nv_sub3 (wc := [(h1, .inr (6, [.int x18, .int x19, .int x20, .int x21, .int x22]))]) hP hD hS hA [0] (by decide) rfl
                have hKc := hK.sub (tys' := []) [] rfl
                refine va_callv (va_runV (As := [.int 3, .int 0, .int u23_1]) (rest := []) ⟨hx, hb, hml, hown, hG⟩ (cX6_takeWithNext_1 l dC dI h1 H.size 3 0 u23_1 x18 x19 x20 x21 x22 ix21 ix22) (cwV 3 hG (gV wd_648 wd_645 wd_646 wd_9 wd_647) rfl rfl rfl (by decide +kernel) ⟨Nat.le_of_ble_eq_true rfl, Nat.le_of_ble_eq_true rfl⟩) ⟨fun a U g mk q => by obtain ⟨q0, q1, qP, qK, qD⟩ := q; exact ⟨q0, q1, qP, va_K.moved (u := U) (U := U.calling g mk a) (Vm.Alike.refl U.vm) qK, qD⟩, va_recv hKc hPc (ci := 6) (q0 := 0) rfl rfl, fun U hU hW => ⟨rfl, by rw [hU], by rw [hU]; exact hPc, va_K.moved hW.alike hKc, hDc.weaken (fun _ _ _ _ => trivial)⟩⟩ rfl rfl hl.1 rfl (lv_room (Nat.le_of_ble_eq_true rfl)) dX0_operand_138 ⟨by decide, by decide⟩) hS (fun q _ h => hFc q h) hFc (fun u40 t H1 locs ht hvm hw hB hz1 hk1 hS => ?_)
                obtain ⟨hP1, hK1, hD1⟩ := hB
                rw [ht] at hP1
                have hK1 := va_K.moved hvm.symm hK1
                obtain ⟨hP, hD⟩ := nv_join (wf := [(h0, .inr (0, [.ref h2, .ref h3, .ref h1, .ref h4, .ref h5, .ref h6, .ref h7, .int x2, .int u23_0, .int x4, .int x5, .int x6, .int u23_1, .int u23_2, .int 0, .int u23_4, .int u23_5])), (h2, .inr (10, [.ref h8, .ref h9, .ref h10, .ref h11, .ref h12, .ref h13, .int x12, .int x13, .int u23_6, .int x15, .int x16, .long z0])), (h9, .inl (y1, 2501, .inl f1)), (h8, .inl (y0, 2501, .inl f0)), (h10, .inl (y2, 2501, .inl f2)), (h11, .inl (y3, 2501, .inr (.inl g0))), (h6, .inr (4, [.ref h14, .ref h15, .ref h16, .int x17])), (h14, .inl (y4, 60, .inr (.inl g1))), (h15, .inl (y5, 60, .inl f3)), (h1, .inr (6, [.int 3, .int 0, .int u23_1, .int 1, .int 0]))]) hP hD [0] [1, 2, 3, 4, 5, 6, 7, 8, 9] rfl rfl (by decide) (by decide) hk1 hFc hP1 hD1 rfl
                have hK := (hK.sub (tys' := [(y1, .int), (y0, .int), (y2, .int), (y3, .long), (y4, .long), (y5, .int)]) [0, 1, 2, 3, 4, 5] rfl).app hK1
                generalize H1 = H at hP hS ⊢
                have hK : va_K (dC, dI) vwCl [(y1, .int), (y0, .int), (y2, .int), (y3, .long), (y4, .long), (y5, .int)] s := hK
                refine lv_goto (tgt := 190) hx hb dX0_operand_141 (by decide) ?_
                refine lv_iconst (v := 1) hx hb dX0_operand_190 (by decide) ?_
                rw [hQ]
                obtain ⟨hP9, hD9⟩ := nv_sub2 (wc := [(h0, .inr (0, [.ref h2, .ref h3, .ref h1, .ref h4, .ref h5, .ref h6, .ref h7, .int x2, .int u23_0, .int x4, .int x5, .int x6, .int u23_1, .int u23_2, .int 0, .int u23_4, .int u23_5])), (h2, .inr (10, [.ref h8, .ref h9, .ref h10, .ref h11, .ref h12, .ref h13, .int x12, .int x13, .int u23_6, .int x15, .int x16, .long z0])), (h8, .inl (y0, 2501, .inl f0)), (h9, .inl (y1, 2501, .inl f1)), (h10, .inl (y2, 2501, .inl f2)), (h11, .inl (y3, 2501, .inr (.inl g0))), (h6, .inr (4, [.ref h14, .ref h15, .ref h16, .int x17])), (h14, .inl (y4, 60, .inr (.inl g1))), (h15, .inl (y5, 60, .inl f3)), (h1, .inr (6, [.int 3, .int 0, .int u23_1, .int 1, .int 0]))]) hP hD [0, 1, 3, 2, 4, 5, 6, 7, 8, 9] (by decide) rfl
                have hK9 := hK.sub (tys' := [(y0, .int), (y1, .int), (y2, .int), (y3, .long), (y4, .long), (y5, .int)]) [1, 0, 2, 3, 4, 5] rfl
                exact W.zret (v := 1) hx hb hr rfl (fun t ht hW => ⟨⟨1, (u23_0, u23_1, u23_2, 0, u23_4, u23_5, u23_6, 3, 0, u23_1, 1, 0), rfl, ⟨iv_w (by decide : iv 1 1 1) (by decide) (by decide), iv_w iu23_0 (by decide) (by decide), iv_w (by decide : iv 0 0 0) (by decide) (by decide), iv_w iu23_6 (by decide) (by decide), iv_w (by decide : iv 1 1 1) (by decide) (by decide), iv_w (by decide : iv 0 0 0) (by decide) (by decide), trivial⟩, by rw [ht]; exact hP9, va_K.moved hW.alike hK9, hD9⟩, hS.F ht⟩) hS.2.2 dX0_operand_191
              · skip
                have j41 : iv u23_3 1 1 := iv_neLo iu23_3 (by decide : iv 0 0 0) c38 (by decide)
                refine lv_iload_n hx hb dX0_operand_111 rfl (lv_at hl 4 rfl) ?_
                refine lv_if_eq (tgt := 126) hx hb dX0_operand_112 (by decide) (fun c42 => ?_) (fun c42 => ?_)
                · skip
                  subst c42
                  refine lv_iload hx hb dX0_operand_126 (lv_at hl 0 rfl) ?_
                  refine lv_if_eq (tgt := 144) hx hb dX0_operand_128 (by decide) (fun c => absurd c c26) (fun _ => ?_)
                  refine lv_aload_n hx hb dX0_operand_131 rfl (lv_at hl 3 rfl) ?_
                  refine lv_iconst (v := 3) hx hb dX0_operand_132 (by decide) ?_
                  refine lv_iconst (v := 0) hx hb dX0_operand_133 (by decide) ?_
                  refine lv_aload_n hx hb dX0_operand_134 rfl (lv_at hl 2 rfl) ?_
                  refine va_get (D := (dC, dI)) (ci := 0) (v := .int u23_1) (C := RX0) (T := TX0) (N := 17) hx hb hG inGX0 hown hK hP 1 rfl rfl 12 (by decide) (hG _ wd_333) (fun _ h9 => h9) rfl dX0_operand_135 ?_
                  obtain ⟨hPc, hDc, hFc⟩ := nv_sub3 (wc := [(h1, .inr (6, [.int x18, .int x19, .int x20, .int x21, .int x22]))]) hP hD hS hA [0] (by decide) rfl
                  have hKc := hK.sub (tys' := []) [] rfl
                  refine va_callv (va_runV (As := [.int 3, .int 0, .int u23_1]) (rest := []) ⟨hx, hb, hml, hown, hG⟩ (cX6_takeWithNext_1 l dC dI h1 H.size 3 0 u23_1 x18 x19 x20 x21 x22 ix21 ix22) (cwV 3 hG (gV wd_648 wd_645 wd_646 wd_9 wd_647) rfl rfl rfl (by decide +kernel) ⟨Nat.le_of_ble_eq_true rfl, Nat.le_of_ble_eq_true rfl⟩) ⟨fun a U g mk q => by obtain ⟨q0, q1, qP, qK, qD⟩ := q; exact ⟨q0, q1, qP, va_K.moved (u := U) (U := U.calling g mk a) (Vm.Alike.refl U.vm) qK, qD⟩, va_recv hKc hPc (ci := 6) (q0 := 0) rfl rfl, fun U hU hW => ⟨rfl, by rw [hU], by rw [hU]; exact hPc, va_K.moved hW.alike hKc, hDc.weaken (fun _ _ _ _ => trivial)⟩⟩ rfl rfl hl.1 rfl (lv_room (Nat.le_of_ble_eq_true rfl)) dX0_operand_138 ⟨by decide, by decide⟩) hS (fun q _ h => hFc q h) hFc (fun u44 t H1 locs ht hvm hw hB hz1 hk1 hS => ?_)
                  obtain ⟨hP1, hK1, hD1⟩ := hB
                  rw [ht] at hP1
                  have hK1 := va_K.moved hvm.symm hK1
                  obtain ⟨hP, hD⟩ := nv_join (wf := [(h0, .inr (0, [.ref h2, .ref h3, .ref h1, .ref h4, .ref h5, .ref h6, .ref h7, .int x2, .int u23_0, .int x4, .int x5, .int x6, .int u23_1, .int u23_2, .int u23_3, .int u23_4, .int u23_5])), (h2, .inr (10, [.ref h8, .ref h9, .ref h10, .ref h11, .ref h12, .ref h13, .int x12, .int x13, .int u23_6, .int x15, .int x16, .long z0])), (h9, .inl (y1, 2501, .inl f1)), (h8, .inl (y0, 2501, .inl f0)), (h10, .inl (y2, 2501, .inl f2)), (h11, .inl (y3, 2501, .inr (.inl g0))), (h6, .inr (4, [.ref h14, .ref h15, .ref h16, .int x17])), (h14, .inl (y4, 60, .inr (.inl g1))), (h15, .inl (y5, 60, .inl f3)), (h1, .inr (6, [.int 3, .int 0, .int u23_1, .int 1, .int 0]))]) hP hD [0] [1, 2, 3, 4, 5, 6, 7, 8, 9] rfl rfl (by decide) (by decide) hk1 hFc hP1 hD1 rfl
                  have hK := (hK.sub (tys' := [(y1, .int), (y0, .int), (y2, .int), (y3, .long), (y4, .long), (y5, .int)]) [0, 1, 2, 3, 4, 5] rfl).app hK1
                  generalize H1 = H at hP hS ⊢
                  have hK : va_K (dC, dI) vwCl [(y1, .int), (y0, .int), (y2, .int), (y3, .long), (y4, .long), (y5, .int)] s := hK
                  refine lv_goto (tgt := 190) hx hb dX0_operand_141 (by decide) ?_
                  refine lv_iconst (v := 1) hx hb dX0_operand_190 (by decide) ?_
                  rw [hQ]
                  obtain ⟨hP9, hD9⟩ := nv_sub2 (wc := [(h0, .inr (0, [.ref h2, .ref h3, .ref h1, .ref h4, .ref h5, .ref h6, .ref h7, .int x2, .int u23_0, .int x4, .int x5, .int x6, .int u23_1, .int u23_2, .int u23_3, .int u23_4, .int u23_5])), (h2, .inr (10, [.ref h8, .ref h9, .ref h10, .ref h11, .ref h12, .ref h13, .int x12, .int x13, .int u23_6, .int x15, .int x16, .long z0])), (h8, .inl (y0, 2501, .inl f0)), (h9, .inl (y1, 2501, .inl f1)), (h10, .inl (y2, 2501, .inl f2)), (h11, .inl (y3, 2501, .inr (.inl g0))), (h6, .inr (4, [.ref h14, .ref h15, .ref h16, .int x17])), (h14, .inl (y4, 60, .inr (.inl g1))), (h15, .inl (y5, 60, .inl f3)), (h1, .inr (6, [.int 3, .int 0, .int u23_1, .int 1, .int 0]))]) hP hD [0, 1, 3, 2, 4, 5, 6, 7, 8, 9] (by decide) rfl
                  have hK9 := hK.sub (tys' := [(y0, .int), (y1, .int), (y2, .int), (y3, .long), (y4, .long), (y5, .int)]) [1, 0, 2, 3, 4, 5] rfl
                  exact W.zret (v := 1) hx hb hr rfl (fun t ht hW => ⟨⟨1, (u23_0, u23_1, u23_2, u23_3, u23_4, u23_5, u23_6, 3, 0, u23_1, 1, 0), rfl, ⟨iv_w (by decide : iv 1 1 1) (by decide) (by decide), iv_w iu23_0 (by decide) (by decide), iv_w j41 (by decide) (by decide), iv_w iu23_6 (by decide) (by decide), iv_w (by decide : iv 1 1 1) (by decide) (by decide), iv_w (by decide : iv 0 0 0) (by decide) (by decide), trivial⟩, by rw [ht]; exact hP9, va_K.moved hW.alike hK9, hD9⟩, hS.F ht⟩) hS.2.2 dX0_operand_191
                · skip
                  have j45 : iv x1 1 1 := iv_neLo ix1 (by decide : iv 0 0 0) c42 (by decide)
                  refine lv_aload_n hx hb dX0_operand_115 rfl (lv_at hl 3 rfl) ?_
                  refine lv_aload_n hx hb dX0_operand_116 rfl (lv_at hl 2 rfl) ?_
                  refine va_get (D := (dC, dI)) (ci := 0) (v := .int u23_1) (C := RX0) (T := TX0) (N := 17) hx hb hG inGX0 hown hK hP 1 rfl rfl 12 (by decide) (hG _ wd_333) (fun _ h9 => h9) rfl dX0_operand_117 ?_
                  obtain ⟨hPc, hDc, hFc⟩ := nv_sub3 (wc := [(h1, .inr (6, [.int x18, .int x19, .int x20, .int x21, .int x22]))]) hP hD hS hA [0] (by decide) rfl
                  have hKc := hK.sub (tys' := []) [] rfl
                  refine va_callv (va_runV (As := [.int u23_1]) (rest := []) ⟨hx, hb, hml, hown, hG⟩ (cX6_takeNumber_1 l dC dI h1 H.size u23_1 x18 x19 x20 x21 x22 ix21 ix22) (cwV 1 hG (gV wd_638 wd_639 wd_640 wd_9 wd_641) rfl rfl rfl (by decide +kernel) ⟨Nat.le_of_ble_eq_true rfl, Nat.le_of_ble_eq_true rfl⟩) ⟨fun a U g mk q => by obtain ⟨q0, q1, qP, qK, qD⟩ := q; exact ⟨q0, q1, qP, va_K.moved (u := U) (U := U.calling g mk a) (Vm.Alike.refl U.vm) qK, qD⟩, va_recv hKc hPc (ci := 6) (q0 := 0) rfl rfl, fun U hU hW => ⟨rfl, by rw [hU], by rw [hU]; exact hPc, va_K.moved hW.alike hKc, hDc.weaken (fun _ _ _ _ => trivial)⟩⟩ rfl rfl hl.1 rfl (lv_room (Nat.le_of_ble_eq_true rfl)) dX0_operand_120 ⟨by decide, by decide⟩) hS (fun q _ h => hFc q h) hFc (fun u47 t H1 locs ht hvm hw hB hz1 hk1 hS => ?_)
                  obtain ⟨u47_0, u47_1, u47_2, u47_3⟩ := u47
                  have hw : iv u47_0 0 3 ∧ iv u47_1 0 3 ∧ iv u47_3 0 1 ∧ True := hw
                  obtain ⟨iu47_0, iu47_1, iu47_3, -⟩ := hw
                  obtain ⟨hP1, hK1, hD1⟩ := hB
                  rw [ht] at hP1
                  have hK1 := va_K.moved hvm.symm hK1
                  obtain ⟨hP, hD⟩ := nv_join (wf := [(h0, .inr (0, [.ref h2, .ref h3, .ref h1, .ref h4, .ref h5, .ref h6, .ref h7, .int x2, .int u23_0, .int x4, .int x5, .int x6, .int u23_1, .int u23_2, .int u23_3, .int u23_4, .int u23_5])), (h2, .inr (10, [.ref h8, .ref h9, .ref h10, .ref h11, .ref h12, .ref h13, .int x12, .int x13, .int u23_6, .int x15, .int x16, .long z0])), (h9, .inl (y1, 2501, .inl f1)), (h8, .inl (y0, 2501, .inl f0)), (h10, .inl (y2, 2501, .inl f2)), (h11, .inl (y3, 2501, .inr (.inl g0))), (h6, .inr (4, [.ref h14, .ref h15, .ref h16, .int x17])), (h14, .inl (y4, 60, .inr (.inl g1))), (h15, .inl (y5, 60, .inl f3)), (h1, .inr (6, [.int u47_0, .int u47_1, .int u47_2, .int u47_3, .int 0]))]) hP hD [0] [1, 2, 3, 4, 5, 6, 7, 8, 9] rfl rfl (by decide) (by decide) hk1 hFc hP1 hD1 rfl
                  have hK := (hK.sub (tys' := [(y1, .int), (y0, .int), (y2, .int), (y3, .long), (y4, .long), (y5, .int)]) [0, 1, 2, 3, 4, 5] rfl).app hK1
                  generalize H1 = H at hP hS ⊢
                  have hK : va_K (dC, dI) vwCl [(y1, .int), (y0, .int), (y2, .int), (y3, .long), (y4, .long), (y5, .int)] s := hK
                  refine lv_goto (tgt := 190) hx hb dX0_operand_123 (by decide) ?_
                  refine lv_iconst (v := 1) hx hb dX0_operand_190 (by decide) ?_
                  rw [hQ]
                  obtain ⟨hP9, hD9⟩ := nv_sub2 (wc := [(h0, .inr (0, [.ref h2, .ref h3, .ref h1, .ref h4, .ref h5, .ref h6, .ref h7, .int x2, .int u23_0, .int x4, .int x5, .int x6, .int u23_1, .int u23_2, .int u23_3, .int u23_4, .int u23_5])), (h2, .inr (10, [.ref h8, .ref h9, .ref h10, .ref h11, .ref h12, .ref h13, .int x12, .int x13, .int u23_6, .int x15, .int x16, .long z0])), (h8, .inl (y0, 2501, .inl f0)), (h9, .inl (y1, 2501, .inl f1)), (h10, .inl (y2, 2501, .inl f2)), (h11, .inl (y3, 2501, .inr (.inl g0))), (h6, .inr (4, [.ref h14, .ref h15, .ref h16, .int x17])), (h14, .inl (y4, 60, .inr (.inl g1))), (h15, .inl (y5, 60, .inl f3)), (h1, .inr (6, [.int u47_0, .int u47_1, .int u47_2, .int u47_3, .int 0]))]) hP hD [0, 1, 3, 2, 4, 5, 6, 7, 8, 9] (by decide) rfl
                  have hK9 := hK.sub (tys' := [(y0, .int), (y1, .int), (y2, .int), (y3, .long), (y4, .long), (y5, .int)]) [1, 0, 2, 3, 4, 5] rfl
                  exact W.zret (v := 1) hx hb hr rfl (fun t ht hW => ⟨⟨1, (u23_0, u23_1, u23_2, u23_3, u23_4, u23_5, u23_6, u47_0, u47_1, u47_2, u47_3, 0), rfl, ⟨iv_w (by decide : iv 1 1 1) (by decide) (by decide), iv_w iu23_0 (by decide) (by decide), iv_w j41 (by decide) (by decide), iv_w iu23_6 (by decide) (by decide), iv_w iu47_3 (by decide) (by decide), iv_w (by decide : iv 0 0 0) (by decide) (by decide), trivial⟩, by rw [ht]; exact hP9, va_K.moved hW.alike hK9, hD9⟩, hS.F ht⟩) hS.2.2 dX0_operand_191
          · skip
            subst c24
            refine lv_iconst (v := 0) hx hb dX0_operand_97 (by decide) ?_
            rw [hQ]
            obtain ⟨hP9, hD9⟩ := nv_sub2 (wc := [(h0, .inr (0, [.ref h2, .ref h3, .ref h1, .ref h4, .ref h5, .ref h6, .ref h7, .int x2, .int u23_0, .int x4, .int x5, .int x6, .int u23_1, .int u23_2, .int u23_3, .int u23_4, .int u23_5])), (h2, .inr (10, [.ref h8, .ref h9, .ref h10, .ref h11, .ref h12, .ref h13, .int x12, .int x13, .int u23_6, .int x15, .int x16, .long z0])), (h8, .inl (y0, 2501, .inl f0)), (h9, .inl (y1, 2501, .inl f1)), (h10, .inl (y2, 2501, .inl f2)), (h11, .inl (y3, 2501, .inr (.inl g0))), (h6, .inr (4, [.ref h14, .ref h15, .ref h16, .int x17])), (h14, .inl (y4, 60, .inr (.inl g1))), (h15, .inl (y5, 60, .inl f3)), (h1, .inr (6, [.int x18, .int x19, .int x20, .int x21, .int x22]))]) hP hD [1, 2, 4, 3, 5, 6, 7, 8, 9, 0] (by decide) rfl
            have hK9 := hK.sub (tys' := [(y0, .int), (y1, .int), (y2, .int), (y3, .long), (y4, .long), (y5, .int)]) [1, 0, 2, 3, 4, 5] rfl
            exact W.zret (v := 0) hx hb hr rfl (fun t ht hW => ⟨⟨0, (u23_0, u23_1, u23_2, u23_3, u23_4, u23_5, u23_6, x18, x19, x20, x21, x22), rfl, ⟨iv_w (by decide : iv 0 0 0) (by decide) (by decide), iv_w iu23_0 (by decide) (by decide), iv_w iu23_3 (by decide) (by decide), iv_w iu23_6 (by decide) (by decide), iv_w ix21 (by decide) (by decide), iv_w ix22 (by decide) (by decide), trivial⟩, by rw [ht]; exact hP9, va_K.moved hW.alike hK9, hD9⟩, hS.F ht⟩) hS.2.2 dX0_operand_98
        refine lv_if_ne (tgt := 83) hx hb dX0_operand_73 (by decide) (fun c11 => ?_) (fun c11 => ?_)
        · skip
          have j48 : iv b8 1 1 := iv_neLo ib8 (by decide : iv 0 0 0) c11 (by decide)
          refine lv_aload_n hx hb dX0_operand_83 rfl (lv_at hl 2 rfl) ?_
          refine va_get (D := (dC, dI)) (ci := 0) (v := .ref h2) (C := RX0) (T := TX0) (N := 17) hx hb hG inGX0 hown hK hP 0 rfl rfl 0 (by decide) (hG _ wd_321) (fun _ h9 => h9) rfl dX0_operand_84 ?_
          obtain ⟨hPc, hDc, hFc⟩ := nv_sub3 (wc := [(h2, .inr (10, [.ref h8, .ref h9, .ref h10, .ref h11, .ref h12, .ref h13, .int x12, .int x13, .int x14, .int x15, .int x16, .long z0]))]) hP hD hS hA [8] (by decide) rfl
          have hKc := hK.sub (tys' := []) [] rfl
          refine va_callv (va_runV (As := []) (rest := []) ⟨hx, hb, hml, hown, hG⟩ (cX10_skip_1 l dC dI h2 h8 h9 h10 h11 h12 h13 H.size x12 x13 x14 x15 x16 z0 ix12 ix13 ix14) (cwV 0 hG (gV wd_576 wd_577 wd_578 wd_11 wd_579) rfl rfl rfl (by decide +kernel) ⟨Nat.le_of_ble_eq_true rfl, Nat.le_of_ble_eq_true rfl⟩) ⟨fun a U g mk q => by obtain ⟨q0, q1, qP, qK, qD⟩ := q; exact ⟨q0, q1, qP, va_K.moved (u := U) (U := U.calling g mk a) (Vm.Alike.refl U.vm) qK, qD⟩, va_recv hKc hPc (ci := 10) (q0 := 0) rfl rfl, fun U hU hW => ⟨rfl, by rw [hU], by rw [hU]; exact hPc, va_K.moved hW.alike hKc, hDc.weaken (fun _ _ _ _ => trivial)⟩⟩ rfl rfl hl.1 rfl (lv_room (Nat.le_of_ble_eq_true rfl)) dX0_operand_87 ⟨by decide, by decide⟩) hS (fun q _ h => hFc q h) hFc (fun u50 t H1 locs ht hvm hw hB hz1 hk1 hS => ?_)
          obtain ⟨u50_0, rfl⟩ : ∃ z, z = u50 := ⟨_, rfl⟩
          have hw : iv u50_0 0 2500 ∧ True := hw
          obtain ⟨iu50_0, -⟩ := hw
          obtain ⟨hP1, hK1, hD1⟩ := hB
          rw [ht] at hP1
          have hK1 := va_K.moved hvm.symm hK1
          obtain ⟨hP, hD⟩ := nv_join (wf := [(h0, .inr (0, [.ref h2, .ref h3, .ref h1, .ref h4, .ref h5, .ref h6, .ref h7, .int x2, .int x3, .int x4, .int x5, .int x6, .int x7, .int x8, .int x9, .int x10, .int x11])), (h9, .inl (y1, 2501, .inl f1)), (h10, .inl (y2, 2501, .inl f2)), (h11, .inl (y3, 2501, .inr (.inl g0))), (h6, .inr (4, [.ref h14, .ref h15, .ref h16, .int x17])), (h14, .inl (y4, 60, .inr (.inl g1))), (h15, .inl (y5, 60, .inl f3)), (h1, .inr (6, [.int x18, .int x19, .int x20, .int x21, .int x22])), (h8, .inl (y0, 2501, .inl f0)), (h2, .inr (10, [.ref h8, .ref h9, .ref h10, .ref h11, .ref h12, .ref h13, .int x12, .int x13, .int u50_0, .int x15, .int x16, .long z0]))]) hP hD [8] [0, 1, 2, 3, 4, 5, 6, 7, 9] rfl rfl (by decide) (by decide) hk1 hFc hP1 hD1 rfl
          have hK := (hK.sub (tys' := [(y1, .int), (y2, .int), (y3, .long), (y4, .long), (y5, .int), (y0, .int)]) [0, 1, 2, 3, 4, 5] rfl).app hK1
          generalize H1 = H at hP hS ⊢
          have hK : va_K (dC, dI) vwCl [(y1, .int), (y2, .int), (y3, .long), (y4, .long), (y5, .int), (y0, .int)] s := hK
          exact j21 b8 b9 u50_0 (iv_w j48 (by decide) (by decide)) iu50_0 _ _ hK hP hD hS ls hl
        · skip
          subst c11
          refine lv_iload hx hb dX0_operand_76 (lv_at hl 1 rfl) ?_
          refine lv_bipush (v := 38) hx hb dX0_operand_78 (by decide) ?_
          refine lv_icmp_ne (tgt := 90) hx hb dX0_operand_80 (by decide) (fun c51 => ?_) (fun c51 => ?_)
          · skip
            exact j21 0 b9 x14 (iv_w (by decide : iv 0 0 0) (by decide) (by decide)) ix14 _ _ hK (hP.sub (ws' := _) [0, 1, 2, 3, 4, 5, 6, 7, 9, 8] rfl) (hD.sub (ws' := _) [0, 1, 2, 3, 4, 5, 6, 7, 9, 8] (by decide) rfl) hS ls hl
          · skip
            subst c51
            refine lv_aload_n hx hb dX0_operand_83 rfl (lv_at hl 2 rfl) ?_
            refine va_get (D := (dC, dI)) (ci := 0) (v := .ref h2) (C := RX0) (T := TX0) (N := 17) hx hb hG inGX0 hown hK hP 0 rfl rfl 0 (by decide) (hG _ wd_321) (fun _ h9 => h9) rfl dX0_operand_84 ?_
            obtain ⟨hPc, hDc, hFc⟩ := nv_sub3 (wc := [(h2, .inr (10, [.ref h8, .ref h9, .ref h10, .ref h11, .ref h12, .ref h13, .int x12, .int x13, .int x14, .int x15, .int x16, .long z0]))]) hP hD hS hA [8] (by decide) rfl
            have hKc := hK.sub (tys' := []) [] rfl
            refine va_callv (va_runV (As := []) (rest := []) ⟨hx, hb, hml, hown, hG⟩ (cX10_skip_1 l dC dI h2 h8 h9 h10 h11 h12 h13 H.size x12 x13 x14 x15 x16 z0 ix12 ix13 ix14) (cwV 0 hG (gV wd_576 wd_577 wd_578 wd_11 wd_579) rfl rfl rfl (by decide +kernel) ⟨Nat.le_of_ble_eq_true rfl, Nat.le_of_ble_eq_true rfl⟩) ⟨fun a U g mk q => by obtain ⟨q0, q1, qP, qK, qD⟩ := q; exact ⟨q0, q1, qP, va_K.moved (u := U) (U := U.calling g mk a) (Vm.Alike.refl U.vm) qK, qD⟩, va_recv hKc hPc (ci := 10) (q0 := 0) rfl rfl, fun U hU hW => ⟨rfl, by rw [hU], by rw [hU]; exact hPc, va_K.moved hW.alike hKc, hDc.weaken (fun _ _ _ _ => trivial)⟩⟩ rfl rfl hl.1 rfl (lv_room (Nat.le_of_ble_eq_true rfl)) dX0_operand_87 ⟨by decide, by decide⟩) hS (fun q _ h => hFc q h) hFc (fun u53 t H1 locs ht hvm hw hB hz1 hk1 hS => ?_)
            obtain ⟨u53_0, rfl⟩ : ∃ z, z = u53 := ⟨_, rfl⟩
            have hw : iv u53_0 0 2500 ∧ True := hw
            obtain ⟨iu53_0, -⟩ := hw
            obtain ⟨hP1, hK1, hD1⟩ := hB
            rw [ht] at hP1
            have hK1 := va_K.moved hvm.symm hK1
            obtain ⟨hP, hD⟩ := nv_join (wf := [(h0, .inr (0, [.ref h2, .ref h3, .ref h1, .ref h4, .ref h5, .ref h6, .ref h7, .int x2, .int x3, .int x4, .int x5, .int x6, .int x7, .int x8, .int x9, .int x10, .int x11])), (h9, .inl (y1, 2501, .inl f1)), (h10, .inl (y2, 2501, .inl f2)), (h11, .inl (y3, 2501, .inr (.inl g0))), (h6, .inr (4, [.ref h14, .ref h15, .ref h16, .int x17])), (h14, .inl (y4, 60, .inr (.inl g1))), (h15, .inl (y5, 60, .inl f3)), (h1, .inr (6, [.int x18, .int x19, .int x20, .int x21, .int x22])), (h8, .inl (y0, 2501, .inl f0)), (h2, .inr (10, [.ref h8, .ref h9, .ref h10, .ref h11, .ref h12, .ref h13, .int x12, .int x13, .int u53_0, .int x15, .int x16, .long z0]))]) hP hD [8] [0, 1, 2, 3, 4, 5, 6, 7, 9] rfl rfl (by decide) (by decide) hk1 hFc hP1 hD1 rfl
            have hK := (hK.sub (tys' := [(y1, .int), (y2, .int), (y3, .long), (y4, .long), (y5, .int), (y0, .int)]) [0, 1, 2, 3, 4, 5] rfl).app hK1
            generalize H1 = H at hP hS ⊢
            have hK : va_K (dC, dI) vwCl [(y1, .int), (y2, .int), (y3, .long), (y4, .long), (y5, .int), (y0, .int)] s := hK
            exact j21 0 38 u53_0 (iv_w (by decide : iv 0 0 0) (by decide) (by decide)) iu53_0 _ _ hK hP hD hS ls hl
      refine lv_icmp_ne (tgt := 68) hx hb dX0_operand_57 (by decide) (fun c5 => ?_) (fun c5 => ?_)
      · skip
        refine lv_iconst (v := 0) hx hb dX0_operand_68 (by decide) ?_
        exact j10 0 r1 (iv_w (by decide : iv 0 0 0) (by decide) (by decide)) _ _ hK hP hD hS ls (lv_sub hl [0, 1, 2, 4] rfl)
      · skip
        subst c5
        refine lv_iload_n hx hb dX0_operand_60 rfl (lv_at hl 3 rfl) ?_
        refine lv_if_eq (tgt := 68) hx hb dX0_operand_61 (by decide) (fun c54 => ?_) (fun c54 => ?_)
        · skip
          subst c54
          refine lv_iconst (v := 0) hx hb dX0_operand_68 (by decide) ?_
          exact j10 0 35 (iv_w (by decide : iv 0 0 0) (by decide) (by decide)) _ _ hK hP hD hS ls (lv_sub hl [0, 1, 2, 4] rfl)
        · skip
          have j55 : iv x0 1 1 := iv_neLo ix0 (by decide : iv 0 0 0) c54 (by decide)
          refine lv_iconst (v := 1) hx hb dX0_operand_64 (by decide) ?_
          refine lv_goto (tgt := 69) hx hb dX0_operand_65 (by decide) ?_
          exact j10 1 35 (iv_w (by decide : iv 1 1 1) (by decide) (by decide)) _ _ hK hP hD hS ls (lv_sub hl [0, 1, 2, 4] rfl)
    · skip
      subst c4
      refine lv_iload_n hx hb dX0_operand_43 rfl (lv_at hl 3 rfl) ?_
      refine lv_if_eq (tgt := 53) hx hb dX0_operand_44 (by decide) (fun c56 => ?_) (fun c56 => ?_)
      · skip
        subst c56
        refine lv_iload hx hb dX0_operand_53 (lv_at hl 0 rfl) ?_
        refine lv_bipush (v := 35) hx hb dX0_operand_55 (by decide) ?_
        refine lv_icmp_ne (tgt := 68) hx hb dX0_operand_57 (by decide) (fun _ => ?_) (fun c => absurd c (by decide))
        refine lv_iconst (v := 0) hx hb dX0_operand_68 (by decide) ?_
        refine lv_istore (lv' := [(5, .int 0), (4, .int 64), (0, .ref h0), (1, .ref h1), (2, .int 0), (3, .int x1)]) hx hb dX0_operand_69 hl (by decide) rfl (fun ls hl => ?_)
        refine lv_iload hx hb dX0_operand_71 (lv_at hl 0 rfl) ?_
        refine lv_if_ne (tgt := 83) hx hb dX0_operand_73 (by decide) (fun c => absurd (by decide) c) (fun _ => ?_)
        refine lv_iload hx hb dX0_operand_76 (lv_at hl 1 rfl) ?_
        refine lv_bipush (v := 38) hx hb dX0_operand_78 (by decide) ?_
        refine lv_icmp_ne (tgt := 90) hx hb dX0_operand_80 (by decide) (fun _ => ?_) (fun c => absurd c (by decide))
        refine lv_aload_n hx hb dX0_operand_90 rfl (lv_at hl 2 rfl) ?_
        obtain ⟨hPc, hDc, hFc⟩ := nv_sub3 (wc := [(h0, .inr (0, [.ref h2, .ref h3, .ref h1, .ref h4, .ref h5, .ref h6, .ref h7, .int x2, .int x3, .int x4, .int x5, .int x6, .int x7, .int x8, .int x9, .int x10, .int x11])), (h2, .inr (10, [.ref h8, .ref h9, .ref h10, .ref h11, .ref h12, .ref h13, .int x12, .int x13, .int x14, .int x15, .int x16, .long z0])), (h9, .inl (y1, 2501, .inl f1)), (h8, .inl (y0, 2501, .inl f0)), (h10, .inl (y2, 2501, .inl f2)), (h11, .inl (y3, 2501, .inr (.inl g0))), (h6, .inr (4, [.ref h14, .ref h15, .ref h16, .int x17])), (h14, .inl (y4, 60, .inr (.inl g1))), (h15, .inl (y5, 60, .inl f3))]) hP hD hS hA [0, 8, 1, 9, 2, 3, 4, 5, 6] (by decide) rfl
        have hKc := hK.sub (tys' := [(y1, .int), (y0, .int), (y2, .int), (y3, .long), (y4, .long), (y5, .int)]) [0, 5, 1, 2, 3, 4] rfl
        refine va_calli (va_runV (As := []) (rest := []) ⟨hx, hb, hml, hown, hG⟩ (cX0_expression_1 l dC dI h0 h2 h3 h1 h4 h5 h6 h7 h8 h9 h10 h11 h12 h13 h14 h15 h16 y1 y0 y2 y3 y4 y5 H.size x2 x3 x4 x5 x6 x7 x8 x9 x10 x11 x12 x13 x14 x15 x16 x17 z0 f1 f0 f2 f3 g0 g1 ix2 ix3 ix9 ix12 ix13 ix14 ix17) (cwV 0 hG (gV wd_592 wd_594 wp_12 wd_8 wd_595) rfl rfl rfl (by decide +kernel) ⟨Nat.le_of_ble_eq_true rfl, Nat.le_of_ble_eq_true rfl⟩) ⟨fun a U g mk q => by obtain ⟨q0, q1, qP, qK, qD⟩ := q; exact ⟨q0, q1, qP, va_K.moved (u := U) (U := U.calling g mk a) (Vm.Alike.refl U.vm) qK, qD⟩, va_recv hKc hPc (ci := 0) (q0 := 0) rfl rfl, fun U hU hW => ⟨rfl, by rw [hU], by rw [hU]; exact hPc, va_K.moved hW.alike hKc, hDc.weaken (fun _ _ _ _ => trivial)⟩⟩ rfl rfl hl.1 rfl (lv_room (Nat.le_of_ble_eq_true rfl)) dX0_operand_91 ⟨by decide, by decide⟩) hS (fun q _ h => hFc q h) hFc (fun r57 u58 t H1 locs ht hvm hw hB hz1 hk1 hS => ?_)
        obtain ⟨u58_0, u58_1, u58_2, u58_3, u58_4, u58_5, u58_6⟩ := u58
        have hw : iv r57 0 1 ∧ iv u58_0 0 1 ∧ iv u58_3 0 1 ∧ iv u58_6 0 2500 ∧ True := hw
        obtain ⟨ir57, iu58_0, iu58_3, iu58_6, -⟩ := hw
        obtain ⟨hP1, hK1, hD1⟩ := hB
        rw [ht] at hP1
        have hK1 := va_K.moved hvm.symm hK1
        obtain ⟨hP, hD⟩ := nv_join (wf := [(h1, .inr (6, [.int x18, .int x19, .int x20, .int x21, .int x22])), (h0, .inr (0, [.ref h2, .ref h3, .ref h1, .ref h4, .ref h5, .ref h6, .ref h7, .int x2, .int u58_0, .int x4, .int x5, .int x6, .int u58_1, .int u58_2, .int u58_3, .int u58_4, .int u58_5])), (h2, .inr (10, [.ref h8, .ref h9, .ref h10, .ref h11, .ref h12, .ref h13, .int x12, .int x13, .int u58_6, .int x15, .int x16, .long z0])), (h9, .inl (y1, 2501, .inl f1)), (h8, .inl (y0, 2501, .inl f0)), (h10, .inl (y2, 2501, .inl f2)), (h11, .inl (y3, 2501, .inr (.inl g0))), (h6, .inr (4, [.ref h14, .ref h15, .ref h16, .int x17])), (h14, .inl (y4, 60, .inr (.inl g1))), (h15, .inl (y5, 60, .inl f3))]) hP hD [0, 8, 1, 9, 2, 3, 4, 5, 6] [7] rfl rfl (by decide) (by decide) hk1 hFc hP1 hD1 rfl
        have hK := (hK.sub (tys' := []) [] rfl).app hK1
        generalize H1 = H at hP hS ⊢
        have hK : va_K (dC, dI) vwCl [(y1, .int), (y0, .int), (y2, .int), (y3, .long), (y4, .long), (y5, .int)] s := hK
        refine lv_if_ne (tgt := 99) hx hb dX0_operand_94 (by decide) (fun c59 => ?_) (fun c59 => ?_)
        · skip
          have j60 : iv r57 1 1 := iv_neLo ir57 (by decide : iv 0 0 0) c59 (by decide)
          refine lv_iload hx hb dX0_operand_99 (lv_at hl 0 rfl) ?_
          refine lv_if_eq (tgt := 126) hx hb dX0_operand_101 (by decide) (fun _ => ?_) (fun c => absurd (by decide) c)
          refine lv_iload hx hb dX0_operand_126 (lv_at hl 0 rfl) ?_
          refine lv_if_eq (tgt := 144) hx hb dX0_operand_128 (by decide) (fun _ => ?_) (fun c => absurd (by decide) c)
          refine lv_iload hx hb dX0_operand_144 (lv_at hl 1 rfl) ?_
          refine lv_bipush (v := 38) hx hb dX0_operand_146 (by decide) ?_
          refine lv_icmp_ne (tgt := 164) hx hb dX0_operand_148 (by decide) (fun _ => ?_) (fun c => absurd c (by decide))
          refine lv_aload_n hx hb dX0_operand_164 rfl (lv_at hl 2 rfl) ?_
          refine va_get (D := (dC, dI)) (ci := 0) (v := .ref h2) (C := RX0) (T := TX0) (N := 17) hx hb hG inGX0 hown hK hP 1 rfl rfl 0 (by decide) (hG _ wd_321) (fun _ h9 => h9) rfl dX0_operand_165 ?_
          obtain ⟨hPc, hDc, hFc⟩ := nv_sub3 (wc := [(h2, .inr (10, [.ref h8, .ref h9, .ref h10, .ref h11, .ref h12, .ref h13, .int x12, .int x13, .int u58_6, .int x15, .int x16, .long z0])), (h8, .inl (y0, 2501, .inl f0))]) hP hD hS hA [2, 4] (by decide) rfl
          have hKc := hK.sub (tys' := [(y0, .int)]) [1] rfl
          refine va_calli (va_runV (As := []) (rest := []) ⟨hx, hb, hml, hown, hG⟩ (cX10_kind_1 l dC dI h2 h8 h9 h10 h11 h12 h13 y0 H.size x12 x13 u58_6 x15 x16 z0 f0 ix12 ix13 iu58_6) (cwV 0 hG (gV wd_556 wd_557 wd_558 wd_11 wd_559) rfl rfl rfl (by decide +kernel) ⟨Nat.le_of_ble_eq_true rfl, Nat.le_of_ble_eq_true rfl⟩) ⟨fun a U g mk q => by obtain ⟨q0, q1, qP, qK, qD⟩ := q; exact ⟨q0, q1, qP, va_K.moved (u := U) (U := U.calling g mk a) (Vm.Alike.refl U.vm) qK, qD⟩, va_recv hKc hPc (ci := 10) (q0 := 0) rfl rfl, fun U hU hW => ⟨rfl, by rw [hU], by rw [hU]; exact hPc, va_K.moved hW.alike hKc, hDc.weaken (fun _ _ _ _ => trivial)⟩⟩ rfl rfl hl.1 rfl (lv_room (Nat.le_of_ble_eq_true rfl)) dX0_operand_168 ⟨by decide, by decide⟩) hS (fun q _ h => hFc q h) hFc (fun r61 u62 t H1 locs ht hvm hw hB hz1 hk1 hS => ?_)
          obtain ⟨hP1, hK1, hD1⟩ := hB
          rw [ht] at hP1
          have hK1 := va_K.moved hvm.symm hK1
          obtain ⟨hP, hD⟩ := nv_join (wf := [(h1, .inr (6, [.int x18, .int x19, .int x20, .int x21, .int x22])), (h0, .inr (0, [.ref h2, .ref h3, .ref h1, .ref h4, .ref h5, .ref h6, .ref h7, .int x2, .int u58_0, .int x4, .int x5, .int x6, .int u58_1, .int u58_2, .int u58_3, .int u58_4, .int u58_5])), (h9, .inl (y1, 2501, .inl f1)), (h10, .inl (y2, 2501, .inl f2)), (h11, .inl (y3, 2501, .inr (.inl g0))), (h6, .inr (4, [.ref h14, .ref h15, .ref h16, .int x17])), (h14, .inl (y4, 60, .inr (.inl g1))), (h15, .inl (y5, 60, .inl f3)), (h2, .inr (10, [.ref h8, .ref h9, .ref h10, .ref h11, .ref h12, .ref h13, .int x12, .int x13, .int u58_6, .int x15, .int x16, .long z0])), (h8, .inl (y0, 2501, .inl f0))]) hP hD [2, 4] [0, 1, 3, 5, 6, 7, 8, 9] rfl rfl (by decide) (by decide) hk1 hFc hP1 hD1 rfl
          have hK := (hK.sub (tys' := [(y1, .int), (y2, .int), (y3, .long), (y4, .long), (y5, .int)]) [0, 2, 3, 4, 5] rfl).app hK1
          generalize H1 = H at hP hS ⊢
          have hK : va_K (dC, dI) vwCl [(y1, .int), (y2, .int), (y3, .long), (y4, .long), (y5, .int), (y0, .int)] s := hK
          refine lv_bipush (v := 40) hx hb dX0_operand_171 (by decide) ?_
          refine lv_icmp_ne (tgt := 182) hx hb dX0_operand_173 (by decide) (fun c63 => ?_) (fun c63 => ?_)
          · skip
            refine lv_aload_n hx hb dX0_operand_182 rfl (lv_at hl 3 rfl) ?_
            refine lv_aload_n hx hb dX0_operand_183 rfl (lv_at hl 2 rfl) ?_
            refine va_get (D := (dC, dI)) (ci := 0) (v := .int u58_1) (C := RX0) (T := TX0) (N := 17) hx hb hG inGX0 hown hK hP 1 rfl rfl 12 (by decide) (hG _ wd_333) (fun _ h9 => h9) rfl dX0_operand_184 ?_
            obtain ⟨hPc, hDc, hFc⟩ := nv_sub3 (wc := [(h1, .inr (6, [.int x18, .int x19, .int x20, .int x21, .int x22]))]) hP hD hS hA [0] (by decide) rfl
            have hKc := hK.sub (tys' := []) [] rfl
            refine va_callv (va_runV (As := [.int u58_1]) (rest := []) ⟨hx, hb, hml, hown, hG⟩ (cX6_takeSymbolic_1 l dC dI h1 H.size u58_1 x18 x19 x20 x21 x22 ix21 ix22) (cwV 1 hG (gV wd_653 wd_654 wd_655 wd_9 wd_656) rfl rfl rfl (by decide +kernel) ⟨Nat.le_of_ble_eq_true rfl, Nat.le_of_ble_eq_true rfl⟩) ⟨fun a U g mk q => by obtain ⟨q0, q1, qP, qK, qD⟩ := q; exact ⟨q0, q1, qP, va_K.moved (u := U) (U := U.calling g mk a) (Vm.Alike.refl U.vm) qK, qD⟩, va_recv hKc hPc (ci := 6) (q0 := 0) rfl rfl, fun U hU hW => ⟨rfl, by rw [hU], by rw [hU]; exact hPc, va_K.moved hW.alike hKc, hDc.weaken (fun _ _ _ _ => trivial)⟩⟩ rfl rfl hl.1 rfl (lv_room (Nat.le_of_ble_eq_true rfl)) dX0_operand_187 ⟨by decide, by decide⟩) hS (fun q _ h => hFc q h) hFc (fun u65 t H1 locs ht hvm hw hB hz1 hk1 hS => ?_)
            obtain ⟨hP1, hK1, hD1⟩ := hB
            rw [ht] at hP1
            have hK1 := va_K.moved hvm.symm hK1
            obtain ⟨hP, hD⟩ := nv_join (wf := [(h0, .inr (0, [.ref h2, .ref h3, .ref h1, .ref h4, .ref h5, .ref h6, .ref h7, .int x2, .int u58_0, .int x4, .int x5, .int x6, .int u58_1, .int u58_2, .int u58_3, .int u58_4, .int u58_5])), (h9, .inl (y1, 2501, .inl f1)), (h10, .inl (y2, 2501, .inl f2)), (h11, .inl (y3, 2501, .inr (.inl g0))), (h6, .inr (4, [.ref h14, .ref h15, .ref h16, .int x17])), (h14, .inl (y4, 60, .inr (.inl g1))), (h15, .inl (y5, 60, .inl f3)), (h2, .inr (10, [.ref h8, .ref h9, .ref h10, .ref h11, .ref h12, .ref h13, .int x12, .int x13, .int u58_6, .int x15, .int x16, .long z0])), (h8, .inl (y0, 2501, .inl f0)), (h1, .inr (6, [.int 1, .int 0, .int u58_1, .int 1, .int 1]))]) hP hD [0] [1, 2, 3, 4, 5, 6, 7, 8, 9] rfl rfl (by decide) (by decide) hk1 hFc hP1 hD1 rfl
            have hK := (hK.sub (tys' := [(y1, .int), (y2, .int), (y3, .long), (y4, .long), (y5, .int), (y0, .int)]) [0, 1, 2, 3, 4, 5] rfl).app hK1
            generalize H1 = H at hP hS ⊢
            have hK : va_K (dC, dI) vwCl [(y1, .int), (y2, .int), (y3, .long), (y4, .long), (y5, .int), (y0, .int)] s := hK
            refine lv_iconst (v := 1) hx hb dX0_operand_190 (by decide) ?_
            rw [hQ]
            obtain ⟨hP9, hD9⟩ := nv_sub2 (wc := [(h0, .inr (0, [.ref h2, .ref h3, .ref h1, .ref h4, .ref h5, .ref h6, .ref h7, .int x2, .int u58_0, .int x4, .int x5, .int x6, .int u58_1, .int u58_2, .int u58_3, .int u58_4, .int u58_5])), (h2, .inr (10, [.ref h8, .ref h9, .ref h10, .ref h11, .ref h12, .ref h13, .int x12, .int x13, .int u58_6, .int x15, .int x16, .long z0])), (h8, .inl (y0, 2501, .inl f0)), (h9, .inl (y1, 2501, .inl f1)), (h10, .inl (y2, 2501, .inl f2)), (h11, .inl (y3, 2501, .inr (.inl g0))), (h6, .inr (4, [.ref h14, .ref h15, .ref h16, .int x17])), (h14, .inl (y4, 60, .inr (.inl g1))), (h15, .inl (y5, 60, .inl f3)), (h1, .inr (6, [.int 1, .int 0, .int u58_1, .int 1, .int 1]))]) hP hD [0, 7, 8, 1, 2, 3, 4, 5, 6, 9] (by decide) rfl
            have hK9 := hK.sub (tys' := [(y0, .int), (y1, .int), (y2, .int), (y3, .long), (y4, .long), (y5, .int)]) [5, 0, 1, 2, 3, 4] rfl
            exact W.zret (v := 1) hx hb hr rfl (fun t ht hW => ⟨⟨1, (u58_0, u58_1, u58_2, u58_3, u58_4, u58_5, u58_6, 1, 0, u58_1, 1, 1), rfl, ⟨iv_w (by decide : iv 1 1 1) (by decide) (by decide), iv_w iu58_0 (by decide) (by decide), iv_w iu58_3 (by decide) (by decide), iv_w iu58_6 (by decide) (by decide), iv_w (by decide : iv 1 1 1) (by decide) (by decide), iv_w (by decide : iv 1 1 1) (by decide) (by decide), trivial⟩, by rw [ht]; exact hP9, va_K.moved hW.alike hK9, hD9⟩, hS.F ht⟩) hS.2.2 dX0_operand_191
          · skip
            subst c63
            refine lv_aload_n hx hb dX0_operand_176 rfl (lv_at hl 2 rfl) ?_
            refine lv_aload_n hx hb dX0_operand_177 rfl (lv_at hl 3 rfl) ?_
            obtain ⟨hPc, hDc, hFc⟩ := nv_sub3 (wc := [(h0, .inr (0, [.ref h2, .ref h3, .ref h1, .ref h4, .ref h5, .ref h6, .ref h7, .int x2, .int u58_0, .int x4, .int x5, .int x6, .int u58_1, .int u58_2, .int u58_3, .int u58_4, .int u58_5])), (h2, .inr (10, [.ref h8, .ref h9, .ref h10, .ref h11, .ref h12, .ref h13, .int x12, .int x13, .int u58_6, .int x15, .int x16, .long z0])), (h8, .inl (y0, 2501, .inl f0)), (h10, .inl (y2, 2501, .inl f2)), (h1, .inr (6, [.int x18, .int x19, .int x20, .int x21, .int x22])), (h9, .inl (y1, 2501, .inl f1))]) hP hD hS hA [1, 8, 9, 3, 0, 2] (by decide) rfl
            have hKc := hK.sub (tys' := [(y0, .int), (y2, .int), (y1, .int)]) [5, 1, 0] rfl
            refine va_calli (va_runV (As := [.ref h1]) (rest := []) ⟨hx, hb, hml, hown, hG⟩ (cX0_indexed_1 l dC dI h0 h1 h2 h3 h4 h5 h6 h7 h8 h9 h10 h11 h12 h13 y0 y2 y1 H.size x2 u58_0 x4 x5 x6 u58_1 u58_2 u58_3 u58_4 u58_5 x12 x13 u58_6 x15 x16 x18 x19 x20 x21 x22 z0 f0 f2 f1 ix2 iu58_0 iu58_3 ix12 ix13 iu58_6 ix21 ix22) (cwV 1 hG (gV wd_649 wd_651 wp_21 wd_8 wd_652) rfl rfl rfl (by decide +kernel) ⟨Nat.le_of_ble_eq_true rfl, Nat.le_of_ble_eq_true rfl⟩) ⟨fun a U g mk q => by obtain ⟨q0, q1, qP, qK, qD⟩ := q; exact ⟨q0, q1, qP, va_K.moved (u := U) (U := U.calling g mk a) (Vm.Alike.refl U.vm) qK, qD⟩, va_recv hKc hPc (ci := 0) (q0 := 0) rfl rfl, fun U hU hW => ⟨rfl, by rw [hU], by rw [hU]; exact hPc, va_K.moved hW.alike hKc, hDc.weaken (fun _ _ _ _ => trivial)⟩⟩ rfl rfl hl.1 rfl (lv_room (Nat.le_of_ble_eq_true rfl)) dX0_operand_178 ⟨by decide, by decide⟩) hS (fun q _ h => hFc q h) hFc (fun r66 u67 t H1 locs ht hvm hw hB hz1 hk1 hS => ?_)
            obtain ⟨u67_0, u67_1, u67_2, u67_3, u67_4, u67_5, u67_6, u67_7⟩ := u67
            have hw : iv r66 0 1 ∧ iv u67_2 0 2500 ∧ iv u67_6 0 1 ∧ iv u67_7 0 1 ∧ True := hw
            obtain ⟨ir66, iu67_2, iu67_6, iu67_7, -⟩ := hw
            obtain ⟨hP1, hK1, hD1⟩ := hB
            rw [ht] at hP1
            have hK1 := va_K.moved hvm.symm hK1
            obtain ⟨hP, hD⟩ := nv_join (wf := [(h11, .inl (y3, 2501, .inr (.inl g0))), (h6, .inr (4, [.ref h14, .ref h15, .ref h16, .int x17])), (h14, .inl (y4, 60, .inr (.inl g1))), (h15, .inl (y5, 60, .inl f3)), (h0, .inr (0, [.ref h2, .ref h3, .ref h1, .ref h4, .ref h5, .ref h6, .ref h7, .int x2, .int u58_0, .int x4, .int x5, .int x6, .int u58_1, .int u58_2, .int u58_3, .int u67_0, .int u67_1])), (h2, .inr (10, [.ref h8, .ref h9, .ref h10, .ref h11, .ref h12, .ref h13, .int x12, .int x13, .int u67_2, .int x15, .int x16, .long z0])), (h8, .inl (y0, 2501, .inl f0)), (h10, .inl (y2, 2501, .inl f2)), (h1, .inr (6, [.int u67_3, .int u67_4, .int u67_5, .int u67_6, .int u67_7])), (h9, .inl (y1, 2501, .inl f1))]) hP hD [1, 8, 9, 3, 0, 2] [4, 5, 6, 7] rfl rfl (by decide) (by decide) hk1 hFc hP1 hD1 rfl
            have hK := (hK.sub (tys' := [(y3, .long), (y4, .long), (y5, .int)]) [2, 3, 4] rfl).app hK1
            generalize H1 = H at hP hS ⊢
            have hK : va_K (dC, dI) vwCl [(y3, .long), (y4, .long), (y5, .int), (y0, .int), (y2, .int), (y1, .int)] s := hK
            rw [hQ]
            obtain ⟨hP9, hD9⟩ := nv_sub2 (wc := [(h0, .inr (0, [.ref h2, .ref h3, .ref h1, .ref h4, .ref h5, .ref h6, .ref h7, .int x2, .int u58_0, .int x4, .int x5, .int x6, .int u58_1, .int u58_2, .int u58_3, .int u67_0, .int u67_1])), (h2, .inr (10, [.ref h8, .ref h9, .ref h10, .ref h11, .ref h12, .ref h13, .int x12, .int x13, .int u67_2, .int x15, .int x16, .long z0])), (h8, .inl (y0, 2501, .inl f0)), (h9, .inl (y1, 2501, .inl f1)), (h10, .inl (y2, 2501, .inl f2)), (h11, .inl (y3, 2501, .inr (.inl g0))), (h6, .inr (4, [.ref h14, .ref h15, .ref h16, .int x17])), (h14, .inl (y4, 60, .inr (.inl g1))), (h15, .inl (y5, 60, .inl f3)), (h1, .inr (6, [.int u67_3, .int u67_4, .int u67_5, .int u67_6, .int u67_7]))]) hP hD [4, 5, 6, 9, 7, 0, 1, 2, 3, 8] (by decide) rfl
            have hK9 := hK.sub (tys' := [(y0, .int), (y1, .int), (y2, .int), (y3, .long), (y4, .long), (y5, .int)]) [3, 5, 4, 0, 1, 2] rfl
            exact W.zret (v := r66) hx hb hr (iv_z (iv_w ir66 (by decide) (by decide))).1 (fun t ht hW => ⟨⟨r66, (u58_0, u58_1, u58_2, u58_3, u67_0, u67_1, u67_2, u67_3, u67_4, u67_5, u67_6, u67_7), rfl, ⟨iv_w ir66 (by decide) (by decide), iv_w iu58_0 (by decide) (by decide), iv_w iu58_3 (by decide) (by decide), iv_w iu67_2 (by decide) (by decide), iv_w iu67_6 (by decide) (by decide), iv_w iu67_7 (by decide) (by decide), trivial⟩, by rw [ht]; exact hP9, va_K.moved hW.alike hK9, hD9⟩, hS.F ht⟩) hS.2.2 dX0_operand_181
        · skip
          subst c59
          refine lv_iconst (v := 0) hx hb dX0_operand_97 (by decide) ?_
          rw [hQ]
          obtain ⟨hP9, hD9⟩ := nv_sub2 (wc := [(h0, .inr (0, [.ref h2, .ref h3, .ref h1, .ref h4, .ref h5, .ref h6, .ref h7, .int x2, .int u58_0, .int x4, .int x5, .int x6, .int u58_1, .int u58_2, .int u58_3, .int u58_4, .int u58_5])), (h2, .inr (10, [.ref h8, .ref h9, .ref h10, .ref h11, .ref h12, .ref h13, .int x12, .int x13, .int u58_6, .int x15, .int x16, .long z0])), (h8, .inl (y0, 2501, .inl f0)), (h9, .inl (y1, 2501, .inl f1)), (h10, .inl (y2, 2501, .inl f2)), (h11, .inl (y3, 2501, .inr (.inl g0))), (h6, .inr (4, [.ref h14, .ref h15, .ref h16, .int x17])), (h14, .inl (y4, 60, .inr (.inl g1))), (h15, .inl (y5, 60, .inl f3)), (h1, .inr (6, [.int x18, .int x19, .int x20, .int x21, .int x22]))]) hP hD [1, 2, 4, 3, 5, 6, 7, 8, 9, 0] (by decide) rfl
          have hK9 := hK.sub (tys' := [(y0, .int), (y1, .int), (y2, .int), (y3, .long), (y4, .long), (y5, .int)]) [1, 0, 2, 3, 4, 5] rfl
          exact W.zret (v := 0) hx hb hr rfl (fun t ht hW => ⟨⟨0, (u58_0, u58_1, u58_2, u58_3, u58_4, u58_5, u58_6, x18, x19, x20, x21, x22), rfl, ⟨iv_w (by decide : iv 0 0 0) (by decide) (by decide), iv_w iu58_0 (by decide) (by decide), iv_w iu58_3 (by decide) (by decide), iv_w iu58_6 (by decide) (by decide), iv_w ix21 (by decide) (by decide), iv_w ix22 (by decide) (by decide), trivial⟩, by rw [ht]; exact hP9, va_K.moved hW.alike hK9, hD9⟩, hS.F ht⟩) hS.2.2 dX0_operand_98
      · skip
        have j68 : iv x0 1 1 := iv_neLo ix0 (by decide : iv 0 0 0) c56 (by decide)
        refine lv_aload_n hx hb dX0_operand_47 rfl (lv_at hl 1 rfl) ?_
        refine lv_aload_n hx hb dX0_operand_48 rfl (lv_at hl 2 rfl) ?_
        obtain ⟨hPc, hDc, hFc⟩ := nv_sub3 (wc := [(h0, .inr (0, [.ref h2, .ref h3, .ref h1, .ref h4, .ref h5, .ref h6, .ref h7, .int x2, .int x3, .int x4, .int x5, .int x6, .int x7, .int x8, .int x9, .int x10, .int x11])), (h2, .inr (10, [.ref h8, .ref h9, .ref h10, .ref h11, .ref h12, .ref h13, .int x12, .int x13, .int x14, .int x15, .int x16, .long z0])), (h8, .inl (y0, 2501, .inl f0)), (h10, .inl (y2, 2501, .inl f2)), (h1, .inr (6, [.int x18, .int x19, .int x20, .int x21, .int x22])), (h9, .inl (y1, 2501, .inl f1))]) hP hD hS hA [0, 8, 9, 2, 7, 1] (by decide) rfl
        have hKc := hK.sub (tys' := [(y0, .int), (y2, .int), (y1, .int)]) [5, 1, 0] rfl
        refine va_calli (va_runV (As := [.ref h1]) (rest := []) ⟨hx, hb, hml, hown, hG⟩ (cX0_through_1 l dC dI h0 h1 h2 h3 h4 h5 h6 h7 h8 h9 h10 h11 h12 h13 y0 y2 y1 H.size x2 x3 x4 x5 x6 x7 x8 x9 x10 x11 x12 x13 x14 x15 x16 x18 x19 x20 x21 x22 z0 f0 f2 f1 ix2 ix3 ix9 ix12 ix13 ix14 ix21 ix22) (cwV 1 hG (gV wd_630 wd_632 wp_20 wd_8 wd_633) rfl rfl rfl (by decide +kernel) ⟨Nat.le_of_ble_eq_true rfl, Nat.le_of_ble_eq_true rfl⟩) ⟨fun a U g mk q => by obtain ⟨q0, q1, qP, qK, qD⟩ := q; exact ⟨q0, q1, qP, va_K.moved (u := U) (U := U.calling g mk a) (Vm.Alike.refl U.vm) qK, qD⟩, va_recv hKc hPc (ci := 0) (q0 := 0) rfl rfl, fun U hU hW => ⟨rfl, by rw [hU], by rw [hU]; exact hPc, va_K.moved hW.alike hKc, hDc.weaken (fun _ _ _ _ => trivial)⟩⟩ rfl rfl hl.1 rfl (lv_room (Nat.le_of_ble_eq_true rfl)) dX0_operand_49 ⟨by decide, by decide⟩) hS (fun q _ h => hFc q h) hFc (fun r69 u70 t H1 locs ht hvm hw hB hz1 hk1 hS => ?_)
        obtain ⟨u70_0, u70_1, u70_2, u70_3, u70_4, u70_5, u70_6, u70_7⟩ := u70
        have hw : iv r69 0 1 ∧ iv u70_2 0 2500 ∧ iv u70_6 0 1 ∧ iv u70_7 0 1 ∧ True := hw
        obtain ⟨ir69, iu70_2, iu70_6, iu70_7, -⟩ := hw
        obtain ⟨hP1, hK1, hD1⟩ := hB
        rw [ht] at hP1
        have hK1 := va_K.moved hvm.symm hK1
        obtain ⟨hP, hD⟩ := nv_join (wf := [(h11, .inl (y3, 2501, .inr (.inl g0))), (h6, .inr (4, [.ref h14, .ref h15, .ref h16, .int x17])), (h14, .inl (y4, 60, .inr (.inl g1))), (h15, .inl (y5, 60, .inl f3)), (h0, .inr (0, [.ref h2, .ref h3, .ref h1, .ref h4, .ref h5, .ref h6, .ref h7, .int x2, .int x3, .int x4, .int x5, .int x6, .int x7, .int x8, .int x9, .int u70_0, .int u70_1])), (h2, .inr (10, [.ref h8, .ref h9, .ref h10, .ref h11, .ref h12, .ref h13, .int x12, .int x13, .int u70_2, .int x15, .int x16, .long z0])), (h8, .inl (y0, 2501, .inl f0)), (h10, .inl (y2, 2501, .inl f2)), (h1, .inr (6, [.int u70_3, .int u70_4, .int u70_5, .int u70_6, .int u70_7])), (h9, .inl (y1, 2501, .inl f1))]) hP hD [0, 8, 9, 2, 7, 1] [3, 4, 5, 6] rfl rfl (by decide) (by decide) hk1 hFc hP1 hD1 rfl
        have hK := (hK.sub (tys' := [(y3, .long), (y4, .long), (y5, .int)]) [2, 3, 4] rfl).app hK1
        generalize H1 = H at hP hS ⊢
        have hK : va_K (dC, dI) vwCl [(y3, .long), (y4, .long), (y5, .int), (y0, .int), (y2, .int), (y1, .int)] s := hK
        rw [hQ]
        obtain ⟨hP9, hD9⟩ := nv_sub2 (wc := [(h0, .inr (0, [.ref h2, .ref h3, .ref h1, .ref h4, .ref h5, .ref h6, .ref h7, .int x2, .int x3, .int x4, .int x5, .int x6, .int x7, .int x8, .int x9, .int u70_0, .int u70_1])), (h2, .inr (10, [.ref h8, .ref h9, .ref h10, .ref h11, .ref h12, .ref h13, .int x12, .int x13, .int u70_2, .int x15, .int x16, .long z0])), (h8, .inl (y0, 2501, .inl f0)), (h9, .inl (y1, 2501, .inl f1)), (h10, .inl (y2, 2501, .inl f2)), (h11, .inl (y3, 2501, .inr (.inl g0))), (h6, .inr (4, [.ref h14, .ref h15, .ref h16, .int x17])), (h14, .inl (y4, 60, .inr (.inl g1))), (h15, .inl (y5, 60, .inl f3)), (h1, .inr (6, [.int u70_3, .int u70_4, .int u70_5, .int u70_6, .int u70_7]))]) hP hD [4, 5, 6, 9, 7, 0, 1, 2, 3, 8] (by decide) rfl
        have hK9 := hK.sub (tys' := [(y0, .int), (y1, .int), (y2, .int), (y3, .long), (y4, .long), (y5, .int)]) [3, 5, 4, 0, 1, 2] rfl
        exact W.zret (v := r69) hx hb hr (iv_z (iv_w ir69 (by decide) (by decide))).1 (fun t ht hW => ⟨⟨r69, (x3, x7, x8, x9, u70_0, u70_1, u70_2, u70_3, u70_4, u70_5, u70_6, u70_7), rfl, ⟨iv_w ir69 (by decide) (by decide), iv_w ix3 (by decide) (by decide), iv_w ix9 (by decide) (by decide), iv_w iu70_2 (by decide) (by decide), iv_w iu70_6 (by decide) (by decide), iv_w iu70_7 (by decide) (by decide), trivial⟩, by rw [ht]; exact hP9, va_K.moved hW.alike hK9, hD9⟩, hS.F ht⟩) hS.2.2 dX0_operand_52
  · skip
    subst c3
    refine lv_aload_n hx hb dX0_operand_15 rfl (lv_at hl 2 rfl) ?_
    refine lv_iconst (v := 0) hx hb dX0_operand_16 (by decide) ?_
    refine lv_aload_n hx hb dX0_operand_17 rfl (lv_at hl 1 rfl) ?_
    refine va_get (D := (dC, dI)) (ci := 0) (v := .ref h2) (C := RX0) (T := TX0) (N := 17) hx hb hG inGX0 hown hK hP 0 rfl rfl 0 (by decide) (hG _ wd_321) (fun _ h9 => h9) rfl dX0_operand_18 ?_
    obtain ⟨hPc, hDc, hFc⟩ := nv_sub3 (wc := [(h2, .inr (10, [.ref h8, .ref h9, .ref h10, .ref h11, .ref h12, .ref h13, .int x12, .int x13, .int x14, .int x15, .int x16, .long z0])), (h10, .inl (y2, 2501, .inl f2))]) hP hD hS hA [8, 2] (by decide) rfl
    have hKc := hK.sub (tys' := [(y2, .int)]) [1] rfl
    refine va_calli (va_runV (As := []) (rest := [.int 0, .ref h1]) ⟨hx, hb, hml, hown, hG⟩ (cX10_value_1 l dC dI h2 h8 h9 h10 h11 h12 h13 y2 H.size x12 x13 x14 x15 x16 z0 f2 ix12 ix13 ix14) (cwV 0 hG (gV wd_584 wd_585 wd_586 wd_11 wd_587) rfl rfl rfl (by decide +kernel) ⟨Nat.le_of_ble_eq_true rfl, Nat.le_of_ble_eq_true rfl⟩) ⟨fun a U g mk q => by obtain ⟨q0, q1, qP, qK, qD⟩ := q; exact ⟨q0, q1, qP, va_K.moved (u := U) (U := U.calling g mk a) (Vm.Alike.refl U.vm) qK, qD⟩, va_recv hKc hPc (ci := 10) (q0 := 0) rfl rfl, fun U hU hW => ⟨rfl, by rw [hU], by rw [hU]; exact hPc, va_K.moved hW.alike hKc, hDc.weaken (fun _ _ _ _ => trivial)⟩⟩ rfl rfl hl.1 rfl (lv_room (Nat.le_of_ble_eq_true rfl)) dX0_operand_21 ⟨by decide, by decide⟩) hS (fun q _ h => hFc q h) hFc (fun r71 u72 t H1 locs ht hvm hw hB hz1 hk1 hS => ?_)
    obtain ⟨hP1, hK1, hD1⟩ := hB
    rw [ht] at hP1
    have hK1 := va_K.moved hvm.symm hK1
    obtain ⟨hP, hD⟩ := nv_join (wf := [(h0, .inr (0, [.ref h2, .ref h3, .ref h1, .ref h4, .ref h5, .ref h6, .ref h7, .int x2, .int x3, .int x4, .int x5, .int x6, .int x7, .int x8, .int x9, .int x10, .int x11])), (h9, .inl (y1, 2501, .inl f1)), (h11, .inl (y3, 2501, .inr (.inl g0))), (h6, .inr (4, [.ref h14, .ref h15, .ref h16, .int x17])), (h14, .inl (y4, 60, .inr (.inl g1))), (h15, .inl (y5, 60, .inl f3)), (h1, .inr (6, [.int x18, .int x19, .int x20, .int x21, .int x22])), (h8, .inl (y0, 2501, .inl f0)), (h2, .inr (10, [.ref h8, .ref h9, .ref h10, .ref h11, .ref h12, .ref h13, .int x12, .int x13, .int x14, .int x15, .int x16, .long z0])), (h10, .inl (y2, 2501, .inl f2))]) hP hD [8, 2] [0, 1, 3, 4, 5, 6, 7, 9] rfl rfl (by decide) (by decide) hk1 hFc hP1 hD1 rfl
    have hK := (hK.sub (tys' := [(y1, .int), (y3, .long), (y4, .long), (y5, .int), (y0, .int)]) [0, 2, 3, 4, 5] rfl).app hK1
    generalize H1 = H at hP hS ⊢
    have hK : va_K (dC, dI) vwCl [(y1, .int), (y3, .long), (y4, .long), (y5, .int), (y0, .int), (y2, .int)] s := hK
    obtain ⟨hPc, hDc, hFc⟩ := nv_sub3 (wc := [(h1, .inr (6, [.int x18, .int x19, .int x20, .int x21, .int x22]))]) hP hD hS hA [6] (by decide) rfl
    have hKc := hK.sub (tys' := []) [] rfl
    refine va_callv (va_runV (As := [.int 0, .int r71]) (rest := []) ⟨hx, hb, hml, hown, hG⟩ (cX6_take_1 l dC dI h1 H.size 0 r71 x18 x19 x20 x21 x22 ix21 ix22) (cwV 2 hG (gV wd_626 wd_627 wd_628 wd_9 wd_629) rfl rfl rfl (by decide +kernel) ⟨Nat.le_of_ble_eq_true rfl, Nat.le_of_ble_eq_true rfl⟩) ⟨fun a U g mk q => by obtain ⟨q0, q1, qP, qK, qD⟩ := q; exact ⟨q0, q1, qP, va_K.moved (u := U) (U := U.calling g mk a) (Vm.Alike.refl U.vm) qK, qD⟩, va_recv hKc hPc (ci := 6) (q0 := 0) rfl rfl, fun U hU hW => ⟨rfl, by rw [hU], by rw [hU]; exact hPc, va_K.moved hW.alike hKc, hDc.weaken (fun _ _ _ _ => trivial)⟩⟩ rfl rfl hl.1 rfl (lv_room (Nat.le_of_ble_eq_true rfl)) dX0_operand_24 ⟨by decide, by decide⟩) hS (fun q _ h => hFc q h) hFc (fun u74 t H1 locs ht hvm hw hB hz1 hk1 hS => ?_)
    obtain ⟨hP1, hK1, hD1⟩ := hB
    rw [ht] at hP1
    have hK1 := va_K.moved hvm.symm hK1
    obtain ⟨hP, hD⟩ := nv_join (wf := [(h0, .inr (0, [.ref h2, .ref h3, .ref h1, .ref h4, .ref h5, .ref h6, .ref h7, .int x2, .int x3, .int x4, .int x5, .int x6, .int x7, .int x8, .int x9, .int x10, .int x11])), (h9, .inl (y1, 2501, .inl f1)), (h11, .inl (y3, 2501, .inr (.inl g0))), (h6, .inr (4, [.ref h14, .ref h15, .ref h16, .int x17])), (h14, .inl (y4, 60, .inr (.inl g1))), (h15, .inl (y5, 60, .inl f3)), (h8, .inl (y0, 2501, .inl f0)), (h2, .inr (10, [.ref h8, .ref h9, .ref h10, .ref h11, .ref h12, .ref h13, .int x12, .int x13, .int x14, .int x15, .int x16, .long z0])), (h10, .inl (y2, 2501, .inl f2)), (h1, .inr (6, [.int 0, .int r71, .int 0, .int 0, .int 0]))]) hP hD [6] [0, 1, 2, 3, 4, 5, 7, 8, 9] rfl rfl (by decide) (by decide) hk1 hFc hP1 hD1 rfl
    have hK := (hK.sub (tys' := [(y1, .int), (y3, .long), (y4, .long), (y5, .int), (y0, .int), (y2, .int)]) [0, 1, 2, 3, 4, 5] rfl).app hK1
    generalize H1 = H at hP hS ⊢
    have hK : va_K (dC, dI) vwCl [(y1, .int), (y3, .long), (y4, .long), (y5, .int), (y0, .int), (y2, .int)] s := hK
    refine lv_aload_n hx hb dX0_operand_27 rfl (lv_at hl 1 rfl) ?_
    refine va_get (D := (dC, dI)) (ci := 0) (v := .ref h2) (C := RX0) (T := TX0) (N := 17) hx hb hG inGX0 hown hK hP 0 rfl rfl 0 (by decide) (hG _ wd_321) (fun _ h9 => h9) rfl dX0_operand_28 ?_
    obtain ⟨hPc, hDc, hFc⟩ := nv_sub3 (wc := [(h2, .inr (10, [.ref h8, .ref h9, .ref h10, .ref h11, .ref h12, .ref h13, .int x12, .int x13, .int x14, .int x15, .int x16, .long z0]))]) hP hD hS hA [7] (by decide) rfl
    have hKc := hK.sub (tys' := []) [] rfl
    refine va_callv (va_runV (As := []) (rest := []) ⟨hx, hb, hml, hown, hG⟩ (cX10_skip_1 l dC dI h2 h8 h9 h10 h11 h12 h13 H.size x12 x13 x14 x15 x16 z0 ix12 ix13 ix14) (cwV 0 hG (gV wd_576 wd_577 wd_578 wd_11 wd_579) rfl rfl rfl (by decide +kernel) ⟨Nat.le_of_ble_eq_true rfl, Nat.le_of_ble_eq_true rfl⟩) ⟨fun a U g mk q => by obtain ⟨q0, q1, qP, qK, qD⟩ := q; exact ⟨q0, q1, qP, va_K.moved (u := U) (U := U.calling g mk a) (Vm.Alike.refl U.vm) qK, qD⟩, va_recv hKc hPc (ci := 10) (q0 := 0) rfl rfl, fun U hU hW => ⟨rfl, by rw [hU], by rw [hU]; exact hPc, va_K.moved hW.alike hKc, hDc.weaken (fun _ _ _ _ => trivial)⟩⟩ rfl rfl hl.1 rfl (lv_room (Nat.le_of_ble_eq_true rfl)) dX0_operand_31 ⟨by decide, by decide⟩) hS (fun q _ h => hFc q h) hFc (fun u76 t H1 locs ht hvm hw hB hz1 hk1 hS => ?_)
    obtain ⟨u76_0, rfl⟩ : ∃ z, z = u76 := ⟨_, rfl⟩
    have hw : iv u76_0 0 2500 ∧ True := hw
    obtain ⟨iu76_0, -⟩ := hw
    obtain ⟨hP1, hK1, hD1⟩ := hB
    rw [ht] at hP1
    have hK1 := va_K.moved hvm.symm hK1
    obtain ⟨hP, hD⟩ := nv_join (wf := [(h0, .inr (0, [.ref h2, .ref h3, .ref h1, .ref h4, .ref h5, .ref h6, .ref h7, .int x2, .int x3, .int x4, .int x5, .int x6, .int x7, .int x8, .int x9, .int x10, .int x11])), (h9, .inl (y1, 2501, .inl f1)), (h11, .inl (y3, 2501, .inr (.inl g0))), (h6, .inr (4, [.ref h14, .ref h15, .ref h16, .int x17])), (h14, .inl (y4, 60, .inr (.inl g1))), (h15, .inl (y5, 60, .inl f3)), (h8, .inl (y0, 2501, .inl f0)), (h10, .inl (y2, 2501, .inl f2)), (h1, .inr (6, [.int 0, .int r71, .int 0, .int 0, .int 0])), (h2, .inr (10, [.ref h8, .ref h9, .ref h10, .ref h11, .ref h12, .ref h13, .int x12, .int x13, .int u76_0, .int x15, .int x16, .long z0]))]) hP hD [7] [0, 1, 2, 3, 4, 5, 6, 8, 9] rfl rfl (by decide) (by decide) hk1 hFc hP1 hD1 rfl
    have hK := (hK.sub (tys' := [(y1, .int), (y3, .long), (y4, .long), (y5, .int), (y0, .int), (y2, .int)]) [0, 1, 2, 3, 4, 5] rfl).app hK1
    generalize H1 = H at hP hS ⊢
    have hK : va_K (dC, dI) vwCl [(y1, .int), (y3, .long), (y4, .long), (y5, .int), (y0, .int), (y2, .int)] s := hK
    refine lv_iconst (v := 1) hx hb dX0_operand_34 (by decide) ?_
    rw [hQ]
    obtain ⟨hP9, hD9⟩ := nv_sub2 (wc := [(h0, .inr (0, [.ref h2, .ref h3, .ref h1, .ref h4, .ref h5, .ref h6, .ref h7, .int x2, .int x3, .int x4, .int x5, .int x6, .int x7, .int x8, .int x9, .int x10, .int x11])), (h2, .inr (10, [.ref h8, .ref h9, .ref h10, .ref h11, .ref h12, .ref h13, .int x12, .int x13, .int u76_0, .int x15, .int x16, .long z0])), (h8, .inl (y0, 2501, .inl f0)), (h9, .inl (y1, 2501, .inl f1)), (h10, .inl (y2, 2501, .inl f2)), (h11, .inl (y3, 2501, .inr (.inl g0))), (h6, .inr (4, [.ref h14, .ref h15, .ref h16, .int x17])), (h14, .inl (y4, 60, .inr (.inl g1))), (h15, .inl (y5, 60, .inl f3)), (h1, .inr (6, [.int 0, .int r71, .int 0, .int 0, .int 0]))]) hP hD [0, 9, 6, 1, 7, 2, 3, 4, 5, 8] (by decide) rfl
    have hK9 := hK.sub (tys' := [(y0, .int), (y1, .int), (y2, .int), (y3, .long), (y4, .long), (y5, .int)]) [4, 0, 5, 1, 2, 3] rfl
    exact W.zret (v := 1) hx hb hr rfl (fun t ht hW => ⟨⟨1, (x3, x7, x8, x9, x10, x11, u76_0, 0, r71, 0, 0, 0), rfl, ⟨iv_w (by decide : iv 1 1 1) (by decide) (by decide), iv_w ix3 (by decide) (by decide), iv_w ix9 (by decide) (by decide), iv_w iu76_0 (by decide) (by decide), iv_w (by decide : iv 0 0 0) (by decide) (by decide), iv_w (by decide : iv 0 0 0) (by decide) (by decide), trivial⟩, by rw [ht]; exact hP9, va_K.moved hW.alike hK9, hD9⟩, hS.F ht⟩) hS.2.2 dX0_operand_35
set_option maxHeartbeats 100000000 in
set_option maxRecDepth 100000 in
theorem cX0_indexed_2 (l : Launch) (dC : Nat → ClassId) (dI : Nat → Nat → Nat) (h0 h1 h2 h3 h4 h5 h6 h7 h8 h9 h10 h11 h12 h13 : Nat) (y0 y1 y2 : ClassId) (sz : Nat) (x0 x1 x2 x3 x4 x5 x6 x7 x8 x9 x10 x11 x12 x13 x14 x15 x16 x17 x18 x19 : Int32) (z0 : Int64) (f0 f1 f2 : Nat → Int32) (ix0 : iv x0 0 2600) (ix1 : iv x1 0 1) (ix7 : iv x7 0 1) (ix10 : iv x10 0 2600) (ix11 : iv x11 0 2501) (ix12 : iv x12 0 2500) (ix18 : iv x18 0 1) (ix19 : iv x19 0 1) : Met l yX0_indexed (Cond.code yX0_indexed cX0_indexed 2 (some .boolean) :: lw_G) ({ frames := 1, cells := 0, slots := 0, locals := 23 }) (va_Pc [.ref h0, .ref h1] (fun U => U.heap.size = sz ∧ va_P (dC, dI) vwCl [(h0, .inr (0, [.ref h2, .ref h1, .ref h3, .ref h4, .ref h5, .ref h6, .ref h7, .int x0, .int x1, .int x2, .int x3, .int x4, .int x5, .int x6, .int x7, .int x8, .int x9])), (h2, .inr (10, [.ref h8, .ref h9, .ref h10, .ref h11, .ref h12, .ref h13, .int x10, .int x11, .int x12, .int x13, .int x14, .long z0])), (h8, .inl (y0, 2501, .inl f0)), (h10, .inl (y1, 2501, .inl f1)), (h1, .inr (6, [.int x15, .int x16, .int x17, .int x18, .int x19])), (h9, .inl (y2, 2501, .inl f2))] U.heap ∧ va_K (dC, dI) vwCl [(y0, .int), (y1, .int), (y2, .int)] U ∧ va_D (fun _ => True) [(h0, .inr (0, [.ref h2, .ref h1, .ref h3, .ref h4, .ref h5, .ref h6, .ref h7, .int x0, .int x1, .int x2, .int x3, .int x4, .int x5, .int x6, .int x7, .int x8, .int x9])), (h2, .inr (10, [.ref h8, .ref h9, .ref h10, .ref h11, .ref h12, .ref h13, .int x10, .int x11, .int x12, .int x13, .int x14, .long z0])), (h8, .inl (y0, 2501, .inl f0)), (h10, .inl (y1, 2501, .inl f1)), (h1, .inr (6, [.int x15, .int x16, .int x17, .int x18, .int x19])), (h9, .inl (y2, 2501, .inl f2))])) (va_Qi (fun (r : Int32) (u : Int32 × Int32 × Int32 × Int32 × Int32 × Int32 × Int32 × Int32) => iv r 0 1 ∧ iv u.2.2.1 0 2500 ∧ iv u.2.2.2.2.2.2.1 0 1 ∧ iv u.2.2.2.2.2.2.2 0 1 ∧ True) (fun (u : Int32 × Int32 × Int32 × Int32 × Int32 × Int32 × Int32 × Int32) (t : State) => va_P (dC, dI) vwCl [(h0, .inr (0, [.ref h2, .ref h1, .ref h3, .ref h4, .ref h5, .ref h6, .ref h7, .int x0, .int x1, .int x2, .int x3, .int x4, .int x5, .int x6, .int x7, .int u.1, .int u.2.1])), (h2, .inr (10, [.ref h8, .ref h9, .ref h10, .ref h11, .ref h12, .ref h13, .int x10, .int x11, .int u.2.2.1, .int x13, .int x14, .long z0])), (h8, .inl (y0, 2501, .inl f0)), (h10, .inl (y1, 2501, .inl f1)), (h1, .inr (6, [.int u.2.2.2.1, .int u.2.2.2.2.1, .int u.2.2.2.2.2.1, .int u.2.2.2.2.2.2.1, .int u.2.2.2.2.2.2.2])), (h9, .inl (y2, 2501, .inl f2))] t.heap ∧ va_K (dC, dI) vwCl [(y0, .int), (y1, .int), (y2, .int)] t ∧ va_D (va_A [(h0, .inr (0, [.ref h2, .ref h1, .ref h3, .ref h4, .ref h5, .ref h6, .ref h7, .int x0, .int x1, .int x2, .int x3, .int x4, .int x5, .int x6, .int x7, .int x8, .int x9])), (h2, .inr (10, [.ref h8, .ref h9, .ref h10, .ref h11, .ref h12, .ref h13, .int x10, .int x11, .int x12, .int x13, .int x14, .long z0])), (h8, .inl (y0, 2501, .inl f0)), (h10, .inl (y1, 2501, .inl f1)), (h1, .inr (6, [.int x15, .int x16, .int x17, .int x18, .int x19])), (h9, .inl (y2, 2501, .inl f2))] sz) [(h0, .inr (0, [.ref h2, .ref h1, .ref h3, .ref h4, .ref h5, .ref h6, .ref h7, .int x0, .int x1, .int x2, .int x3, .int x4, .int x5, .int x6, .int x7, .int u.1, .int u.2.1])), (h2, .inr (10, [.ref h8, .ref h9, .ref h10, .ref h11, .ref h12, .ref h13, .int x10, .int x11, .int u.2.2.1, .int x13, .int x14, .long z0])), (h8, .inl (y0, 2501, .inl f0)), (h10, .inl (y1, 2501, .inl f1)), (h1, .inr (6, [.int u.2.2.2.1, .int u.2.2.2.2.1, .int u.2.2.2.2.2.1, .int u.2.2.2.2.2.2.1, .int u.2.2.2.2.2.2.2])), (h9, .inl (y2, 2501, .inl f2))]) (va_A [(h0, .inr (0, [.ref h2, .ref h1, .ref h3, .ref h4, .ref h5, .ref h6, .ref h7, .int x0, .int x1, .int x2, .int x3, .int x4, .int x5, .int x6, .int x7, .int x8, .int x9])), (h2, .inr (10, [.ref h8, .ref h9, .ref h10, .ref h11, .ref h12, .ref h13, .int x10, .int x11, .int x12, .int x13, .int x14, .long z0])), (h8, .inl (y0, 2501, .inl f0)), (h10, .inl (y1, 2501, .inl f1)), (h1, .inr (6, [.int x15, .int x16, .int x17, .int x18, .int x19])), (h9, .inl (y2, 2501, .inl f2))] sz)) 0 0 (va_A [(h0, .inr (0, [.ref h2, .ref h1, .ref h3, .ref h4, .ref h5, .ref h6, .ref h7, .int x0, .int x1, .int x2, .int x3, .int x4, .int x5, .int x6, .int x7, .int x8, .int x9])), (h2, .inr (10, [.ref h8, .ref h9, .ref h10, .ref h11, .ref h12, .ref h13, .int x10, .int x11, .int x12, .int x13, .int x14, .long z0])), (h8, .inl (y0, 2501, .inl f0)), (h10, .inl (y1, 2501, .inl f1)), (h1, .inr (6, [.int x15, .int x16, .int x17, .int x18, .int x19])), (h9, .inl (y2, 2501, .inl f2))] sz) := by
  refine Met.ofW (cc := cX0_indexed) (maxL := 2) (ret := (some .boolean)) (by decide) rfl ?_
  intro p e s m args below meth c s₁ B hml hv
  obtain ⟨rfl, hsz, hP, hK, hD0⟩ := hv
  have hx := B.exec
  have hb := B.bytes
  have hr := B.returns
  have hts0 := atoms_spec (ws := Cond.code yX0_indexed cX0_indexed 2 (some .boolean) :: lw_G) B.pre
  have hG : ∀ w ∈ lw_G, w.before _ s = true := fun w h => hts0 w (List.mem_cons_of_mem _ h)
  have hown : s.vm.findClass RX0 = some m.cls := findClass_of_methodNamed B.named
  have hlocks := B.notSynchronized
  subst hsz
  have hD := hD0.self (sz := s.heap.size)
  generalize hAe : va_A [(h0, .inr (0, [.ref h2, .ref h1, .ref h3, .ref h4, .ref h5, .ref h6, .ref h7, .int x0, .int x1, .int x2, .int x3, .int x4, .int x5, .int x6, .int x7, .int x8, .int x9])), (h2, .inr (10, [.ref h8, .ref h9, .ref h10, .ref h11, .ref h12, .ref h13, .int x10, .int x11, .int x12, .int x13, .int x14, .long z0])), (h8, .inl (y0, 2501, .inl f0)), (h10, .inl (y1, 2501, .inl f1)), (h1, .inr (6, [.int x15, .int x16, .int x17, .int x18, .int x19])), (h9, .inl (y2, 2501, .inl f2))] s.heap.size = A at hD ⊢
  have hA : ∀ q : Nat, s.heap.size ≤ q → A q := fun q h => by rw [← hAe]; exact Or.inr h
  have hS : va_S A s.heap s.heap [] := va_S.rf
  have hP : va_P (dC, dI) vwCl [(h0, .inr (0, [.ref h2, .ref h1, .ref h3, .ref h4, .ref h5, .ref h6, .ref h7, .int x0, .int x1, .int x2, .int x3, .int x4, .int x5, .int x6, .int x7, .int x8, .int x9])), (h2, .inr (10, [.ref h8, .ref h9, .ref h10, .ref h11, .ref h12, .ref h13, .int x10, .int x11, .int x12, .int x13, .int x14, .long z0])), (h8, .inl (y0, 2501, .inl f0)), (h10, .inl (y1, 2501, .inl f1)), (h1, .inr (6, [.int x15, .int x16, .int x17, .int x18, .int x19])), (h9, .inl (y2, 2501, .inl f2))] s.heap := hP
  have hl := lv_entry ([.ref h0, .ref h1]) (n := 2) (Nat.le_of_ble_eq_true rfl)
  rw [lg_entry_eq]
  generalize (lg_sl ([.ref h0, .ref h1]) ++ List.replicate (2 - (lg_sl ([.ref h0, .ref h1])).length) Slot.unset).toArray = ls at hl ⊢
  have hl : lv_has ls 2 [(0, .ref h0), (1, .ref h1)] := hl
  generalize ([.ref h0, .ref h1] : List Value).toArray = ar at hG ⊢
  refine wq (fun Q hQ => ?_)
  refine lv_aload_n hx hb dX0_indexed_0 rfl (lv_at hl 0 rfl) ?_
  refine va_get (D := (dC, dI)) (ci := 0) (v := .ref h2) (C := RX0) (T := TX0) (N := 17) hx hb hG inGX0 hown hK hP 0 rfl rfl 0 (by decide) (hG _ wd_321) (fun _ h9 => h9) rfl dX0_indexed_1 ?_
  obtain ⟨hPc, hDc, hFc⟩ := nv_sub3 (wc := [(h2, .inr (10, [.ref h8, .ref h9, .ref h10, .ref h11, .ref h12, .ref h13, .int x10, .int x11, .int x12, .int x13, .int x14, .long z0]))]) hP hD hS hA [1] (by decide) rfl
  have hKc := hK.sub (tys' := []) [] rfl
  refine va_callv (va_runV (As := []) (rest := []) ⟨hx, hb, hml, hown, hG⟩ (cX10_skip_1 l dC dI h2 h8 h9 h10 h11 h12 h13 s.heap.size x10 x11 x12 x13 x14 z0 ix10 ix11 ix12) (cwV 0 hG (gV wd_576 wd_577 wd_578 wd_11 wd_579) rfl rfl rfl (by decide +kernel) ⟨Nat.le_of_ble_eq_true rfl, Nat.le_of_ble_eq_true rfl⟩) ⟨fun a U g mk q => by obtain ⟨q0, q1, qP, qK, qD⟩ := q; exact ⟨q0, q1, qP, va_K.moved (u := U) (U := U.calling g mk a) (Vm.Alike.refl U.vm) qK, qD⟩, va_recv hKc hPc (ci := 10) (q0 := 0) rfl rfl, fun U hU hW => ⟨rfl, by rw [hU], by rw [hU]; exact hPc, va_K.moved hW.alike hKc, hDc.weaken (fun _ _ _ _ => trivial)⟩⟩ rfl rfl hl.1 rfl (lv_room (Nat.le_of_ble_eq_true rfl)) dX0_indexed_4 ⟨by decide, by decide⟩) hS (fun q _ h => hFc q h) hFc (fun u2 t H1 locs ht hvm hw hB hz1 hk1 hS => ?_)
  obtain ⟨u2_0, rfl⟩ : ∃ z, z = u2 := ⟨_, rfl⟩
  have hw : iv u2_0 0 2500 ∧ True := hw
  obtain ⟨iu2_0, -⟩ := hw
  obtain ⟨hP1, hK1, hD1⟩ := hB
  rw [ht] at hP1
  have hK1 := va_K.moved hvm.symm hK1
  obtain ⟨hP, hD⟩ := nv_join (wf := [(h0, .inr (0, [.ref h2, .ref h1, .ref h3, .ref h4, .ref h5, .ref h6, .ref h7, .int x0, .int x1, .int x2, .int x3, .int x4, .int x5, .int x6, .int x7, .int x8, .int x9])), (h8, .inl (y0, 2501, .inl f0)), (h10, .inl (y1, 2501, .inl f1)), (h1, .inr (6, [.int x15, .int x16, .int x17, .int x18, .int x19])), (h9, .inl (y2, 2501, .inl f2)), (h2, .inr (10, [.ref h8, .ref h9, .ref h10, .ref h11, .ref h12, .ref h13, .int x10, .int x11, .int u2_0, .int x13, .int x14, .long z0]))]) hP hD [1] [0, 2, 3, 4, 5] rfl rfl (by decide) (by decide) hk1 hFc hP1 hD1 rfl
  have hK := (hK.sub (tys' := [(y0, .int), (y1, .int), (y2, .int)]) [0, 1, 2] rfl).app hK1
  generalize H1 = H at hP hS ⊢
  have hK : va_K (dC, dI) vwCl [(y0, .int), (y1, .int), (y2, .int)] s := hK
  refine lv_aload_n hx hb dX0_indexed_7 rfl (lv_at hl 0 rfl) ?_
  refine va_get (D := (dC, dI)) (ci := 0) (v := .ref h2) (C := RX0) (T := TX0) (N := 17) hx hb hG inGX0 hown hK hP 0 rfl rfl 0 (by decide) (hG _ wd_321) (fun _ h9 => h9) rfl dX0_indexed_8 ?_
  obtain ⟨hPc, hDc, hFc⟩ := nv_sub3 (wc := [(h2, .inr (10, [.ref h8, .ref h9, .ref h10, .ref h11, .ref h12, .ref h13, .int x10, .int x11, .int u2_0, .int x13, .int x14, .long z0])), (h8, .inl (y0, 2501, .inl f0)), (h10, .inl (y1, 2501, .inl f1))]) hP hD hS hA [5, 1, 2] (by decide) rfl
  have hKc := hK.sub (tys' := [(y0, .int), (y1, .int)]) [0, 1] rfl
  refine va_calli (va_runV (As := []) (rest := []) ⟨hx, hb, hml, hown, hG⟩ (cX10_isBase_1 l dC dI h2 h8 h9 h10 h11 h12 h13 y0 y1 H.size x10 x11 u2_0 x13 x14 z0 f0 f1 ix10 ix11 iu2_0) (cwV 0 hG (gV wd_634 wd_635 wd_636 wd_11 wd_637) rfl rfl rfl (by decide +kernel) ⟨Nat.le_of_ble_eq_true rfl, Nat.le_of_ble_eq_true rfl⟩) ⟨fun a U g mk q => by obtain ⟨q0, q1, qP, qK, qD⟩ := q; exact ⟨q0, q1, qP, va_K.moved (u := U) (U := U.calling g mk a) (Vm.Alike.refl U.vm) qK, qD⟩, va_recv hKc hPc (ci := 10) (q0 := 0) rfl rfl, fun U hU hW => ⟨rfl, by rw [hU], by rw [hU]; exact hPc, va_K.moved hW.alike hKc, hDc.weaken (fun _ _ _ _ => trivial)⟩⟩ rfl rfl hl.1 rfl (lv_room (Nat.le_of_ble_eq_true rfl)) dX0_indexed_11 ⟨by decide, by decide⟩) hS (fun q _ h => hFc q h) hFc (fun r3 u4 t H1 locs ht hvm hw hB hz1 hk1 hS => ?_)
  have hw : iv r3 0 1 ∧ True := hw
  obtain ⟨ir3, -⟩ := hw
  obtain ⟨hP1, hK1, hD1⟩ := hB
  rw [ht] at hP1
  have hK1 := va_K.moved hvm.symm hK1
  obtain ⟨hP, hD⟩ := nv_join (wf := [(h0, .inr (0, [.ref h2, .ref h1, .ref h3, .ref h4, .ref h5, .ref h6, .ref h7, .int x0, .int x1, .int x2, .int x3, .int x4, .int x5, .int x6, .int x7, .int x8, .int x9])), (h1, .inr (6, [.int x15, .int x16, .int x17, .int x18, .int x19])), (h9, .inl (y2, 2501, .inl f2)), (h2, .inr (10, [.ref h8, .ref h9, .ref h10, .ref h11, .ref h12, .ref h13, .int x10, .int x11, .int u2_0, .int x13, .int x14, .long z0])), (h8, .inl (y0, 2501, .inl f0)), (h10, .inl (y1, 2501, .inl f1))]) hP hD [5, 1, 2] [0, 3, 4] rfl rfl (by decide) (by decide) hk1 hFc hP1 hD1 rfl
  have hK := (hK.sub (tys' := [(y2, .int)]) [2] rfl).app hK1
  generalize H1 = H at hP hS ⊢
  have hK : va_K (dC, dI) vwCl [(y2, .int), (y0, .int), (y1, .int)] s := hK
  refine lv_if_ne (tgt := 30) hx hb dX0_indexed_14 (by decide) (fun c5 => ?_) (fun c5 => ?_)
  · skip
    have j6 : iv r3 1 1 := iv_neLo ir3 (by decide : iv 0 0 0) c5 (by decide)
    refine lv_aload_n hx hb dX0_indexed_30 rfl (lv_at hl 1 rfl) ?_
    refine lv_iconst (v := 1) hx hb dX0_indexed_31 (by decide) ?_
    refine lv_aload_n hx hb dX0_indexed_32 rfl (lv_at hl 0 rfl) ?_
    refine va_get (D := (dC, dI)) (ci := 0) (v := .ref h2) (C := RX0) (T := TX0) (N := 17) hx hb hG inGX0 hown hK hP 0 rfl rfl 0 (by decide) (hG _ wd_321) (fun _ h9 => h9) rfl dX0_indexed_33 ?_
    obtain ⟨hPc, hDc, hFc⟩ := nv_sub3 (wc := [(h2, .inr (10, [.ref h8, .ref h9, .ref h10, .ref h11, .ref h12, .ref h13, .int x10, .int x11, .int u2_0, .int x13, .int x14, .long z0])), (h10, .inl (y1, 2501, .inl f1))]) hP hD hS hA [3, 5] (by decide) rfl
    have hKc := hK.sub (tys' := [(y1, .int)]) [2] rfl
    refine va_calli (va_runV (As := []) (rest := [.int 1, .ref h1]) ⟨hx, hb, hml, hown, hG⟩ (cX10_value_1 l dC dI h2 h8 h9 h10 h11 h12 h13 y1 H.size x10 x11 u2_0 x13 x14 z0 f1 ix10 ix11 iu2_0) (cwV 0 hG (gV wd_584 wd_585 wd_586 wd_11 wd_587) rfl rfl rfl (by decide +kernel) ⟨Nat.le_of_ble_eq_true rfl, Nat.le_of_ble_eq_true rfl⟩) ⟨fun a U g mk q => by obtain ⟨q0, q1, qP, qK, qD⟩ := q; exact ⟨q0, q1, qP, va_K.moved (u := U) (U := U.calling g mk a) (Vm.Alike.refl U.vm) qK, qD⟩, va_recv hKc hPc (ci := 10) (q0 := 0) rfl rfl, fun U hU hW => ⟨rfl, by rw [hU], by rw [hU]; exact hPc, va_K.moved hW.alike hKc, hDc.weaken (fun _ _ _ _ => trivial)⟩⟩ rfl rfl hl.1 rfl (lv_room (Nat.le_of_ble_eq_true rfl)) dX0_indexed_36 ⟨by decide, by decide⟩) hS (fun q _ h => hFc q h) hFc (fun r7 u8 t H1 locs ht hvm hw hB hz1 hk1 hS => ?_)
    obtain ⟨hP1, hK1, hD1⟩ := hB
    rw [ht] at hP1
    have hK1 := va_K.moved hvm.symm hK1
    obtain ⟨hP, hD⟩ := nv_join (wf := [(h0, .inr (0, [.ref h2, .ref h1, .ref h3, .ref h4, .ref h5, .ref h6, .ref h7, .int x0, .int x1, .int x2, .int x3, .int x4, .int x5, .int x6, .int x7, .int x8, .int x9])), (h1, .inr (6, [.int x15, .int x16, .int x17, .int x18, .int x19])), (h9, .inl (y2, 2501, .inl f2)), (h8, .inl (y0, 2501, .inl f0)), (h2, .inr (10, [.ref h8, .ref h9, .ref h10, .ref h11, .ref h12, .ref h13, .int x10, .int x11, .int u2_0, .int x13, .int x14, .long z0])), (h10, .inl (y1, 2501, .inl f1))]) hP hD [3, 5] [0, 1, 2, 4] rfl rfl (by decide) (by decide) hk1 hFc hP1 hD1 rfl
    have hK := (hK.sub (tys' := [(y2, .int), (y0, .int)]) [0, 1] rfl).app hK1
    generalize H1 = H at hP hS ⊢
    have hK : va_K (dC, dI) vwCl [(y2, .int), (y0, .int), (y1, .int)] s := hK
    refine lv_aload_n hx hb dX0_indexed_39 rfl (lv_at hl 0 rfl) ?_
    refine va_get (D := (dC, dI)) (ci := 0) (v := .int x5) (C := RX0) (T := TX0) (N := 17) hx hb hG inGX0 hown hK hP 0 rfl rfl 12 (by decide) (hG _ wd_333) (fun _ h9 => h9) rfl dX0_indexed_40 ?_
    obtain ⟨hPc, hDc, hFc⟩ := nv_sub3 (wc := [(h1, .inr (6, [.int x15, .int x16, .int x17, .int x18, .int x19]))]) hP hD hS hA [1] (by decide) rfl
    have hKc := hK.sub (tys' := []) [] rfl
    refine va_callv (va_runV (As := [.int 1, .int r7, .int x5]) (rest := []) ⟨hx, hb, hml, hown, hG⟩ (cX6_takeWithNext_1 l dC dI h1 H.size 1 r7 x5 x15 x16 x17 x18 x19 ix18 ix19) (cwV 3 hG (gV wd_648 wd_645 wd_646 wd_9 wd_647) rfl rfl rfl (by decide +kernel) ⟨Nat.le_of_ble_eq_true rfl, Nat.le_of_ble_eq_true rfl⟩) ⟨fun a U g mk q => by obtain ⟨q0, q1, qP, qK, qD⟩ := q; exact ⟨q0, q1, qP, va_K.moved (u := U) (U := U.calling g mk a) (Vm.Alike.refl U.vm) qK, qD⟩, va_recv hKc hPc (ci := 6) (q0 := 0) rfl rfl, fun U hU hW => ⟨rfl, by rw [hU], by rw [hU]; exact hPc, va_K.moved hW.alike hKc, hDc.weaken (fun _ _ _ _ => trivial)⟩⟩ rfl rfl hl.1 rfl (lv_room (Nat.le_of_ble_eq_true rfl)) dX0_indexed_43 ⟨by decide, by decide⟩) hS (fun q _ h => hFc q h) hFc (fun u10 t H1 locs ht hvm hw hB hz1 hk1 hS => ?_)
    obtain ⟨hP1, hK1, hD1⟩ := hB
    rw [ht] at hP1
    have hK1 := va_K.moved hvm.symm hK1
    obtain ⟨hP, hD⟩ := nv_join (wf := [(h0, .inr (0, [.ref h2, .ref h1, .ref h3, .ref h4, .ref h5, .ref h6, .ref h7, .int x0, .int x1, .int x2, .int x3, .int x4, .int x5, .int x6, .int x7, .int x8, .int x9])), (h9, .inl (y2, 2501, .inl f2)), (h8, .inl (y0, 2501, .inl f0)), (h2, .inr (10, [.ref h8, .ref h9, .ref h10, .ref h11, .ref h12, .ref h13, .int x10, .int x11, .int u2_0, .int x13, .int x14, .long z0])), (h10, .inl (y1, 2501, .inl f1)), (h1, .inr (6, [.int 1, .int r7, .int x5, .int 1, .int 0]))]) hP hD [1] [0, 2, 3, 4, 5] rfl rfl (by decide) (by decide) hk1 hFc hP1 hD1 rfl
    have hK := (hK.sub (tys' := [(y2, .int), (y0, .int), (y1, .int)]) [0, 1, 2] rfl).app hK1
    generalize H1 = H at hP hS ⊢
    have hK : va_K (dC, dI) vwCl [(y2, .int), (y0, .int), (y1, .int)] s := hK
    refine lv_aload_n hx hb dX0_indexed_46 rfl (lv_at hl 0 rfl) ?_
    refine va_get (D := (dC, dI)) (ci := 0) (v := .ref h2) (C := RX0) (T := TX0) (N := 17) hx hb hG inGX0 hown hK hP 0 rfl rfl 0 (by decide) (hG _ wd_321) (fun _ h9 => h9) rfl dX0_indexed_47 ?_
    obtain ⟨hPc, hDc, hFc⟩ := nv_sub3 (wc := [(h2, .inr (10, [.ref h8, .ref h9, .ref h10, .ref h11, .ref h12, .ref h13, .int x10, .int x11, .int u2_0, .int x13, .int x14, .long z0]))]) hP hD hS hA [3] (by decide) rfl
    have hKc := hK.sub (tys' := []) [] rfl
    refine va_callv (va_runV (As := []) (rest := []) ⟨hx, hb, hml, hown, hG⟩ (cX10_skip_1 l dC dI h2 h8 h9 h10 h11 h12 h13 H.size x10 x11 u2_0 x13 x14 z0 ix10 ix11 iu2_0) (cwV 0 hG (gV wd_576 wd_577 wd_578 wd_11 wd_579) rfl rfl rfl (by decide +kernel) ⟨Nat.le_of_ble_eq_true rfl, Nat.le_of_ble_eq_true rfl⟩) ⟨fun a U g mk q => by obtain ⟨q0, q1, qP, qK, qD⟩ := q; exact ⟨q0, q1, qP, va_K.moved (u := U) (U := U.calling g mk a) (Vm.Alike.refl U.vm) qK, qD⟩, va_recv hKc hPc (ci := 10) (q0 := 0) rfl rfl, fun U hU hW => ⟨rfl, by rw [hU], by rw [hU]; exact hPc, va_K.moved hW.alike hKc, hDc.weaken (fun _ _ _ _ => trivial)⟩⟩ rfl rfl hl.1 rfl (lv_room (Nat.le_of_ble_eq_true rfl)) dX0_indexed_50 ⟨by decide, by decide⟩) hS (fun q _ h => hFc q h) hFc (fun u12 t H1 locs ht hvm hw hB hz1 hk1 hS => ?_)
    obtain ⟨u12_0, rfl⟩ : ∃ z, z = u12 := ⟨_, rfl⟩
    have hw : iv u12_0 0 2500 ∧ True := hw
    obtain ⟨iu12_0, -⟩ := hw
    obtain ⟨hP1, hK1, hD1⟩ := hB
    rw [ht] at hP1
    have hK1 := va_K.moved hvm.symm hK1
    obtain ⟨hP, hD⟩ := nv_join (wf := [(h0, .inr (0, [.ref h2, .ref h1, .ref h3, .ref h4, .ref h5, .ref h6, .ref h7, .int x0, .int x1, .int x2, .int x3, .int x4, .int x5, .int x6, .int x7, .int x8, .int x9])), (h9, .inl (y2, 2501, .inl f2)), (h8, .inl (y0, 2501, .inl f0)), (h10, .inl (y1, 2501, .inl f1)), (h1, .inr (6, [.int 1, .int r7, .int x5, .int 1, .int 0])), (h2, .inr (10, [.ref h8, .ref h9, .ref h10, .ref h11, .ref h12, .ref h13, .int x10, .int x11, .int u12_0, .int x13, .int x14, .long z0]))]) hP hD [3] [0, 1, 2, 4, 5] rfl rfl (by decide) (by decide) hk1 hFc hP1 hD1 rfl
    have hK := (hK.sub (tys' := [(y2, .int), (y0, .int), (y1, .int)]) [0, 1, 2] rfl).app hK1
    generalize H1 = H at hP hS ⊢
    have hK : va_K (dC, dI) vwCl [(y2, .int), (y0, .int), (y1, .int)] s := hK
    refine lv_aload_n hx hb dX0_indexed_53 rfl (lv_at hl 0 rfl) ?_
    refine va_get (D := (dC, dI)) (ci := 0) (v := .ref h2) (C := RX0) (T := TX0) (N := 17) hx hb hG inGX0 hown hK hP 0 rfl rfl 0 (by decide) (hG _ wd_321) (fun _ h9 => h9) rfl dX0_indexed_54 ?_
    obtain ⟨hPc, hDc, hFc⟩ := nv_sub3 (wc := [(h2, .inr (10, [.ref h8, .ref h9, .ref h10, .ref h11, .ref h12, .ref h13, .int x10, .int x11, .int u12_0, .int x13, .int x14, .long z0])), (h8, .inl (y0, 2501, .inl f0))]) hP hD hS hA [5, 2] (by decide) rfl
    have hKc := hK.sub (tys' := [(y0, .int)]) [1] rfl
    refine va_calli (va_runV (As := []) (rest := []) ⟨hx, hb, hml, hown, hG⟩ (cX10_kind_1 l dC dI h2 h8 h9 h10 h11 h12 h13 y0 H.size x10 x11 u12_0 x13 x14 z0 f0 ix10 ix11 iu12_0) (cwV 0 hG (gV wd_556 wd_557 wd_558 wd_11 wd_559) rfl rfl rfl (by decide +kernel) ⟨Nat.le_of_ble_eq_true rfl, Nat.le_of_ble_eq_true rfl⟩) ⟨fun a U g mk q => by obtain ⟨q0, q1, qP, qK, qD⟩ := q; exact ⟨q0, q1, qP, va_K.moved (u := U) (U := U.calling g mk a) (Vm.Alike.refl U.vm) qK, qD⟩, va_recv hKc hPc (ci := 10) (q0 := 0) rfl rfl, fun U hU hW => ⟨rfl, by rw [hU], by rw [hU]; exact hPc, va_K.moved hW.alike hKc, hDc.weaken (fun _ _ _ _ => trivial)⟩⟩ rfl rfl hl.1 rfl (lv_room (Nat.le_of_ble_eq_true rfl)) dX0_indexed_57 ⟨by decide, by decide⟩) hS (fun q _ h => hFc q h) hFc (fun r13 u14 t H1 locs ht hvm hw hB hz1 hk1 hS => ?_)
    obtain ⟨hP1, hK1, hD1⟩ := hB
    rw [ht] at hP1
    have hK1 := va_K.moved hvm.symm hK1
    obtain ⟨hP, hD⟩ := nv_join (wf := [(h0, .inr (0, [.ref h2, .ref h1, .ref h3, .ref h4, .ref h5, .ref h6, .ref h7, .int x0, .int x1, .int x2, .int x3, .int x4, .int x5, .int x6, .int x7, .int x8, .int x9])), (h9, .inl (y2, 2501, .inl f2)), (h10, .inl (y1, 2501, .inl f1)), (h1, .inr (6, [.int 1, .int r7, .int x5, .int 1, .int 0])), (h2, .inr (10, [.ref h8, .ref h9, .ref h10, .ref h11, .ref h12, .ref h13, .int x10, .int x11, .int u12_0, .int x13, .int x14, .long z0])), (h8, .inl (y0, 2501, .inl f0))]) hP hD [5, 2] [0, 1, 3, 4] rfl rfl (by decide) (by decide) hk1 hFc hP1 hD1 rfl
    have hK := (hK.sub (tys' := [(y2, .int), (y1, .int)]) [0, 2] rfl).app hK1
    generalize H1 = H at hP hS ⊢
    have hK : va_K (dC, dI) vwCl [(y2, .int), (y1, .int), (y0, .int)] s := hK
    refine lv_bipush (v := 41) hx hb dX0_indexed_60 (by decide) ?_
    refine lv_icmp_eq (tgt := 78) hx hb dX0_indexed_62 (by decide) (fun c15 => ?_) (fun c15 => ?_)
    · skip
      subst c15
      refine lv_aload_n hx hb dX0_indexed_78 rfl (lv_at hl 0 rfl) ?_
      refine va_get (D := (dC, dI)) (ci := 0) (v := .ref h2) (C := RX0) (T := TX0) (N := 17) hx hb hG inGX0 hown hK hP 0 rfl rfl 0 (by decide) (hG _ wd_321) (fun _ h9 => h9) rfl dX0_indexed_79 ?_
      obtain ⟨hPc, hDc, hFc⟩ := nv_sub3 (wc := [(h2, .inr (10, [.ref h8, .ref h9, .ref h10, .ref h11, .ref h12, .ref h13, .int x10, .int x11, .int u12_0, .int x13, .int x14, .long z0]))]) hP hD hS hA [4] (by decide) rfl
      have hKc := hK.sub (tys' := []) [] rfl
      refine va_callv (va_runV (As := []) (rest := []) ⟨hx, hb, hml, hown, hG⟩ (cX10_skip_1 l dC dI h2 h8 h9 h10 h11 h12 h13 H.size x10 x11 u12_0 x13 x14 z0 ix10 ix11 iu12_0) (cwV 0 hG (gV wd_576 wd_577 wd_578 wd_11 wd_579) rfl rfl rfl (by decide +kernel) ⟨Nat.le_of_ble_eq_true rfl, Nat.le_of_ble_eq_true rfl⟩) ⟨fun a U g mk q => by obtain ⟨q0, q1, qP, qK, qD⟩ := q; exact ⟨q0, q1, qP, va_K.moved (u := U) (U := U.calling g mk a) (Vm.Alike.refl U.vm) qK, qD⟩, va_recv hKc hPc (ci := 10) (q0 := 0) rfl rfl, fun U hU hW => ⟨rfl, by rw [hU], by rw [hU]; exact hPc, va_K.moved hW.alike hKc, hDc.weaken (fun _ _ _ _ => trivial)⟩⟩ rfl rfl hl.1 rfl (lv_room (Nat.le_of_ble_eq_true rfl)) dX0_indexed_82 ⟨by decide, by decide⟩) hS (fun q _ h => hFc q h) hFc (fun u17 t H1 locs ht hvm hw hB hz1 hk1 hS => ?_)
      obtain ⟨u17_0, rfl⟩ : ∃ z, z = u17 := ⟨_, rfl⟩
      have hw : iv u17_0 0 2500 ∧ True := hw
      obtain ⟨iu17_0, -⟩ := hw
      obtain ⟨hP1, hK1, hD1⟩ := hB
      rw [ht] at hP1
      have hK1 := va_K.moved hvm.symm hK1
      obtain ⟨hP, hD⟩ := nv_join (wf := [(h0, .inr (0, [.ref h2, .ref h1, .ref h3, .ref h4, .ref h5, .ref h6, .ref h7, .int x0, .int x1, .int x2, .int x3, .int x4, .int x5, .int x6, .int x7, .int x8, .int x9])), (h9, .inl (y2, 2501, .inl f2)), (h10, .inl (y1, 2501, .inl f1)), (h1, .inr (6, [.int 1, .int r7, .int x5, .int 1, .int 0])), (h8, .inl (y0, 2501, .inl f0)), (h2, .inr (10, [.ref h8, .ref h9, .ref h10, .ref h11, .ref h12, .ref h13, .int x10, .int x11, .int u17_0, .int x13, .int x14, .long z0]))]) hP hD [4] [0, 1, 2, 3, 5] rfl rfl (by decide) (by decide) hk1 hFc hP1 hD1 rfl
      have hK := (hK.sub (tys' := [(y2, .int), (y1, .int), (y0, .int)]) [0, 1, 2] rfl).app hK1
      generalize H1 = H at hP hS ⊢
      have hK : va_K (dC, dI) vwCl [(y2, .int), (y1, .int), (y0, .int)] s := hK
      refine lv_iconst (v := 1) hx hb dX0_indexed_85 (by decide) ?_
      rw [hQ]
      obtain ⟨hP9, hD9⟩ := nv_sub2 (wc := [(h0, .inr (0, [.ref h2, .ref h1, .ref h3, .ref h4, .ref h5, .ref h6, .ref h7, .int x0, .int x1, .int x2, .int x3, .int x4, .int x5, .int x6, .int x7, .int x8, .int x9])), (h2, .inr (10, [.ref h8, .ref h9, .ref h10, .ref h11, .ref h12, .ref h13, .int x10, .int x11, .int u17_0, .int x13, .int x14, .long z0])), (h8, .inl (y0, 2501, .inl f0)), (h10, .inl (y1, 2501, .inl f1)), (h1, .inr (6, [.int 1, .int r7, .int x5, .int 1, .int 0])), (h9, .inl (y2, 2501, .inl f2))]) hP hD [0, 5, 4, 2, 3, 1] (by decide) rfl
      have hK9 := hK.sub (tys' := [(y0, .int), (y1, .int), (y2, .int)]) [2, 1, 0] rfl
      exact W.zret (v := 1) hx hb hr rfl (fun t ht hW => ⟨⟨1, (x8, x9, u17_0, 1, r7, x5, 1, 0), rfl, ⟨iv_w (by decide : iv 1 1 1) (by decide) (by decide), iv_w iu17_0 (by decide) (by decide), iv_w (by decide : iv 1 1 1) (by decide) (by decide), iv_w (by decide : iv 0 0 0) (by decide) (by decide), trivial⟩, by rw [ht]; exact hP9, va_K.moved hW.alike hK9, hD9⟩, hS.F ht⟩) hS.2.2 dX0_indexed_86
    · skip
      refine lv_aload_n hx hb dX0_indexed_65 rfl (lv_at hl 0 rfl) ?_
      refine lv_iconst (v := 1) hx hb dX0_indexed_66 (by decide) ?_
      refine lv_aload_n hx hb dX0_indexed_67 rfl (lv_at hl 0 rfl) ?_
      refine va_get (D := (dC, dI)) (ci := 0) (v := .ref h2) (C := RX0) (T := TX0) (N := 17) hx hb hG inGX0 hown hK hP 0 rfl rfl 0 (by decide) (hG _ wd_321) (fun _ h9 => h9) rfl dX0_indexed_68 ?_
      obtain ⟨hPc, hDc, hFc⟩ := nv_sub3 (wc := [(h2, .inr (10, [.ref h8, .ref h9, .ref h10, .ref h11, .ref h12, .ref h13, .int x10, .int x11, .int u12_0, .int x13, .int x14, .long z0])), (h9, .inl (y2, 2501, .inl f2))]) hP hD hS hA [4, 1] (by decide) rfl
      have hKc := hK.sub (tys' := [(y2, .int)]) [0] rfl
      refine va_calli (va_runV (As := []) (rest := [.int 1, .ref h0]) ⟨hx, hb, hml, hown, hG⟩ (cX10_place_1 l dC dI h2 h8 h9 h10 h11 h12 h13 y2 H.size x10 x11 u12_0 x13 x14 z0 f2 ix10 ix11 iu12_0) (cwV 0 hG (gV wd_572 wd_573 wd_574 wd_11 wd_575) rfl rfl rfl (by decide +kernel) ⟨Nat.le_of_ble_eq_true rfl, Nat.le_of_ble_eq_true rfl⟩) ⟨fun a U g mk q => by obtain ⟨q0, q1, qP, qK, qD⟩ := q; exact ⟨q0, q1, qP, va_K.moved (u := U) (U := U.calling g mk a) (Vm.Alike.refl U.vm) qK, qD⟩, va_recv hKc hPc (ci := 10) (q0 := 0) rfl rfl, fun U hU hW => ⟨rfl, by rw [hU], by rw [hU]; exact hPc, va_K.moved hW.alike hKc, hDc.weaken (fun _ _ _ _ => trivial)⟩⟩ rfl rfl hl.1 rfl (lv_room (Nat.le_of_ble_eq_true rfl)) dX0_indexed_71 ⟨by decide, by decide⟩) hS (fun q _ h => hFc q h) hFc (fun r18 u19 t H1 locs ht hvm hw hB hz1 hk1 hS => ?_)
      obtain ⟨hP1, hK1, hD1⟩ := hB
      rw [ht] at hP1
      have hK1 := va_K.moved hvm.symm hK1
      obtain ⟨hP, hD⟩ := nv_join (wf := [(h0, .inr (0, [.ref h2, .ref h1, .ref h3, .ref h4, .ref h5, .ref h6, .ref h7, .int x0, .int x1, .int x2, .int x3, .int x4, .int x5, .int x6, .int x7, .int x8, .int x9])), (h10, .inl (y1, 2501, .inl f1)), (h1, .inr (6, [.int 1, .int r7, .int x5, .int 1, .int 0])), (h8, .inl (y0, 2501, .inl f0)), (h2, .inr (10, [.ref h8, .ref h9, .ref h10, .ref h11, .ref h12, .ref h13, .int x10, .int x11, .int u12_0, .int x13, .int x14, .long z0])), (h9, .inl (y2, 2501, .inl f2))]) hP hD [4, 1] [0, 2, 3, 5] rfl rfl (by decide) (by decide) hk1 hFc hP1 hD1 rfl
      have hK := (hK.sub (tys' := [(y1, .int), (y0, .int)]) [1, 2] rfl).app hK1
      generalize H1 = H at hP hS ⊢
      have hK : va_K (dC, dI) vwCl [(y1, .int), (y0, .int), (y2, .int)] s := hK
      obtain ⟨hPc, hDc, hFc⟩ := nv_sub3 (wc := [(h0, .inr (0, [.ref h2, .ref h1, .ref h3, .ref h4, .ref h5, .ref h6, .ref h7, .int x0, .int x1, .int x2, .int x3, .int x4, .int x5, .int x6, .int x7, .int x8, .int x9]))]) hP hD hS hA [0] (by decide) rfl
      have hKc := hK.sub (tys' := []) [] rfl
      refine va_calli (va_runV (As := [.int 1, .int r18]) (rest := []) ⟨hx, hb, hml, hown, hG⟩ (cX0_fail_1 l dC dI h0 h2 h1 h3 h4 h5 h6 h7 H.size 1 r18 x0 x1 x2 x3 x4 x5 x6 x7 x8 x9 ix0 ix1 ix7) (cwV 2 hG (gV wd_437 wd_439 wp_1 wd_8 wd_440) rfl rfl rfl (by decide +kernel) ⟨Nat.le_of_ble_eq_true rfl, Nat.le_of_ble_eq_true rfl⟩) ⟨fun a U g mk q => by obtain ⟨q0, q1, qP, qK, qD⟩ := q; exact ⟨q0, q1, qP, va_K.moved (u := U) (U := U.calling g mk a) (Vm.Alike.refl U.vm) qK, qD⟩, va_recv hKc hPc (ci := 0) (q0 := 0) rfl rfl, fun U hU hW => ⟨rfl, by rw [hU], by rw [hU]; exact hPc, va_K.moved hW.alike hKc, hDc.weaken (fun _ _ _ _ => trivial)⟩⟩ rfl rfl hl.1 rfl (lv_room (Nat.le_of_ble_eq_true rfl)) dX0_indexed_74 ⟨by decide, by decide⟩) hS (fun q _ h => hFc q h) hFc (fun r20 u21 t H1 locs ht hvm hw hB hz1 hk1 hS => ?_)
      have hw : r20 = 0 ∧ True := hw
      obtain ⟨er20, -⟩ := hw
      obtain ⟨hP1, hK1, hD1⟩ := hB
      rw [ht] at hP1
      have hK1 := va_K.moved hvm.symm hK1
      obtain ⟨hP, hD⟩ := nv_join (wf := [(h10, .inl (y1, 2501, .inl f1)), (h1, .inr (6, [.int 1, .int r7, .int x5, .int 1, .int 0])), (h8, .inl (y0, 2501, .inl f0)), (h2, .inr (10, [.ref h8, .ref h9, .ref h10, .ref h11, .ref h12, .ref h13, .int x10, .int x11, .int u12_0, .int x13, .int x14, .long z0])), (h9, .inl (y2, 2501, .inl f2)), (h0, .inr (0, [.ref h2, .ref h1, .ref h3, .ref h4, .ref h5, .ref h6, .ref h7, .int x0, .int x1, .int x2, .int x3, .int x4, .int x5, .int x6, .int x7, .int 1, .int r18]))]) hP hD [0] [1, 2, 3, 4, 5] rfl rfl (by decide) (by decide) hk1 hFc hP1 hD1 rfl
      have hK := (hK.sub (tys' := [(y1, .int), (y0, .int), (y2, .int)]) [0, 1, 2] rfl).app hK1
      generalize H1 = H at hP hS ⊢
      have hK : va_K (dC, dI) vwCl [(y1, .int), (y0, .int), (y2, .int)] s := hK
      subst er20
      rw [hQ]
      obtain ⟨hP9, hD9⟩ := nv_sub2 (wc := [(h0, .inr (0, [.ref h2, .ref h1, .ref h3, .ref h4, .ref h5, .ref h6, .ref h7, .int x0, .int x1, .int x2, .int x3, .int x4, .int x5, .int x6, .int x7, .int 1, .int r18])), (h2, .inr (10, [.ref h8, .ref h9, .ref h10, .ref h11, .ref h12, .ref h13, .int x10, .int x11, .int u12_0, .int x13, .int x14, .long z0])), (h8, .inl (y0, 2501, .inl f0)), (h10, .inl (y1, 2501, .inl f1)), (h1, .inr (6, [.int 1, .int r7, .int x5, .int 1, .int 0])), (h9, .inl (y2, 2501, .inl f2))]) hP hD [5, 3, 2, 0, 1, 4] (by decide) rfl
      have hK9 := hK.sub (tys' := [(y0, .int), (y1, .int), (y2, .int)]) [1, 0, 2] rfl
      exact W.zret (v := 0) hx hb hr rfl (fun t ht hW => ⟨⟨0, (1, r18, u12_0, 1, r7, x5, 1, 0), rfl, ⟨iv_w (by decide : iv 0 0 0) (by decide) (by decide), iv_w iu12_0 (by decide) (by decide), iv_w (by decide : iv 1 1 1) (by decide) (by decide), iv_w (by decide : iv 0 0 0) (by decide) (by decide), trivial⟩, by rw [ht]; exact hP9, va_K.moved hW.alike hK9, hD9⟩, hS.F ht⟩) hS.2.2 dX0_indexed_77
  · skip
    subst c5
    refine lv_aload_n hx hb dX0_indexed_17 rfl (lv_at hl 0 rfl) ?_
    refine lv_iconst (v := 1) hx hb dX0_indexed_18 (by decide) ?_
    refine lv_aload_n hx hb dX0_indexed_19 rfl (lv_at hl 0 rfl) ?_
    refine va_get (D := (dC, dI)) (ci := 0) (v := .ref h2) (C := RX0) (T := TX0) (N := 17) hx hb hG inGX0 hown hK hP 0 rfl rfl 0 (by decide) (hG _ wd_321) (fun _ h9 => h9) rfl dX0_indexed_20 ?_
    obtain ⟨hPc, hDc, hFc⟩ := nv_sub3 (wc := [(h2, .inr (10, [.ref h8, .ref h9, .ref h10, .ref h11, .ref h12, .ref h13, .int x10, .int x11, .int u2_0, .int x13, .int x14, .long z0])), (h9, .inl (y2, 2501, .inl f2))]) hP hD hS hA [3, 2] (by decide) rfl
    have hKc := hK.sub (tys' := [(y2, .int)]) [0] rfl
    refine va_calli (va_runV (As := []) (rest := [.int 1, .ref h0]) ⟨hx, hb, hml, hown, hG⟩ (cX10_place_1 l dC dI h2 h8 h9 h10 h11 h12 h13 y2 H.size x10 x11 u2_0 x13 x14 z0 f2 ix10 ix11 iu2_0) (cwV 0 hG (gV wd_572 wd_573 wd_574 wd_11 wd_575) rfl rfl rfl (by decide +kernel) ⟨Nat.le_of_ble_eq_true rfl, Nat.le_of_ble_eq_true rfl⟩) ⟨fun a U g mk q => by obtain ⟨q0, q1, qP, qK, qD⟩ := q; exact ⟨q0, q1, qP, va_K.moved (u := U) (U := U.calling g mk a) (Vm.Alike.refl U.vm) qK, qD⟩, va_recv hKc hPc (ci := 10) (q0 := 0) rfl rfl, fun U hU hW => ⟨rfl, by rw [hU], by rw [hU]; exact hPc, va_K.moved hW.alike hKc, hDc.weaken (fun _ _ _ _ => trivial)⟩⟩ rfl rfl hl.1 rfl (lv_room (Nat.le_of_ble_eq_true rfl)) dX0_indexed_23 ⟨by decide, by decide⟩) hS (fun q _ h => hFc q h) hFc (fun r22 u23 t H1 locs ht hvm hw hB hz1 hk1 hS => ?_)
    obtain ⟨hP1, hK1, hD1⟩ := hB
    rw [ht] at hP1
    have hK1 := va_K.moved hvm.symm hK1
    obtain ⟨hP, hD⟩ := nv_join (wf := [(h0, .inr (0, [.ref h2, .ref h1, .ref h3, .ref h4, .ref h5, .ref h6, .ref h7, .int x0, .int x1, .int x2, .int x3, .int x4, .int x5, .int x6, .int x7, .int x8, .int x9])), (h1, .inr (6, [.int x15, .int x16, .int x17, .int x18, .int x19])), (h8, .inl (y0, 2501, .inl f0)), (h10, .inl (y1, 2501, .inl f1)), (h2, .inr (10, [.ref h8, .ref h9, .ref h10, .ref h11, .ref h12, .ref h13, .int x10, .int x11, .int u2_0, .int x13, .int x14, .long z0])), (h9, .inl (y2, 2501, .inl f2))]) hP hD [3, 2] [0, 1, 4, 5] rfl rfl (by decide) (by decide) hk1 hFc hP1 hD1 rfl
    have hK := (hK.sub (tys' := [(y0, .int), (y1, .int)]) [1, 2] rfl).app hK1
    generalize H1 = H at hP hS ⊢
    have hK : va_K (dC, dI) vwCl [(y0, .int), (y1, .int), (y2, .int)] s := hK
    obtain ⟨hPc, hDc, hFc⟩ := nv_sub3 (wc := [(h0, .inr (0, [.ref h2, .ref h1, .ref h3, .ref h4, .ref h5, .ref h6, .ref h7, .int x0, .int x1, .int x2, .int x3, .int x4, .int x5, .int x6, .int x7, .int x8, .int x9]))]) hP hD hS hA [0] (by decide) rfl
    have hKc := hK.sub (tys' := []) [] rfl
    refine va_calli (va_runV (As := [.int 1, .int r22]) (rest := []) ⟨hx, hb, hml, hown, hG⟩ (cX0_fail_1 l dC dI h0 h2 h1 h3 h4 h5 h6 h7 H.size 1 r22 x0 x1 x2 x3 x4 x5 x6 x7 x8 x9 ix0 ix1 ix7) (cwV 2 hG (gV wd_437 wd_439 wp_1 wd_8 wd_440) rfl rfl rfl (by decide +kernel) ⟨Nat.le_of_ble_eq_true rfl, Nat.le_of_ble_eq_true rfl⟩) ⟨fun a U g mk q => by obtain ⟨q0, q1, qP, qK, qD⟩ := q; exact ⟨q0, q1, qP, va_K.moved (u := U) (U := U.calling g mk a) (Vm.Alike.refl U.vm) qK, qD⟩, va_recv hKc hPc (ci := 0) (q0 := 0) rfl rfl, fun U hU hW => ⟨rfl, by rw [hU], by rw [hU]; exact hPc, va_K.moved hW.alike hKc, hDc.weaken (fun _ _ _ _ => trivial)⟩⟩ rfl rfl hl.1 rfl (lv_room (Nat.le_of_ble_eq_true rfl)) dX0_indexed_26 ⟨by decide, by decide⟩) hS (fun q _ h => hFc q h) hFc (fun r24 u25 t H1 locs ht hvm hw hB hz1 hk1 hS => ?_)
    have hw : r24 = 0 ∧ True := hw
    obtain ⟨er24, -⟩ := hw
    obtain ⟨hP1, hK1, hD1⟩ := hB
    rw [ht] at hP1
    have hK1 := va_K.moved hvm.symm hK1
    obtain ⟨hP, hD⟩ := nv_join (wf := [(h1, .inr (6, [.int x15, .int x16, .int x17, .int x18, .int x19])), (h8, .inl (y0, 2501, .inl f0)), (h10, .inl (y1, 2501, .inl f1)), (h2, .inr (10, [.ref h8, .ref h9, .ref h10, .ref h11, .ref h12, .ref h13, .int x10, .int x11, .int u2_0, .int x13, .int x14, .long z0])), (h9, .inl (y2, 2501, .inl f2)), (h0, .inr (0, [.ref h2, .ref h1, .ref h3, .ref h4, .ref h5, .ref h6, .ref h7, .int x0, .int x1, .int x2, .int x3, .int x4, .int x5, .int x6, .int x7, .int 1, .int r22]))]) hP hD [0] [1, 2, 3, 4, 5] rfl rfl (by decide) (by decide) hk1 hFc hP1 hD1 rfl
    have hK := (hK.sub (tys' := [(y0, .int), (y1, .int), (y2, .int)]) [0, 1, 2] rfl).app hK1
    generalize H1 = H at hP hS ⊢
    have hK : va_K (dC, dI) vwCl [(y0, .int), (y1, .int), (y2, .int)] s := hK
    subst er24
    rw [hQ]
    obtain ⟨hP9, hD9⟩ := nv_sub2 (wc := [(h0, .inr (0, [.ref h2, .ref h1, .ref h3, .ref h4, .ref h5, .ref h6, .ref h7, .int x0, .int x1, .int x2, .int x3, .int x4, .int x5, .int x6, .int x7, .int 1, .int r22])), (h2, .inr (10, [.ref h8, .ref h9, .ref h10, .ref h11, .ref h12, .ref h13, .int x10, .int x11, .int u2_0, .int x13, .int x14, .long z0])), (h8, .inl (y0, 2501, .inl f0)), (h10, .inl (y1, 2501, .inl f1)), (h1, .inr (6, [.int x15, .int x16, .int x17, .int x18, .int x19])), (h9, .inl (y2, 2501, .inl f2))]) hP hD [5, 3, 1, 2, 0, 4] (by decide) rfl
    have hK9 := hK.sub (tys' := [(y0, .int), (y1, .int), (y2, .int)]) [0, 1, 2] rfl
    exact W.zret (v := 0) hx hb hr rfl (fun t ht hW => ⟨⟨0, (1, r22, u2_0, x15, x16, x17, x18, x19), rfl, ⟨iv_w (by decide : iv 0 0 0) (by decide) (by decide), iv_w iu2_0 (by decide) (by decide), iv_w ix18 (by decide) (by decide), iv_w ix19 (by decide) (by decide), trivial⟩, by rw [ht]; exact hP9, va_K.moved hW.alike hK9, hD9⟩, hS.F ht⟩) hS.2.2 dX0_indexed_29
set_option maxHeartbeats 100000000 in
set_option maxRecDepth 100000 in
theorem cX0_through_2 (l : Launch) (dC : Nat → ClassId) (dI : Nat → Nat → Nat) (h0 h1 h2 h3 h4 h5 h6 h7 h8 h9 h10 h11 h12 h13 : Nat) (y0 y1 y2 : ClassId) (sz : Nat) (x0 x1 x2 x3 x4 x5 x6 x7 x8 x9 x10 x11 x12 x13 x14 x15 x16 x17 x18 x19 : Int32) (z0 : Int64) (f0 f1 f2 : Nat → Int32) (ix0 : iv x0 0 2600) (ix1 : iv x1 0 1) (ix7 : iv x7 0 1) (ix10 : iv x10 0 2600) (ix11 : iv x11 0 2501) (ix12 : iv x12 0 2500) (ix18 : iv x18 0 1) (ix19 : iv x19 0 1) : Met l yX0_through (Cond.code yX0_through cX0_through 4 (some .boolean) :: lw_G) ({ frames := 1, cells := 0, slots := 0, locals := 22 }) (va_Pc [.ref h0, .ref h1] (fun U => U.heap.size = sz ∧ va_P (dC, dI) vwCl [(h0, .inr (0, [.ref h2, .ref h1, .ref h3, .ref h4, .ref h5, .ref h6, .ref h7, .int x0, .int x1, .int x2, .int x3, .int x4, .int x5, .int x6, .int x7, .int x8, .int x9])), (h2, .inr (10, [.ref h8, .ref h9, .ref h10, .ref h11, .ref h12, .ref h13, .int x10, .int x11, .int x12, .int x13, .int x14, .long z0])), (h8, .inl (y0, 2501, .inl f0)), (h10, .inl (y1, 2501, .inl f1)), (h1, .inr (6, [.int x15, .int x16, .int x17, .int x18, .int x19])), (h9, .inl (y2, 2501, .inl f2))] U.heap ∧ va_K (dC, dI) vwCl [(y0, .int), (y1, .int), (y2, .int)] U ∧ va_D (fun _ => True) [(h0, .inr (0, [.ref h2, .ref h1, .ref h3, .ref h4, .ref h5, .ref h6, .ref h7, .int x0, .int x1, .int x2, .int x3, .int x4, .int x5, .int x6, .int x7, .int x8, .int x9])), (h2, .inr (10, [.ref h8, .ref h9, .ref h10, .ref h11, .ref h12, .ref h13, .int x10, .int x11, .int x12, .int x13, .int x14, .long z0])), (h8, .inl (y0, 2501, .inl f0)), (h10, .inl (y1, 2501, .inl f1)), (h1, .inr (6, [.int x15, .int x16, .int x17, .int x18, .int x19])), (h9, .inl (y2, 2501, .inl f2))])) (va_Qi (fun (r : Int32) (u : Int32 × Int32 × Int32 × Int32 × Int32 × Int32 × Int32 × Int32) => iv r 0 1 ∧ iv u.2.2.1 0 2500 ∧ iv u.2.2.2.2.2.2.1 0 1 ∧ iv u.2.2.2.2.2.2.2 0 1 ∧ True) (fun (u : Int32 × Int32 × Int32 × Int32 × Int32 × Int32 × Int32 × Int32) (t : State) => va_P (dC, dI) vwCl [(h0, .inr (0, [.ref h2, .ref h1, .ref h3, .ref h4, .ref h5, .ref h6, .ref h7, .int x0, .int x1, .int x2, .int x3, .int x4, .int x5, .int x6, .int x7, .int u.1, .int u.2.1])), (h2, .inr (10, [.ref h8, .ref h9, .ref h10, .ref h11, .ref h12, .ref h13, .int x10, .int x11, .int u.2.2.1, .int x13, .int x14, .long z0])), (h8, .inl (y0, 2501, .inl f0)), (h10, .inl (y1, 2501, .inl f1)), (h1, .inr (6, [.int u.2.2.2.1, .int u.2.2.2.2.1, .int u.2.2.2.2.2.1, .int u.2.2.2.2.2.2.1, .int u.2.2.2.2.2.2.2])), (h9, .inl (y2, 2501, .inl f2))] t.heap ∧ va_K (dC, dI) vwCl [(y0, .int), (y1, .int), (y2, .int)] t ∧ va_D (va_A [(h0, .inr (0, [.ref h2, .ref h1, .ref h3, .ref h4, .ref h5, .ref h6, .ref h7, .int x0, .int x1, .int x2, .int x3, .int x4, .int x5, .int x6, .int x7, .int x8, .int x9])), (h2, .inr (10, [.ref h8, .ref h9, .ref h10, .ref h11, .ref h12, .ref h13, .int x10, .int x11, .int x12, .int x13, .int x14, .long z0])), (h8, .inl (y0, 2501, .inl f0)), (h10, .inl (y1, 2501, .inl f1)), (h1, .inr (6, [.int x15, .int x16, .int x17, .int x18, .int x19])), (h9, .inl (y2, 2501, .inl f2))] sz) [(h0, .inr (0, [.ref h2, .ref h1, .ref h3, .ref h4, .ref h5, .ref h6, .ref h7, .int x0, .int x1, .int x2, .int x3, .int x4, .int x5, .int x6, .int x7, .int u.1, .int u.2.1])), (h2, .inr (10, [.ref h8, .ref h9, .ref h10, .ref h11, .ref h12, .ref h13, .int x10, .int x11, .int u.2.2.1, .int x13, .int x14, .long z0])), (h8, .inl (y0, 2501, .inl f0)), (h10, .inl (y1, 2501, .inl f1)), (h1, .inr (6, [.int u.2.2.2.1, .int u.2.2.2.2.1, .int u.2.2.2.2.2.1, .int u.2.2.2.2.2.2.1, .int u.2.2.2.2.2.2.2])), (h9, .inl (y2, 2501, .inl f2))]) (va_A [(h0, .inr (0, [.ref h2, .ref h1, .ref h3, .ref h4, .ref h5, .ref h6, .ref h7, .int x0, .int x1, .int x2, .int x3, .int x4, .int x5, .int x6, .int x7, .int x8, .int x9])), (h2, .inr (10, [.ref h8, .ref h9, .ref h10, .ref h11, .ref h12, .ref h13, .int x10, .int x11, .int x12, .int x13, .int x14, .long z0])), (h8, .inl (y0, 2501, .inl f0)), (h10, .inl (y1, 2501, .inl f1)), (h1, .inr (6, [.int x15, .int x16, .int x17, .int x18, .int x19])), (h9, .inl (y2, 2501, .inl f2))] sz)) 0 0 (va_A [(h0, .inr (0, [.ref h2, .ref h1, .ref h3, .ref h4, .ref h5, .ref h6, .ref h7, .int x0, .int x1, .int x2, .int x3, .int x4, .int x5, .int x6, .int x7, .int x8, .int x9])), (h2, .inr (10, [.ref h8, .ref h9, .ref h10, .ref h11, .ref h12, .ref h13, .int x10, .int x11, .int x12, .int x13, .int x14, .long z0])), (h8, .inl (y0, 2501, .inl f0)), (h10, .inl (y1, 2501, .inl f1)), (h1, .inr (6, [.int x15, .int x16, .int x17, .int x18, .int x19])), (h9, .inl (y2, 2501, .inl f2))] sz) := by
  refine Met.ofW (cc := cX0_through) (maxL := 4) (ret := (some .boolean)) (by decide) rfl ?_
  intro p e s m args below meth c s₁ B hml hv
  obtain ⟨rfl, hsz, hP, hK, hD0⟩ := hv
  have hx := B.exec
  have hb := B.bytes
  have hr := B.returns
  have hts0 := atoms_spec (ws := Cond.code yX0_through cX0_through 4 (some .boolean) :: lw_G) B.pre
  have hG : ∀ w ∈ lw_G, w.before _ s = true := fun w h => hts0 w (List.mem_cons_of_mem _ h)
  have hown : s.vm.findClass RX0 = some m.cls := findClass_of_methodNamed B.named
  have hlocks := B.notSynchronized
  subst hsz
  have hD := hD0.self (sz := s.heap.size)
  generalize hAe : va_A [(h0, .inr (0, [.ref h2, .ref h1, .ref h3, .ref h4, .ref h5, .ref h6, .ref h7, .int x0, .int x1, .int x2, .int x3, .int x4, .int x5, .int x6, .int x7, .int x8, .int x9])), (h2, .inr (10, [.ref h8, .ref h9, .ref h10, .ref h11, .ref h12, .ref h13, .int x10, .int x11, .int x12, .int x13, .int x14, .long z0])), (h8, .inl (y0, 2501, .inl f0)), (h10, .inl (y1, 2501, .inl f1)), (h1, .inr (6, [.int x15, .int x16, .int x17, .int x18, .int x19])), (h9, .inl (y2, 2501, .inl f2))] s.heap.size = A at hD ⊢
  have hA : ∀ q : Nat, s.heap.size ≤ q → A q := fun q h => by rw [← hAe]; exact Or.inr h
  have hS : va_S A s.heap s.heap [] := va_S.rf
  have hP : va_P (dC, dI) vwCl [(h0, .inr (0, [.ref h2, .ref h1, .ref h3, .ref h4, .ref h5, .ref h6, .ref h7, .int x0, .int x1, .int x2, .int x3, .int x4, .int x5, .int x6, .int x7, .int x8, .int x9])), (h2, .inr (10, [.ref h8, .ref h9, .ref h10, .ref h11, .ref h12, .ref h13, .int x10, .int x11, .int x12, .int x13, .int x14, .long z0])), (h8, .inl (y0, 2501, .inl f0)), (h10, .inl (y1, 2501, .inl f1)), (h1, .inr (6, [.int x15, .int x16, .int x17, .int x18, .int x19])), (h9, .inl (y2, 2501, .inl f2))] s.heap := hP
  have hl := lv_entry ([.ref h0, .ref h1]) (n := 4) (Nat.le_of_ble_eq_true rfl)
  rw [lg_entry_eq]
  generalize (lg_sl ([.ref h0, .ref h1]) ++ List.replicate (4 - (lg_sl ([.ref h0, .ref h1])).length) Slot.unset).toArray = ls at hl ⊢
  have hl : lv_has ls 4 [(0, .ref h0), (1, .ref h1)] := hl
  generalize ([.ref h0, .ref h1] : List Value).toArray = ar at hG ⊢
  refine wq (fun Q hQ => ?_)
  refine lv_aload_n hx hb dX0_through_0 rfl (lv_at hl 0 rfl) ?_
  refine va_get (D := (dC, dI)) (ci := 0) (v := .ref h2) (C := RX0) (T := TX0) (N := 17) hx hb hG inGX0 hown hK hP 0 rfl rfl 0 (by decide) (hG _ wd_321) (fun _ h9 => h9) rfl dX0_through_1 ?_
  obtain ⟨hPc, hDc, hFc⟩ := nv_sub3 (wc := [(h2, .inr (10, [.ref h8, .ref h9, .ref h10, .ref h11, .ref h12, .ref h13, .int x10, .int x11, .int x12, .int x13, .int x14, .long z0]))]) hP hD hS hA [1] (by decide) rfl
  have hKc := hK.sub (tys' := []) [] rfl
  refine va_callv (va_runV (As := []) (rest := []) ⟨hx, hb, hml, hown, hG⟩ (cX10_skip_1 l dC dI h2 h8 h9 h10 h11 h12 h13 s.heap.size x10 x11 x12 x13 x14 z0 ix10 ix11 ix12) (cwV 0 hG (gV wd_576 wd_577 wd_578 wd_11 wd_579) rfl rfl rfl (by decide +kernel) ⟨Nat.le_of_ble_eq_true rfl, Nat.le_of_ble_eq_true rfl⟩) ⟨fun a U g mk q => by obtain ⟨q0, q1, qP, qK, qD⟩ := q; exact ⟨q0, q1, qP, va_K.moved (u := U) (U := U.calling g mk a) (Vm.Alike.refl U.vm) qK, qD⟩, va_recv hKc hPc (ci := 10) (q0 := 0) rfl rfl, fun U hU hW => ⟨rfl, by rw [hU], by rw [hU]; exact hPc, va_K.moved hW.alike hKc, hDc.weaken (fun _ _ _ _ => trivial)⟩⟩ rfl rfl hl.1 rfl (lv_room (Nat.le_of_ble_eq_true rfl)) dX0_through_4 ⟨by decide, by decide⟩) hS (fun q _ h => hFc q h) hFc (fun u2 t H1 locs ht hvm hw hB hz1 hk1 hS => ?_)
  obtain ⟨u2_0, rfl⟩ : ∃ z, z = u2 := ⟨_, rfl⟩
  have hw : iv u2_0 0 2500 ∧ True := hw
  obtain ⟨iu2_0, -⟩ := hw
  obtain ⟨hP1, hK1, hD1⟩ := hB
  rw [ht] at hP1
  have hK1 := va_K.moved hvm.symm hK1
  obtain ⟨hP, hD⟩ := nv_join (wf := [(h0, .inr (0, [.ref h2, .ref h1, .ref h3, .ref h4, .ref h5, .ref h6, .ref h7, .int x0, .int x1, .int x2, .int x3, .int x4, .int x5, .int x6, .int x7, .int x8, .int x9])), (h8, .inl (y0, 2501, .inl f0)), (h10, .inl (y1, 2501, .inl f1)), (h1, .inr (6, [.int x15, .int x16, .int x17, .int x18, .int x19])), (h9, .inl (y2, 2501, .inl f2)), (h2, .inr (10, [.ref h8, .ref h9, .ref h10, .ref h11, .ref h12, .ref h13, .int x10, .int x11, .int u2_0, .int x13, .int x14, .long z0]))]) hP hD [1] [0, 2, 3, 4, 5] rfl rfl (by decide) (by decide) hk1 hFc hP1 hD1 rfl
  have hK := (hK.sub (tys' := [(y0, .int), (y1, .int), (y2, .int)]) [0, 1, 2] rfl).app hK1
  generalize H1 = H at hP hS ⊢
  have hK : va_K (dC, dI) vwCl [(y0, .int), (y1, .int), (y2, .int)] s := hK
  refine lv_aload_n hx hb dX0_through_7 rfl (lv_at hl 0 rfl) ?_
  refine va_get (D := (dC, dI)) (ci := 0) (v := .ref h2) (C := RX0) (T := TX0) (N := 17) hx hb hG inGX0 hown hK hP 0 rfl rfl 0 (by decide) (hG _ wd_321) (fun _ h9 => h9) rfl dX0_through_8 ?_
  obtain ⟨hPc, hDc, hFc⟩ := nv_sub3 (wc := [(h2, .inr (10, [.ref h8, .ref h9, .ref h10, .ref h11, .ref h12, .ref h13, .int x10, .int x11, .int u2_0, .int x13, .int x14, .long z0])), (h8, .inl (y0, 2501, .inl f0)), (h10, .inl (y1, 2501, .inl f1))]) hP hD hS hA [5, 1, 2] (by decide) rfl
  have hKc := hK.sub (tys' := [(y0, .int), (y1, .int)]) [0, 1] rfl
  refine va_calli (va_runV (As := []) (rest := []) ⟨hx, hb, hml, hown, hG⟩ (cX10_isBase_1 l dC dI h2 h8 h9 h10 h11 h12 h13 y0 y1 H.size x10 x11 u2_0 x13 x14 z0 f0 f1 ix10 ix11 iu2_0) (cwV 0 hG (gV wd_634 wd_635 wd_636 wd_11 wd_637) rfl rfl rfl (by decide +kernel) ⟨Nat.le_of_ble_eq_true rfl, Nat.le_of_ble_eq_true rfl⟩) ⟨fun a U g mk q => by obtain ⟨q0, q1, qP, qK, qD⟩ := q; exact ⟨q0, q1, qP, va_K.moved (u := U) (U := U.calling g mk a) (Vm.Alike.refl U.vm) qK, qD⟩, va_recv hKc hPc (ci := 10) (q0 := 0) rfl rfl, fun U hU hW => ⟨rfl, by rw [hU], by rw [hU]; exact hPc, va_K.moved hW.alike hKc, hDc.weaken (fun _ _ _ _ => trivial)⟩⟩ rfl rfl hl.1 rfl (lv_room (Nat.le_of_ble_eq_true rfl)) dX0_through_11 ⟨by decide, by decide⟩) hS (fun q _ h => hFc q h) hFc (fun r3 u4 t H1 locs ht hvm hw hB hz1 hk1 hS => ?_)
  have hw : iv r3 0 1 ∧ True := hw
  obtain ⟨ir3, -⟩ := hw
  obtain ⟨hP1, hK1, hD1⟩ := hB
  rw [ht] at hP1
  have hK1 := va_K.moved hvm.symm hK1
  obtain ⟨hP, hD⟩ := nv_join (wf := [(h0, .inr (0, [.ref h2, .ref h1, .ref h3, .ref h4, .ref h5, .ref h6, .ref h7, .int x0, .int x1, .int x2, .int x3, .int x4, .int x5, .int x6, .int x7, .int x8, .int x9])), (h1, .inr (6, [.int x15, .int x16, .int x17, .int x18, .int x19])), (h9, .inl (y2, 2501, .inl f2)), (h2, .inr (10, [.ref h8, .ref h9, .ref h10, .ref h11, .ref h12, .ref h13, .int x10, .int x11, .int u2_0, .int x13, .int x14, .long z0])), (h8, .inl (y0, 2501, .inl f0)), (h10, .inl (y1, 2501, .inl f1))]) hP hD [5, 1, 2] [0, 3, 4] rfl rfl (by decide) (by decide) hk1 hFc hP1 hD1 rfl
  have hK := (hK.sub (tys' := [(y2, .int)]) [2] rfl).app hK1
  generalize H1 = H at hP hS ⊢
  have hK : va_K (dC, dI) vwCl [(y2, .int), (y0, .int), (y1, .int)] s := hK
  refine lv_if_ne (tgt := 30) hx hb dX0_through_14 (by decide) (fun c5 => ?_) (fun c5 => ?_)
  · skip
    have j6 : iv r3 1 1 := iv_neLo ir3 (by decide : iv 0 0 0) c5 (by decide)
    refine lv_aload_n hx hb dX0_through_30 rfl (lv_at hl 0 rfl) ?_
    refine va_get (D := (dC, dI)) (ci := 0) (v := .ref h2) (C := RX0) (T := TX0) (N := 17) hx hb hG inGX0 hown hK hP 0 rfl rfl 0 (by decide) (hG _ wd_321) (fun _ h9 => h9) rfl dX0_through_31 ?_
    obtain ⟨hPc, hDc, hFc⟩ := nv_sub3 (wc := [(h2, .inr (10, [.ref h8, .ref h9, .ref h10, .ref h11, .ref h12, .ref h13, .int x10, .int x11, .int u2_0, .int x13, .int x14, .long z0])), (h10, .inl (y1, 2501, .inl f1))]) hP hD hS hA [3, 5] (by decide) rfl
    have hKc := hK.sub (tys' := [(y1, .int)]) [2] rfl
    refine va_calli (va_runV (As := []) (rest := []) ⟨hx, hb, hml, hown, hG⟩ (cX10_value_1 l dC dI h2 h8 h9 h10 h11 h12 h13 y1 H.size x10 x11 u2_0 x13 x14 z0 f1 ix10 ix11 iu2_0) (cwV 0 hG (gV wd_584 wd_585 wd_586 wd_11 wd_587) rfl rfl rfl (by decide +kernel) ⟨Nat.le_of_ble_eq_true rfl, Nat.le_of_ble_eq_true rfl⟩) ⟨fun a U g mk q => by obtain ⟨q0, q1, qP, qK, qD⟩ := q; exact ⟨q0, q1, qP, va_K.moved (u := U) (U := U.calling g mk a) (Vm.Alike.refl U.vm) qK, qD⟩, va_recv hKc hPc (ci := 10) (q0 := 0) rfl rfl, fun U hU hW => ⟨rfl, by rw [hU], by rw [hU]; exact hPc, va_K.moved hW.alike hKc, hDc.weaken (fun _ _ _ _ => trivial)⟩⟩ rfl rfl hl.1 rfl (lv_room (Nat.le_of_ble_eq_true rfl)) dX0_through_34 ⟨by decide, by decide⟩) hS (fun q _ h => hFc q h) hFc (fun r7 u8 t H1 locs ht hvm hw hB hz1 hk1 hS => ?_)
    obtain ⟨hP1, hK1, hD1⟩ := hB
    rw [ht] at hP1
    have hK1 := va_K.moved hvm.symm hK1
    obtain ⟨hP, hD⟩ := nv_join (wf := [(h0, .inr (0, [.ref h2, .ref h1, .ref h3, .ref h4, .ref h5, .ref h6, .ref h7, .int x0, .int x1, .int x2, .int x3, .int x4, .int x5, .int x6, .int x7, .int x8, .int x9])), (h1, .inr (6, [.int x15, .int x16, .int x17, .int x18, .int x19])), (h9, .inl (y2, 2501, .inl f2)), (h8, .inl (y0, 2501, .inl f0)), (h2, .inr (10, [.ref h8, .ref h9, .ref h10, .ref h11, .ref h12, .ref h13, .int x10, .int x11, .int u2_0, .int x13, .int x14, .long z0])), (h10, .inl (y1, 2501, .inl f1))]) hP hD [3, 5] [0, 1, 2, 4] rfl rfl (by decide) (by decide) hk1 hFc hP1 hD1 rfl
    have hK := (hK.sub (tys' := [(y2, .int), (y0, .int)]) [0, 1] rfl).app hK1
    generalize H1 = H at hP hS ⊢
    have hK : va_K (dC, dI) vwCl [(y2, .int), (y0, .int), (y1, .int)] s := hK
    refine lv_istore_n (lv' := [(2, .int r7), (0, .ref h0), (1, .ref h1)]) hx hb dX0_through_37 rfl hl (by decide) rfl (fun ls hl => ?_)
    refine lv_aload_n hx hb dX0_through_38 rfl (lv_at hl 1 rfl) ?_
    refine va_get (D := (dC, dI)) (ci := 0) (v := .ref h2) (C := RX0) (T := TX0) (N := 17) hx hb hG inGX0 hown hK hP 0 rfl rfl 0 (by decide) (hG _ wd_321) (fun _ h9 => h9) rfl dX0_through_39 ?_
    obtain ⟨hPc, hDc, hFc⟩ := nv_sub3 (wc := [(h2, .inr (10, [.ref h8, .ref h9, .ref h10, .ref h11, .ref h12, .ref h13, .int x10, .int x11, .int u2_0, .int x13, .int x14, .long z0]))]) hP hD hS hA [4] (by decide) rfl
    have hKc := hK.sub (tys' := []) [] rfl
    refine va_callv (va_runV (As := []) (rest := []) ⟨hx, hb, hml, hown, hG⟩ (cX10_skip_1 l dC dI h2 h8 h9 h10 h11 h12 h13 H.size x10 x11 u2_0 x13 x14 z0 ix10 ix11 iu2_0) (cwV 0 hG (gV wd_576 wd_577 wd_578 wd_11 wd_579) rfl rfl rfl (by decide +kernel) ⟨Nat.le_of_ble_eq_true rfl, Nat.le_of_ble_eq_true rfl⟩) ⟨fun a U g mk q => by obtain ⟨q0, q1, qP, qK, qD⟩ := q; exact ⟨q0, q1, qP, va_K.moved (u := U) (U := U.calling g mk a) (Vm.Alike.refl U.vm) qK, qD⟩, va_recv hKc hPc (ci := 10) (q0 := 0) rfl rfl, fun U hU hW => ⟨rfl, by rw [hU], by rw [hU]; exact hPc, va_K.moved hW.alike hKc, hDc.weaken (fun _ _ _ _ => trivial)⟩⟩ rfl rfl hl.1 rfl (lv_room (Nat.le_of_ble_eq_true rfl)) dX0_through_42 ⟨by decide, by decide⟩) hS (fun q _ h => hFc q h) hFc (fun u10 t H1 locs ht hvm hw hB hz1 hk1 hS => ?_)
    obtain ⟨u10_0, rfl⟩ : ∃ z, z = u10 := ⟨_, rfl⟩
    have hw : iv u10_0 0 2500 ∧ True := hw
    obtain ⟨iu10_0, -⟩ := hw
    obtain ⟨hP1, hK1, hD1⟩ := hB
    rw [ht] at hP1
    have hK1 := va_K.moved hvm.symm hK1
    obtain ⟨hP, hD⟩ := nv_join (wf := [(h0, .inr (0, [.ref h2, .ref h1, .ref h3, .ref h4, .ref h5, .ref h6, .ref h7, .int x0, .int x1, .int x2, .int x3, .int x4, .int x5, .int x6, .int x7, .int x8, .int x9])), (h1, .inr (6, [.int x15, .int x16, .int x17, .int x18, .int x19])), (h9, .inl (y2, 2501, .inl f2)), (h8, .inl (y0, 2501, .inl f0)), (h10, .inl (y1, 2501, .inl f1)), (h2, .inr (10, [.ref h8, .ref h9, .ref h10, .ref h11, .ref h12, .ref h13, .int x10, .int x11, .int u10_0, .int x13, .int x14, .long z0]))]) hP hD [4] [0, 1, 2, 3, 5] rfl rfl (by decide) (by decide) hk1 hFc hP1 hD1 rfl
    have hK := (hK.sub (tys' := [(y2, .int), (y0, .int), (y1, .int)]) [0, 1, 2] rfl).app hK1
    generalize H1 = H at hP hS ⊢
    have hK : va_K (dC, dI) vwCl [(y2, .int), (y0, .int), (y1, .int)] s := hK
    refine lv_aload_n hx hb dX0_through_45 rfl (lv_at hl 1 rfl) ?_
    refine va_get (D := (dC, dI)) (ci := 0) (v := .ref h2) (C := RX0) (T := TX0) (N := 17) hx hb hG inGX0 hown hK hP 0 rfl rfl 0 (by decide) (hG _ wd_321) (fun _ h9 => h9) rfl dX0_through_46 ?_
    obtain ⟨hPc, hDc, hFc⟩ := nv_sub3 (wc := [(h2, .inr (10, [.ref h8, .ref h9, .ref h10, .ref h11, .ref h12, .ref h13, .int x10, .int x11, .int u10_0, .int x13, .int x14, .long z0])), (h8, .inl (y0, 2501, .inl f0))]) hP hD hS hA [5, 3] (by decide) rfl
    have hKc := hK.sub (tys' := [(y0, .int)]) [1] rfl
    refine va_calli (va_runV (As := []) (rest := []) ⟨hx, hb, hml, hown, hG⟩ (cX10_kind_1 l dC dI h2 h8 h9 h10 h11 h12 h13 y0 H.size x10 x11 u10_0 x13 x14 z0 f0 ix10 ix11 iu10_0) (cwV 0 hG (gV wd_556 wd_557 wd_558 wd_11 wd_559) rfl rfl rfl (by decide +kernel) ⟨Nat.le_of_ble_eq_true rfl, Nat.le_of_ble_eq_true rfl⟩) ⟨fun a U g mk q => by obtain ⟨q0, q1, qP, qK, qD⟩ := q; exact ⟨q0, q1, qP, va_K.moved (u := U) (U := U.calling g mk a) (Vm.Alike.refl U.vm) qK, qD⟩, va_recv hKc hPc (ci := 10) (q0 := 0) rfl rfl, fun U hU hW => ⟨rfl, by rw [hU], by rw [hU]; exact hPc, va_K.moved hW.alike hKc, hDc.weaken (fun _ _ _ _ => trivial)⟩⟩ rfl rfl hl.1 rfl (lv_room (Nat.le_of_ble_eq_true rfl)) dX0_through_49 ⟨by decide, by decide⟩) hS (fun q _ h => hFc q h) hFc (fun r11 u12 t H1 locs ht hvm hw hB hz1 hk1 hS => ?_)
    obtain ⟨hP1, hK1, hD1⟩ := hB
    rw [ht] at hP1
    have hK1 := va_K.moved hvm.symm hK1
    obtain ⟨hP, hD⟩ := nv_join (wf := [(h0, .inr (0, [.ref h2, .ref h1, .ref h3, .ref h4, .ref h5, .ref h6, .ref h7, .int x0, .int x1, .int x2, .int x3, .int x4, .int x5, .int x6, .int x7, .int x8, .int x9])), (h1, .inr (6, [.int x15, .int x16, .int x17, .int x18, .int x19])), (h9, .inl (y2, 2501, .inl f2)), (h10, .inl (y1, 2501, .inl f1)), (h2, .inr (10, [.ref h8, .ref h9, .ref h10, .ref h11, .ref h12, .ref h13, .int x10, .int x11, .int u10_0, .int x13, .int x14, .long z0])), (h8, .inl (y0, 2501, .inl f0))]) hP hD [5, 3] [0, 1, 2, 4] rfl rfl (by decide) (by decide) hk1 hFc hP1 hD1 rfl
    have hK := (hK.sub (tys' := [(y2, .int), (y1, .int)]) [0, 2] rfl).app hK1
    generalize H1 = H at hP hS ⊢
    have hK : va_K (dC, dI) vwCl [(y2, .int), (y1, .int), (y0, .int)] s := hK
    refine lv_bipush (v := 43) hx hb dX0_through_52 (by decide) ?_
    refine jcut (a := ∀ (b14 : Int32) (ib14 : iv b14 0 1) (H : Heap) (locs : List Loc) (hK : va_K (dC, dI) vwCl [(y2, .int), (y1, .int), (y0, .int)] s) (hP : va_P (dC, dI) vwCl [(h0, .inr (0, [.ref h2, .ref h1, .ref h3, .ref h4, .ref h5, .ref h6, .ref h7, .int x0, .int x1, .int x2, .int x3, .int x4, .int x5, .int x6, .int x7, .int x8, .int x9])), (h1, .inr (6, [.int x15, .int x16, .int x17, .int x18, .int x19])), (h9, .inl (y2, 2501, .inl f2)), (h10, .inl (y1, 2501, .inl f1)), (h2, .inr (10, [.ref h8, .ref h9, .ref h10, .ref h11, .ref h12, .ref h13, .int x10, .int x11, .int u10_0, .int x13, .int x14, .long z0])), (h8, .inl (y0, 2501, .inl f0))] H) (hD : va_D A [(h0, .inr (0, [.ref h2, .ref h1, .ref h3, .ref h4, .ref h5, .ref h6, .ref h7, .int x0, .int x1, .int x2, .int x3, .int x4, .int x5, .int x6, .int x7, .int x8, .int x9])), (h1, .inr (6, [.int x15, .int x16, .int x17, .int x18, .int x19])), (h9, .inl (y2, 2501, .inl f2)), (h10, .inl (y1, 2501, .inl f1)), (h2, .inr (10, [.ref h8, .ref h9, .ref h10, .ref h11, .ref h12, .ref h13, .int x10, .int x11, .int u10_0, .int x13, .int x14, .long z0])), (h8, .inl (y0, 2501, .inl f0))]) (hS : va_S A s.heap H locs) (ls : Array Slot) (hl : lv_has ls 4 [(2, .int r7), (0, .ref h0), (1, .ref h1)]), W p l e (headSpec (Cond.code yX0_through cX0_through 4 (some .boolean) :: lw_G) ({ frames := 1, cells := 0, slots := 0, locals := 22 })).room s m ar below meth c H locs 0 0 Q (F0 m 62 ls [.int b14])) ?_ (fun j15 => ?_)
    · skip
      intro b14 ib14 H locs hK hP hD hS ls hl
      refine lv_istore_n (lv' := [(3, .int b14), (2, .int r7), (0, .ref h0), (1, .ref h1)]) hx hb dX0_through_62 rfl hl (by decide) rfl (fun ls hl => ?_)
      refine lv_iload_n hx hb dX0_through_63 rfl (lv_at hl 0 rfl) ?_
      refine jcut (a := ∀ (b20 : Int32) (b21 : Int32) (ib20 : iv b20 0 1) (ib21 : iv b21 0 2500) (H : Heap) (locs : List Loc) (hK : va_K (dC, dI) vwCl [(y2, .int), (y1, .int), (y0, .int)] s) (hP : va_P (dC, dI) vwCl [(h0, .inr (0, [.ref h2, .ref h1, .ref h3, .ref h4, .ref h5, .ref h6, .ref h7, .int x0, .int x1, .int x2, .int x3, .int x4, .int x5, .int x6, .int x7, .int x8, .int x9])), (h1, .inr (6, [.int x15, .int x16, .int x17, .int x18, .int x19])), (h9, .inl (y2, 2501, .inl f2)), (h10, .inl (y1, 2501, .inl f1)), (h2, .inr (10, [.ref h8, .ref h9, .ref h10, .ref h11, .ref h12, .ref h13, .int x10, .int x11, .int b21, .int x13, .int x14, .long z0])), (h8, .inl (y0, 2501, .inl f0))] H) (hD : va_D A [(h0, .inr (0, [.ref h2, .ref h1, .ref h3, .ref h4, .ref h5, .ref h6, .ref h7, .int x0, .int x1, .int x2, .int x3, .int x4, .int x5, .int x6, .int x7, .int x8, .int x9])), (h1, .inr (6, [.int x15, .int x16, .int x17, .int x18, .int x19])), (h9, .inl (y2, 2501, .inl f2)), (h10, .inl (y1, 2501, .inl f1)), (h2, .inr (10, [.ref h8, .ref h9, .ref h10, .ref h11, .ref h12, .ref h13, .int x10, .int x11, .int b21, .int x13, .int x14, .long z0])), (h8, .inl (y0, 2501, .inl f0))]) (hS : va_S A s.heap H locs) (ls : Array Slot) (hl : lv_has ls 4 [(3, .int b20), (2, .int r7), (1, .ref h1)]), W p l e (headSpec (Cond.code yX0_through cX0_through 4 (some .boolean) :: lw_G) ({ frames := 1, cells := 0, slots := 0, locals := 22 })).room s m ar below meth c H locs 0 0 Q (F0 m 74 ls [])) ?_ (fun j22 => ?_)
      · skip
        intro b20 b21 ib20 ib21 H locs hK hP hD hS ls hl
        refine lv_aload_n hx hb dX0_through_74 rfl (lv_at hl 2 rfl) ?_
        refine lv_iload_n hx hb dX0_through_75 rfl (lv_at hl 0 rfl) ?_
        refine jcut (a := ∀ (b25 : Int32) (ib25 : iv b25 2 3) (H : Heap) (locs : List Loc) (hK : va_K (dC, dI) vwCl [(y2, .int), (y1, .int), (y0, .int)] s) (hP : va_P (dC, dI) vwCl [(h0, .inr (0, [.ref h2, .ref h1, .ref h3, .ref h4, .ref h5, .ref h6, .ref h7, .int x0, .int x1, .int x2, .int x3, .int x4, .int x5, .int x6, .int x7, .int x8, .int x9])), (h1, .inr (6, [.int x15, .int x16, .int x17, .int x18, .int x19])), (h9, .inl (y2, 2501, .inl f2)), (h10, .inl (y1, 2501, .inl f1)), (h2, .inr (10, [.ref h8, .ref h9, .ref h10, .ref h11, .ref h12, .ref h13, .int x10, .int x11, .int b21, .int x13, .int x14, .long z0])), (h8, .inl (y0, 2501, .inl f0))] H) (hD : va_D A [(h0, .inr (0, [.ref h2, .ref h1, .ref h3, .ref h4, .ref h5, .ref h6, .ref h7, .int x0, .int x1, .int x2, .int x3, .int x4, .int x5, .int x6, .int x7, .int x8, .int x9])), (h1, .inr (6, [.int x15, .int x16, .int x17, .int x18, .int x19])), (h9, .inl (y2, 2501, .inl f2)), (h10, .inl (y1, 2501, .inl f1)), (h2, .inr (10, [.ref h8, .ref h9, .ref h10, .ref h11, .ref h12, .ref h13, .int x10, .int x11, .int b21, .int x13, .int x14, .long z0])), (h8, .inl (y0, 2501, .inl f0))]) (hS : va_S A s.heap H locs) (ls : Array Slot) (hl : lv_has ls 4 [(2, .int r7)]), W p l e (headSpec (Cond.code yX0_through cX0_through 4 (some .boolean) :: lw_G) ({ frames := 1, cells := 0, slots := 0, locals := 22 })).room s m ar below meth c H locs 0 0 Q (F0 m 84 ls [.int b25, .ref h1])) ?_ (fun j26 => ?_)
        · skip
          intro b25 ib25 H locs hK hP hD hS ls hl
          refine lv_iload_n hx hb dX0_through_84 rfl (lv_at hl 0 rfl) ?_
          obtain ⟨hPc, hDc, hFc⟩ := nv_sub3 (wc := [(h1, .inr (6, [.int x15, .int x16, .int x17, .int x18, .int x19]))]) hP hD hS hA [1] (by decide) rfl
          have hKc := hK.sub (tys' := []) [] rfl
          refine va_callv (va_runV (As := [.int b25, .int r7]) (rest := []) ⟨hx, hb, hml, hown, hG⟩ (cX6_take_1 l dC dI h1 H.size b25 r7 x15 x16 x17 x18 x19 ix18 ix19) (cwV 2 hG (gV wd_626 wd_627 wd_628 wd_9 wd_629) rfl rfl rfl (by decide +kernel) ⟨Nat.le_of_ble_eq_true rfl, Nat.le_of_ble_eq_true rfl⟩) ⟨fun a U g mk q => by obtain ⟨q0, q1, qP, qK, qD⟩ := q; exact ⟨q0, q1, qP, va_K.moved (u := U) (U := U.calling g mk a) (Vm.Alike.refl U.vm) qK, qD⟩, va_recv hKc hPc (ci := 6) (q0 := 0) rfl rfl, fun U hU hW => ⟨rfl, by rw [hU], by rw [hU]; exact hPc, va_K.moved hW.alike hKc, hDc.weaken (fun _ _ _ _ => trivial)⟩⟩ rfl rfl hl.1 rfl (lv_room (Nat.le_of_ble_eq_true rfl)) dX0_through_85 ⟨by decide, by decide⟩) hS (fun q _ h => hFc q h) hFc (fun u28 t H1 locs ht hvm hw hB hz1 hk1 hS => ?_)
          obtain ⟨hP1, hK1, hD1⟩ := hB
          rw [ht] at hP1
          have hK1 := va_K.moved hvm.symm hK1
          obtain ⟨hP, hD⟩ := nv_join (wf := [(h0, .inr (0, [.ref h2, .ref h1, .ref h3, .ref h4, .ref h5, .ref h6, .ref h7, .int x0, .int x1, .int x2, .int x3, .int x4, .int x5, .int x6, .int x7, .int x8, .int x9])), (h9, .inl (y2, 2501, .inl f2)), (h10, .inl (y1, 2501, .inl f1)), (h2, .inr (10, [.ref h8, .ref h9, .ref h10, .ref h11, .ref h12, .ref h13, .int x10, .int x11, .int b21, .int x13, .int x14, .long z0])), (h8, .inl (y0, 2501, .inl f0)), (h1, .inr (6, [.int b25, .int r7, .int 0, .int 0, .int 0]))]) hP hD [1] [0, 2, 3, 4, 5] rfl rfl (by decide) (by decide) hk1 hFc hP1 hD1 rfl
          have hK := (hK.sub (tys' := [(y2, .int), (y1, .int), (y0, .int)]) [0, 1, 2] rfl).app hK1
          generalize H1 = H at hP hS ⊢
          have hK : va_K (dC, dI) vwCl [(y2, .int), (y1, .int), (y0, .int)] s := hK
          refine lv_iconst (v := 1) hx hb dX0_through_88 (by decide) ?_
          rw [hQ]
          obtain ⟨hP9, hD9⟩ := nv_sub2 (wc := [(h0, .inr (0, [.ref h2, .ref h1, .ref h3, .ref h4, .ref h5, .ref h6, .ref h7, .int x0, .int x1, .int x2, .int x3, .int x4, .int x5, .int x6, .int x7, .int x8, .int x9])), (h2, .inr (10, [.ref h8, .ref h9, .ref h10, .ref h11, .ref h12, .ref h13, .int x10, .int x11, .int b21, .int x13, .int x14, .long z0])), (h8, .inl (y0, 2501, .inl f0)), (h10, .inl (y1, 2501, .inl f1)), (h1, .inr (6, [.int b25, .int r7, .int 0, .int 0, .int 0])), (h9, .inl (y2, 2501, .inl f2))]) hP hD [0, 3, 4, 2, 5, 1] (by decide) rfl
          have hK9 := hK.sub (tys' := [(y0, .int), (y1, .int), (y2, .int)]) [2, 1, 0] rfl
          exact W.zret (v := 1) hx hb hr rfl (fun t ht hW => ⟨⟨1, (x8, x9, b21, b25, r7, 0, 0, 0), rfl, ⟨iv_w (by decide : iv 1 1 1) (by decide) (by decide), iv_w ib21 (by decide) (by decide), iv_w (by decide : iv 0 0 0) (by decide) (by decide), iv_w (by decide : iv 0 0 0) (by decide) (by decide), trivial⟩, by rw [ht]; exact hP9, va_K.moved hW.alike hK9, hD9⟩, hS.F ht⟩) hS.2.2 dX0_through_89
        refine lv_if_eq (tgt := 83) hx hb dX0_through_76 (by decide) (fun c23 => ?_) (fun c23 => ?_)
        · skip
          subst c23
          refine lv_iconst (v := 2) hx hb dX0_through_83 (by decide) ?_
          exact j26 2 (iv_w (by decide : iv 2 2 2) (by decide) (by decide)) _ _ hK hP hD hS ls (lv_sub hl [1] rfl)
        · skip
          have j29 : iv b20 1 1 := iv_neLo ib20 (by decide : iv 0 0 0) c23 (by decide)
          refine lv_iconst (v := 3) hx hb dX0_through_79 (by decide) ?_
          refine lv_goto (tgt := 84) hx hb dX0_through_80 (by decide) ?_
          exact j26 3 (iv_w (by decide : iv 3 3 3) (by decide) (by decide)) _ _ hK hP hD hS ls (lv_sub hl [1] rfl)
      refine lv_if_eq (tgt := 74) hx hb dX0_through_64 (by decide) (fun c16 => ?_) (fun c16 => ?_)
      · skip
        subst c16
        exact j22 0 u10_0 (iv_w (by decide : iv 0 0 0) (by decide) (by decide)) iu10_0 _ _ hK hP hD hS ls (lv_sub hl [0, 1, 3] rfl)
      · skip
        have j30 : iv b14 1 1 := iv_neLo ib14 (by decide : iv 0 0 0) c16 (by decide)
        refine lv_aload_n hx hb dX0_through_67 rfl (lv_at hl 2 rfl) ?_
        refine va_get (D := (dC, dI)) (ci := 0) (v := .ref h2) (C := RX0) (T := TX0) (N := 17) hx hb hG inGX0 hown hK hP 0 rfl rfl 0 (by decide) (hG _ wd_321) (fun _ h9 => h9) rfl dX0_through_68 ?_
        obtain ⟨hPc, hDc, hFc⟩ := nv_sub3 (wc := [(h2, .inr (10, [.ref h8, .ref h9, .ref h10, .ref h11, .ref h12, .ref h13, .int x10, .int x11, .int u10_0, .int x13, .int x14, .long z0]))]) hP hD hS hA [4] (by decide) rfl
        have hKc := hK.sub (tys' := []) [] rfl
        refine va_callv (va_runV (As := []) (rest := []) ⟨hx, hb, hml, hown, hG⟩ (cX10_skip_1 l dC dI h2 h8 h9 h10 h11 h12 h13 H.size x10 x11 u10_0 x13 x14 z0 ix10 ix11 iu10_0) (cwV 0 hG (gV wd_576 wd_577 wd_578 wd_11 wd_579) rfl rfl rfl (by decide +kernel) ⟨Nat.le_of_ble_eq_true rfl, Nat.le_of_ble_eq_true rfl⟩) ⟨fun a U g mk q => by obtain ⟨q0, q1, qP, qK, qD⟩ := q; exact ⟨q0, q1, qP, va_K.moved (u := U) (U := U.calling g mk a) (Vm.Alike.refl U.vm) qK, qD⟩, va_recv hKc hPc (ci := 10) (q0 := 0) rfl rfl, fun U hU hW => ⟨rfl, by rw [hU], by rw [hU]; exact hPc, va_K.moved hW.alike hKc, hDc.weaken (fun _ _ _ _ => trivial)⟩⟩ rfl rfl hl.1 rfl (lv_room (Nat.le_of_ble_eq_true rfl)) dX0_through_71 ⟨by decide, by decide⟩) hS (fun q _ h => hFc q h) hFc (fun u32 t H1 locs ht hvm hw hB hz1 hk1 hS => ?_)
        obtain ⟨u32_0, rfl⟩ : ∃ z, z = u32 := ⟨_, rfl⟩
        have hw : iv u32_0 0 2500 ∧ True := hw
        obtain ⟨iu32_0, -⟩ := hw
        obtain ⟨hP1, hK1, hD1⟩ := hB
        rw [ht] at hP1
        have hK1 := va_K.moved hvm.symm hK1
        obtain ⟨hP, hD⟩ := nv_join (wf := [(h0, .inr (0, [.ref h2, .ref h1, .ref h3, .ref h4, .ref h5, .ref h6, .ref h7, .int x0, .int x1, .int x2, .int x3, .int x4, .int x5, .int x6, .int x7, .int x8, .int x9])), (h1, .inr (6, [.int x15, .int x16, .int x17, .int x18, .int x19])), (h9, .inl (y2, 2501, .inl f2)), (h10, .inl (y1, 2501, .inl f1)), (h8, .inl (y0, 2501, .inl f0)), (h2, .inr (10, [.ref h8, .ref h9, .ref h10, .ref h11, .ref h12, .ref h13, .int x10, .int x11, .int u32_0, .int x13, .int x14, .long z0]))]) hP hD [4] [0, 1, 2, 3, 5] rfl rfl (by decide) (by decide) hk1 hFc hP1 hD1 rfl
        have hK := (hK.sub (tys' := [(y2, .int), (y1, .int), (y0, .int)]) [0, 1, 2] rfl).app hK1
        generalize H1 = H at hP hS ⊢
        have hK : va_K (dC, dI) vwCl [(y2, .int), (y1, .int), (y0, .int)] s := hK
        exact j22 b14 u32_0 (iv_w j30 (by decide) (by decide)) iu32_0 _ _ hK (hP.sub (ws' := _) [0, 1, 2, 3, 5, 4] rfl) (hD.sub (ws' := _) [0, 1, 2, 3, 5, 4] (by decide) rfl) hS ls (lv_sub hl [0, 1, 3] rfl)
    refine lv_icmp_ne (tgt := 61) hx hb dX0_through_54 (by decide) (fun c13 => ?_) (fun c13 => ?_)
    · skip
      refine lv_iconst (v := 0) hx hb dX0_through_61 (by decide) ?_
      exact j15 0 (iv_w (by decide : iv 0 0 0) (by decide) (by decide)) _ _ hK hP hD hS ls hl
    · skip
      subst c13
      refine lv_iconst (v := 1) hx hb dX0_through_57 (by decide) ?_
      refine lv_goto (tgt := 62) hx hb dX0_through_58 (by decide) ?_
      exact j15 1 (iv_w (by decide : iv 1 1 1) (by decide) (by decide)) _ _ hK hP hD hS ls hl
  · skip
    subst c5
    refine lv_aload_n hx hb dX0_through_17 rfl (lv_at hl 0 rfl) ?_
    refine lv_iconst (v := 1) hx hb dX0_through_18 (by decide) ?_
    refine lv_aload_n hx hb dX0_through_19 rfl (lv_at hl 0 rfl) ?_
    refine va_get (D := (dC, dI)) (ci := 0) (v := .ref h2) (C := RX0) (T := TX0) (N := 17) hx hb hG inGX0 hown hK hP 0 rfl rfl 0 (by decide) (hG _ wd_321) (fun _ h9 => h9) rfl dX0_through_20 ?_
    obtain ⟨hPc, hDc, hFc⟩ := nv_sub3 (wc := [(h2, .inr (10, [.ref h8, .ref h9, .ref h10, .ref h11, .ref h12, .ref h13, .int x10, .int x11, .int u2_0, .int x13, .int x14, .long z0])), (h9, .inl (y2, 2501, .inl f2))]) hP hD hS hA [3, 2] (by decide) rfl
    have hKc := hK.sub (tys' := [(y2, .int)]) [0] rfl
    refine va_calli (va_runV (As := []) (rest := [.int 1, .ref h0]) ⟨hx, hb, hml, hown, hG⟩ (cX10_place_1 l dC dI h2 h8 h9 h10 h11 h12 h13 y2 H.size x10 x11 u2_0 x13 x14 z0 f2 ix10 ix11 iu2_0) (cwV 0 hG (gV wd_572 wd_573 wd_574 wd_11 wd_575) rfl rfl rfl (by decide +kernel) ⟨Nat.le_of_ble_eq_true rfl, Nat.le_of_ble_eq_true rfl⟩) ⟨fun a U g mk q => by obtain ⟨q0, q1, qP, qK, qD⟩ := q; exact ⟨q0, q1, qP, va_K.moved (u := U) (U := U.calling g mk a) (Vm.Alike.refl U.vm) qK, qD⟩, va_recv hKc hPc (ci := 10) (q0 := 0) rfl rfl, fun U hU hW => ⟨rfl, by rw [hU], by rw [hU]; exact hPc, va_K.moved hW.alike hKc, hDc.weaken (fun _ _ _ _ => trivial)⟩⟩ rfl rfl hl.1 rfl (lv_room (Nat.le_of_ble_eq_true rfl)) dX0_through_23 ⟨by decide, by decide⟩) hS (fun q _ h => hFc q h) hFc (fun r33 u34 t H1 locs ht hvm hw hB hz1 hk1 hS => ?_)
    obtain ⟨hP1, hK1, hD1⟩ := hB
    rw [ht] at hP1
    have hK1 := va_K.moved hvm.symm hK1
    obtain ⟨hP, hD⟩ := nv_join (wf := [(h0, .inr (0, [.ref h2, .ref h1, .ref h3, .ref h4, .ref h5, .ref h6, .ref h7, .int x0, .int x1, .int x2, .int x3, .int x4, .int x5, .int x6, .int x7, .int x8, .int x9])), (h1, .inr (6, [.int x15, .int x16, .int x17, .int x18, .int x19])), (h8, .inl (y0, 2501, .inl f0)), (h10, .inl (y1, 2501, .inl f1)), (h2, .inr (10, [.ref h8, .ref h9, .ref h10, .ref h11, .ref h12, .ref h13, .int x10, .int x11, .int u2_0, .int x13, .int x14, .long z0])), (h9, .inl (y2, 2501, .inl f2))]) hP hD [3, 2] [0, 1, 4, 5] rfl rfl (by decide) (by decide) hk1 hFc hP1 hD1 rfl
    have hK := (hK.sub (tys' := [(y0, .int), (y1, .int)]) [1, 2] rfl).app hK1
    generalize H1 = H at hP hS ⊢
    have hK : va_K (dC, dI) vwCl [(y0, .int), (y1, .int), (y2, .int)] s := hK
    obtain ⟨hPc, hDc, hFc⟩ := nv_sub3 (wc := [(h0, .inr (0, [.ref h2, .ref h1, .ref h3, .ref h4, .ref h5, .ref h6, .ref h7, .int x0, .int x1, .int x2, .int x3, .int x4, .int x5, .int x6, .int x7, .int x8, .int x9]))]) hP hD hS hA [0] (by decide) rfl
    have hKc := hK.sub (tys' := []) [] rfl
    refine va_calli (va_runV (As := [.int 1, .int r33]) (rest := []) ⟨hx, hb, hml, hown, hG⟩ (cX0_fail_1 l dC dI h0 h2 h1 h3 h4 h5 h6 h7 H.size 1 r33 x0 x1 x2 x3 x4 x5 x6 x7 x8 x9 ix0 ix1 ix7) (cwV 2 hG (gV wd_437 wd_439 wp_1 wd_8 wd_440) rfl rfl rfl (by decide +kernel) ⟨Nat.le_of_ble_eq_true rfl, Nat.le_of_ble_eq_true rfl⟩) ⟨fun a U g mk q => by obtain ⟨q0, q1, qP, qK, qD⟩ := q; exact ⟨q0, q1, qP, va_K.moved (u := U) (U := U.calling g mk a) (Vm.Alike.refl U.vm) qK, qD⟩, va_recv hKc hPc (ci := 0) (q0 := 0) rfl rfl, fun U hU hW => ⟨rfl, by rw [hU], by rw [hU]; exact hPc, va_K.moved hW.alike hKc, hDc.weaken (fun _ _ _ _ => trivial)⟩⟩ rfl rfl hl.1 rfl (lv_room (Nat.le_of_ble_eq_true rfl)) dX0_through_26 ⟨by decide, by decide⟩) hS (fun q _ h => hFc q h) hFc (fun r35 u36 t H1 locs ht hvm hw hB hz1 hk1 hS => ?_)
    have hw : r35 = 0 ∧ True := hw
    obtain ⟨er35, -⟩ := hw
    obtain ⟨hP1, hK1, hD1⟩ := hB
    rw [ht] at hP1
    have hK1 := va_K.moved hvm.symm hK1
    obtain ⟨hP, hD⟩ := nv_join (wf := [(h1, .inr (6, [.int x15, .int x16, .int x17, .int x18, .int x19])), (h8, .inl (y0, 2501, .inl f0)), (h10, .inl (y1, 2501, .inl f1)), (h2, .inr (10, [.ref h8, .ref h9, .ref h10, .ref h11, .ref h12, .ref h13, .int x10, .int x11, .int u2_0, .int x13, .int x14, .long z0])), (h9, .inl (y2, 2501, .inl f2)), (h0, .inr (0, [.ref h2, .ref h1, .ref h3, .ref h4, .ref h5, .ref h6, .ref h7, .int x0, .int x1, .int x2, .int x3, .int x4, .int x5, .int x6, .int x7, .int 1, .int r33]))]) hP hD [0] [1, 2, 3, 4, 5] rfl rfl (by decide) (by decide) hk1 hFc hP1 hD1 rfl
    have hK := (hK.sub (tys' := [(y0, .int), (y1, .int), (y2, .int)]) [0, 1, 2] rfl).app hK1
    generalize H1 = H at hP hS ⊢
    have hK : va_K (dC, dI) vwCl [(y0, .int), (y1, .int), (y2, .int)] s := hK
    subst er35
    rw [hQ]
    obtain ⟨hP9, hD9⟩ := nv_sub2 (wc := [(h0, .inr (0, [.ref h2, .ref h1, .ref h3, .ref h4, .ref h5, .ref h6, .ref h7, .int x0, .int x1, .int x2, .int x3, .int x4, .int x5, .int x6, .int x7, .int 1, .int r33])), (h2, .inr (10, [.ref h8, .ref h9, .ref h10, .ref h11, .ref h12, .ref h13, .int x10, .int x11, .int u2_0, .int x13, .int x14, .long z0])), (h8, .inl (y0, 2501, .inl f0)), (h10, .inl (y1, 2501, .inl f1)), (h1, .inr (6, [.int x15, .int x16, .int x17, .int x18, .int x19])), (h9, .inl (y2, 2501, .inl f2))]) hP hD [5, 3, 1, 2, 0, 4] (by decide) rfl
    have hK9 := hK.sub (tys' := [(y0, .int), (y1, .int), (y2, .int)]) [0, 1, 2] rfl
    exact W.zret (v := 0) hx hb hr rfl (fun t ht hW => ⟨⟨0, (1, r33, u2_0, x15, x16, x17, x18, x19), rfl, ⟨iv_w (by decide : iv 0 0 0) (by decide) (by decide), iv_w iu2_0 (by decide) (by decide), iv_w ix18 (by decide) (by decide), iv_w ix19 (by decide) (by decide), trivial⟩, by rw [ht]; exact hP9, va_K.moved hW.alike hK9, hD9⟩, hS.F ht⟩) hS.2.2 dX0_through_29
