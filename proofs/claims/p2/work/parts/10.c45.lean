set_option maxHeartbeats 100000000 in
set_option maxRecDepth 100000 in
theorem cX8_putNumber_1 (l : Launch) (dC : Nat → ClassId) (dI : Nat → Nat → Nat) (h0 h1 h2 : Nat) (y0 : ClassId) (sz : Nat) (x0 x1 x2 x3 : Int32) (f0 : Nat → Int32) (ix1 : iv x1 0 64) : Met l yX8_putNumber (Cond.code yX8_putNumber cX8_putNumber 4 none :: lw_G) ({ frames := 1, cells := 0, slots := 0, locals := 21 }) (va_Pc [.ref h0, .int x0] (fun U => U.heap.size = sz ∧ va_P (dC, dI) vwCl [(h0, .inr (8, [.ref h1, .ref h2, .int x1, .int x2, .int x3])), (h1, .inl (y0, 64, .inl f0))] U.heap ∧ va_K (dC, dI) vwCl [(y0, .int)] U ∧ va_D (fun _ => True) [(h0, .inr (8, [.ref h1, .ref h2, .int x1, .int x2, .int x3])), (h1, .inl (y0, 64, .inl f0))])) (va_Qv (fun (u : Int32 × (Nat → Int32)) => iv u.1 1 64 ∧ True) (fun (u : Int32 × (Nat → Int32)) (t : State) => va_P (dC, dI) vwCl [(h0, .inr (8, [.ref h1, .ref h2, .int u.1, .int x2, .int x3])), (h1, .inl (y0, 64, .inl u.2))] t.heap ∧ va_K (dC, dI) vwCl [(y0, .int)] t ∧ va_D (va_A [(h0, .inr (8, [.ref h1, .ref h2, .int x1, .int x2, .int x3])), (h1, .inl (y0, 64, .inl f0))] sz) [(h0, .inr (8, [.ref h1, .ref h2, .int u.1, .int x2, .int x3])), (h1, .inl (y0, 64, .inl u.2))]) (va_A [(h0, .inr (8, [.ref h1, .ref h2, .int x1, .int x2, .int x3])), (h1, .inl (y0, 64, .inl f0))] sz)) 0 0 (va_A [(h0, .inr (8, [.ref h1, .ref h2, .int x1, .int x2, .int x3])), (h1, .inl (y0, 64, .inl f0))] sz) := by
  refine Met.ofW (cc := cX8_putNumber) (maxL := 4) (ret := none) (by decide) rfl ?_
  intro p e s m args below meth c s₁ B hml hv
  obtain ⟨rfl, hsz, hP, hK, hD0⟩ := hv
  have hx := B.exec
  have hb := B.bytes
  have hr := B.returns
  have hts0 := atoms_spec (ws := Cond.code yX8_putNumber cX8_putNumber 4 none :: lw_G) B.pre
  have hG : ∀ w ∈ lw_G, w.before _ s = true := fun w h => hts0 w (List.mem_cons_of_mem _ h)
  have hown : s.vm.findClass RX8 = some m.cls := findClass_of_methodNamed B.named
  have hlocks := B.notSynchronized
  subst hsz
  have hD := hD0.self (sz := s.heap.size)
  generalize hAe : va_A [(h0, .inr (8, [.ref h1, .ref h2, .int x1, .int x2, .int x3])), (h1, .inl (y0, 64, .inl f0))] s.heap.size = A at hD ⊢
  have hA : ∀ q : Nat, s.heap.size ≤ q → A q := fun q h => by rw [← hAe]; exact Or.inr h
  have hS : va_S A s.heap s.heap [] := va_S.rf
  have hP : va_P (dC, dI) vwCl [(h0, .inr (8, [.ref h1, .ref h2, .int x1, .int x2, .int x3])), (h1, .inl (y0, 64, .inl f0))] s.heap := hP
  have hl := lv_entry ([.ref h0, .int x0]) (n := 4) (Nat.le_of_ble_eq_true rfl)
  rw [lg_entry_eq]
  generalize (lg_sl ([.ref h0, .int x0]) ++ List.replicate (4 - (lg_sl ([.ref h0, .int x0])).length) Slot.unset).toArray = ls at hl ⊢
  have hl : lv_has ls 4 [(0, .ref h0), (1, .int x0)] := hl
  generalize ([.ref h0, .int x0] : List Value).toArray = ar at hG ⊢
  refine wq (fun Q hQ => ?_)
  refine lv_iconst (v := 1) hx hb dX8_putNumber_0 (by decide) ?_
  refine lv_istore_n (lv' := [(2, .int 1), (0, .ref h0), (1, .int x0)]) hx hb dX8_putNumber_1 rfl hl (by decide) rfl (fun ls hl => ?_)
  refine lv_iconst (v := 0) hx hb dX8_putNumber_2 (by decide) ?_
  refine lv_istore_n (lv' := [(3, .int 0), (2, .int 1), (0, .ref h0), (1, .int x0)]) hx hb dX8_putNumber_3 rfl hl (by decide) rfl (fun ls hl => ?_)
  refine lv_iload_n hx hb dX8_putNumber_4 rfl (lv_at hl 0 rfl) ?_
  refine lv_iconst (v := 4) hx hb dX8_putNumber_5 (by decide) ?_
  refine lv_icmp_ge (tgt := 28) hx hb dX8_putNumber_6 (by decide) (fun c => absurd c (by decide)) (fun _ => ?_)
  refine lv_iload_n hx hb dX8_putNumber_9 rfl (lv_at hl 3 rfl) ?_
  refine lv_iload_n hx hb dX8_putNumber_10 rfl (lv_at hl 1 rfl) ?_
  refine lv_bipush (v := 10) hx hb dX8_putNumber_11 (by decide) ?_
  refine lv_imul hx hb dX8_putNumber_13 ?_
  refine lv_val (y := 10) (by decide +kernel) ?_
  refine lv_icmp_lt (tgt := 28) hx hb dX8_putNumber_14 (by decide) (fun c1 => ?_) (fun c1 => ?_)
  · skip
    have j2 : iv x0 (-2147483648) 9 := iv_ltL (iv_any x0) (by decide : iv 10 10 10) c1 (by decide)
    refine lv_iload_n hx hb dX8_putNumber_28 rfl (lv_at hl 1 rfl) ?_
    refine lv_if_le (tgt := 53) hx hb dX8_putNumber_29 (by decide) (fun c => absurd c (by decide)) (fun _ => ?_)
    refine lv_aload_n hx hb dX8_putNumber_32 rfl (lv_at hl 2 rfl) ?_
    refine lv_bipush (v := 48) hx hb dX8_putNumber_33 (by decide) ?_
    refine lv_iload_n hx hb dX8_putNumber_35 rfl (lv_at hl 3 rfl) ?_
    refine lv_iload_n hx hb dX8_putNumber_36 rfl (lv_at hl 1 rfl) ?_
    refine lv_idiv hx hb dX8_putNumber_37 (by decide) ?_
    refine lv_topi (fun v3 ev3 => ?_)
    refine lv_bipush (v := 10) hx hb dX8_putNumber_38 (by decide) ?_
    refine lv_irem hx hb dX8_putNumber_40 (by decide) ?_
    refine lv_topi (fun v4 ev4 => ?_)
    refine lv_iadd hx hb dX8_putNumber_41 ?_
    refine lv_topi (fun v5 ev5 => ?_)
    obtain ⟨hPc, hDc, hFc⟩ := nv_sub3 (wc := [(h0, .inr (8, [.ref h1, .ref h2, .int x1, .int x2, .int x3])), (h1, .inl (y0, 64, .inl f0))]) hP hD hS hA [0, 1] (by decide) rfl
    have hKc := hK.sub (tys' := [(y0, .int)]) [0] rfl
    refine va_callv (va_runV (As := [.int v5]) (rest := []) ⟨hx, hb, hml, hown, hG⟩ (cX8_put_1 l dC dI h0 h1 h2 y0 s.heap.size v5 x1 x2 x3 f0 ix1) (cwV 1 hG (gV wd_1194 wd_1196 wp_57 wd_16 wd_1197) rfl rfl rfl (by decide +kernel) ⟨Nat.le_of_ble_eq_true rfl, Nat.le_of_ble_eq_true rfl⟩) ⟨fun a U g mk q => by obtain ⟨q0, q1, qP, qK, qD⟩ := q; exact ⟨q0, q1, qP, va_K.moved (u := U) (U := U.calling g mk a) (Vm.Alike.refl U.vm) qK, qD⟩, va_recv hKc hPc (ci := 8) (q0 := 0) rfl rfl, fun U hU hW => ⟨rfl, by rw [hU], by rw [hU]; exact hPc, va_K.moved hW.alike hKc, hDc.weaken (fun _ _ _ _ => trivial)⟩⟩ rfl rfl hl.1 rfl (lv_room (Nat.le_of_ble_eq_true rfl)) dX8_putNumber_42 ⟨by decide, by decide⟩) hS (fun q _ h => hFc q h) hFc (fun u7 t H1 locs ht hvm hw hB hz1 hk1 hS => ?_)
    obtain ⟨u7_0, u7_1⟩ := u7
    have hw : iv u7_0 1 64 ∧ True := hw
    obtain ⟨iu7_0, -⟩ := hw
    obtain ⟨hP1, hK1, hD1⟩ := hB
    rw [ht] at hP1
    have hK1 := va_K.moved hvm.symm hK1
    obtain ⟨hP, hD⟩ := nv_join (wf := [(h0, .inr (8, [.ref h1, .ref h2, .int u7_0, .int x2, .int x3])), (h1, .inl (y0, 64, .inl u7_1))]) hP hD [0, 1] [] rfl rfl (by decide) (by decide) hk1 hFc hP1 hD1 rfl
    have hK := (hK.sub (tys' := []) [] rfl).app hK1
    generalize H1 = H at hP hS ⊢
    have hK : va_K (dC, dI) vwCl [(y0, .int)] s := hK
    refine lv_iload_n hx hb dX8_putNumber_45 rfl (lv_at hl 1 rfl) ?_
    refine lv_bipush (v := 10) hx hb dX8_putNumber_46 (by decide) ?_
    refine lv_idiv hx hb dX8_putNumber_48 (by decide) ?_
    refine lv_val (y := 0) (by decide +kernel) ?_
    refine lv_istore_n (lv' := [(2, .int 0), (3, .int 0), (0, .ref h0), (1, .int x0)]) hx hb dX8_putNumber_49 rfl hl (by decide) rfl (fun ls hl => ?_)
    refine lv_goto (tgt := 28) hx hb dX8_putNumber_50 (by decide) ?_
    refine lv_iload_n hx hb dX8_putNumber_28 rfl (lv_at hl 0 rfl) ?_
    refine lv_if_le (tgt := 53) hx hb dX8_putNumber_29 (by decide) (fun _ => ?_) (fun c => absurd (by decide) c)
    rw [hQ]
    obtain ⟨hP9, hD9⟩ := nv_sub2 (wc := [(h0, .inr (8, [.ref h1, .ref h2, .int u7_0, .int x2, .int x3])), (h1, .inl (y0, 64, .inl u7_1))]) hP hD [0, 1] (by decide) rfl
    have hK9 := hK.sub (tys' := [(y0, .int)]) [0] rfl
    exact W.vret hx hb hr (fun t ht hW => ⟨⟨(u7_0, u7_1), rfl, ⟨iv_w iu7_0 (by decide) (by decide), trivial⟩, by rw [ht]; exact hP9, va_K.moved hW.alike hK9, hD9⟩, hS.F ht⟩) hS.2.2 dX8_putNumber_53
  · skip
    have j8 : iv x0 10 2147483647 := iv_nltL (iv_any x0) (by decide : iv 10 10 10) c1 (by decide)
    refine lv_iload_n hx hb dX8_putNumber_17 rfl (lv_at hl 1 rfl) ?_
    refine lv_bipush (v := 10) hx hb dX8_putNumber_18 (by decide) ?_
    refine lv_imul hx hb dX8_putNumber_20 ?_
    refine lv_val (y := 10) (by decide +kernel) ?_
    refine lv_istore_n (lv' := [(2, .int 10), (3, .int 0), (0, .ref h0), (1, .int x0)]) hx hb dX8_putNumber_21 rfl hl (by decide) rfl (fun ls hl => ?_)
    refine lv_iinc (v := 1) (lv' := [(3, .int 1), (2, .int 10), (0, .ref h0), (1, .int x0)]) hx hb dX8_putNumber_22 hl (k := 1) rfl (by decide) (by decide) rfl (fun ls hl => ?_)
    refine lv_goto (tgt := 4) hx hb dX8_putNumber_25 (by decide) ?_
    refine lv_iload_n hx hb dX8_putNumber_4 rfl (lv_at hl 0 rfl) ?_
    refine lv_iconst (v := 4) hx hb dX8_putNumber_5 (by decide) ?_
    refine lv_icmp_ge (tgt := 28) hx hb dX8_putNumber_6 (by decide) (fun c => absurd c (by decide)) (fun _ => ?_)
    refine lv_iload_n hx hb dX8_putNumber_9 rfl (lv_at hl 3 rfl) ?_
    refine lv_iload_n hx hb dX8_putNumber_10 rfl (lv_at hl 1 rfl) ?_
    refine lv_bipush (v := 10) hx hb dX8_putNumber_11 (by decide) ?_
    refine lv_imul hx hb dX8_putNumber_13 ?_
    refine lv_val (y := 100) (by decide +kernel) ?_
    refine lv_icmp_lt (tgt := 28) hx hb dX8_putNumber_14 (by decide) (fun c9 => ?_) (fun c9 => ?_)
    · skip
      have j10 : iv x0 10 99 := iv_ltL j8 (by decide : iv 100 100 100) c9 (by decide)
      refine lv_iload_n hx hb dX8_putNumber_28 rfl (lv_at hl 1 rfl) ?_
      refine lv_if_le (tgt := 53) hx hb dX8_putNumber_29 (by decide) (fun c => absurd c (by decide)) (fun _ => ?_)
      refine lv_aload_n hx hb dX8_putNumber_32 rfl (lv_at hl 2 rfl) ?_
      refine lv_bipush (v := 48) hx hb dX8_putNumber_33 (by decide) ?_
      refine lv_iload_n hx hb dX8_putNumber_35 rfl (lv_at hl 3 rfl) ?_
      refine lv_iload_n hx hb dX8_putNumber_36 rfl (lv_at hl 1 rfl) ?_
      refine lv_idiv hx hb dX8_putNumber_37 (by decide) ?_
      refine lv_topi (fun v11 ev11 => ?_)
      refine lv_bipush (v := 10) hx hb dX8_putNumber_38 (by decide) ?_
      refine lv_irem hx hb dX8_putNumber_40 (by decide) ?_
      refine lv_topi (fun v12 ev12 => ?_)
      refine lv_iadd hx hb dX8_putNumber_41 ?_
      refine lv_topi (fun v13 ev13 => ?_)
      obtain ⟨hPc, hDc, hFc⟩ := nv_sub3 (wc := [(h0, .inr (8, [.ref h1, .ref h2, .int x1, .int x2, .int x3])), (h1, .inl (y0, 64, .inl f0))]) hP hD hS hA [0, 1] (by decide) rfl
      have hKc := hK.sub (tys' := [(y0, .int)]) [0] rfl
      refine va_callv (va_runV (As := [.int v13]) (rest := []) ⟨hx, hb, hml, hown, hG⟩ (cX8_put_1 l dC dI h0 h1 h2 y0 s.heap.size v13 x1 x2 x3 f0 ix1) (cwV 1 hG (gV wd_1194 wd_1196 wp_57 wd_16 wd_1197) rfl rfl rfl (by decide +kernel) ⟨Nat.le_of_ble_eq_true rfl, Nat.le_of_ble_eq_true rfl⟩) ⟨fun a U g mk q => by obtain ⟨q0, q1, qP, qK, qD⟩ := q; exact ⟨q0, q1, qP, va_K.moved (u := U) (U := U.calling g mk a) (Vm.Alike.refl U.vm) qK, qD⟩, va_recv hKc hPc (ci := 8) (q0 := 0) rfl rfl, fun U hU hW => ⟨rfl, by rw [hU], by rw [hU]; exact hPc, va_K.moved hW.alike hKc, hDc.weaken (fun _ _ _ _ => trivial)⟩⟩ rfl rfl hl.1 rfl (lv_room (Nat.le_of_ble_eq_true rfl)) dX8_putNumber_42 ⟨by decide, by decide⟩) hS (fun q _ h => hFc q h) hFc (fun u15 t H1 locs ht hvm hw hB hz1 hk1 hS => ?_)
      obtain ⟨u15_0, u15_1⟩ := u15
      have hw : iv u15_0 1 64 ∧ True := hw
      obtain ⟨iu15_0, -⟩ := hw
      obtain ⟨hP1, hK1, hD1⟩ := hB
      rw [ht] at hP1
      have hK1 := va_K.moved hvm.symm hK1
      obtain ⟨hP, hD⟩ := nv_join (wf := [(h0, .inr (8, [.ref h1, .ref h2, .int u15_0, .int x2, .int x3])), (h1, .inl (y0, 64, .inl u15_1))]) hP hD [0, 1] [] rfl rfl (by decide) (by decide) hk1 hFc hP1 hD1 rfl
      have hK := (hK.sub (tys' := []) [] rfl).app hK1
      generalize H1 = H at hP hS ⊢
      have hK : va_K (dC, dI) vwCl [(y0, .int)] s := hK
      refine lv_iload_n hx hb dX8_putNumber_45 rfl (lv_at hl 1 rfl) ?_
      refine lv_bipush (v := 10) hx hb dX8_putNumber_46 (by decide) ?_
      refine lv_idiv hx hb dX8_putNumber_48 (by decide) ?_
      refine lv_val (y := 1) (by decide +kernel) ?_
      refine lv_istore_n (lv' := [(2, .int 1), (3, .int 1), (0, .ref h0), (1, .int x0)]) hx hb dX8_putNumber_49 rfl hl (by decide) rfl (fun ls hl => ?_)
      refine lv_goto (tgt := 28) hx hb dX8_putNumber_50 (by decide) ?_
      refine lv_iload_n hx hb dX8_putNumber_28 rfl (lv_at hl 0 rfl) ?_
      refine lv_if_le (tgt := 53) hx hb dX8_putNumber_29 (by decide) (fun c => absurd c (by decide)) (fun _ => ?_)
      refine lv_aload_n hx hb dX8_putNumber_32 rfl (lv_at hl 2 rfl) ?_
      refine lv_bipush (v := 48) hx hb dX8_putNumber_33 (by decide) ?_
      refine lv_iload_n hx hb dX8_putNumber_35 rfl (lv_at hl 3 rfl) ?_
      refine lv_iload_n hx hb dX8_putNumber_36 rfl (lv_at hl 0 rfl) ?_
      refine lv_idiv hx hb dX8_putNumber_37 (by decide) ?_
      refine lv_topi (fun v16 ev16 => ?_)
      refine lv_bipush (v := 10) hx hb dX8_putNumber_38 (by decide) ?_
      refine lv_irem hx hb dX8_putNumber_40 (by decide) ?_
      refine lv_topi (fun v17 ev17 => ?_)
      refine lv_iadd hx hb dX8_putNumber_41 ?_
      refine lv_topi (fun v18 ev18 => ?_)
      obtain ⟨hPc, hDc, hFc⟩ := nv_sub3 (wc := [(h0, .inr (8, [.ref h1, .ref h2, .int u15_0, .int x2, .int x3])), (h1, .inl (y0, 64, .inl u15_1))]) hP hD hS hA [0, 1] (by decide) rfl
      have hKc := hK.sub (tys' := [(y0, .int)]) [0] rfl
      refine va_callv (va_runV (As := [.int v18]) (rest := []) ⟨hx, hb, hml, hown, hG⟩ (cX8_put_1 l dC dI h0 h1 h2 y0 H.size v18 u15_0 x2 x3 u15_1 (iv_w iu15_0 (by decide) (by decide))) (cwV 1 hG (gV wd_1194 wd_1196 wp_57 wd_16 wd_1197) rfl rfl rfl (by decide +kernel) ⟨Nat.le_of_ble_eq_true rfl, Nat.le_of_ble_eq_true rfl⟩) ⟨fun a U g mk q => by obtain ⟨q0, q1, qP, qK, qD⟩ := q; exact ⟨q0, q1, qP, va_K.moved (u := U) (U := U.calling g mk a) (Vm.Alike.refl U.vm) qK, qD⟩, va_recv hKc hPc (ci := 8) (q0 := 0) rfl rfl, fun U hU hW => ⟨rfl, by rw [hU], by rw [hU]; exact hPc, va_K.moved hW.alike hKc, hDc.weaken (fun _ _ _ _ => trivial)⟩⟩ rfl rfl hl.1 rfl (lv_room (Nat.le_of_ble_eq_true rfl)) dX8_putNumber_42 ⟨by decide, by decide⟩) hS (fun q _ h => hFc q h) hFc (fun u20 t H1 locs ht hvm hw hB hz1 hk1 hS => ?_)
      obtain ⟨u20_0, u20_1⟩ := u20
      have hw : iv u20_0 1 64 ∧ True := hw
      obtain ⟨iu20_0, -⟩ := hw
      obtain ⟨hP1, hK1, hD1⟩ := hB
      rw [ht] at hP1
      have hK1 := va_K.moved hvm.symm hK1
      obtain ⟨hP, hD⟩ := nv_join (wf := [(h0, .inr (8, [.ref h1, .ref h2, .int u20_0, .int x2, .int x3])), (h1, .inl (y0, 64, .inl u20_1))]) hP hD [0, 1] [] rfl rfl (by decide) (by decide) hk1 hFc hP1 hD1 rfl
      have hK := (hK.sub (tys' := []) [] rfl).app hK1
      generalize H1 = H at hP hS ⊢
      have hK : va_K (dC, dI) vwCl [(y0, .int)] s := hK
      refine lv_iload_n hx hb dX8_putNumber_45 rfl (lv_at hl 0 rfl) ?_
      refine lv_bipush (v := 10) hx hb dX8_putNumber_46 (by decide) ?_
      refine lv_idiv hx hb dX8_putNumber_48 (by decide) ?_
      refine lv_val (y := 0) (by decide +kernel) ?_
      refine lv_istore_n (lv' := [(2, .int 0), (3, .int 1), (0, .ref h0), (1, .int x0)]) hx hb dX8_putNumber_49 rfl hl (by decide) rfl (fun ls hl => ?_)
      refine lv_goto (tgt := 28) hx hb dX8_putNumber_50 (by decide) ?_
      refine lv_iload_n hx hb dX8_putNumber_28 rfl (lv_at hl 0 rfl) ?_
      refine lv_if_le (tgt := 53) hx hb dX8_putNumber_29 (by decide) (fun _ => ?_) (fun c => absurd (by decide) c)
      rw [hQ]
      obtain ⟨hP9, hD9⟩ := nv_sub2 (wc := [(h0, .inr (8, [.ref h1, .ref h2, .int u20_0, .int x2, .int x3])), (h1, .inl (y0, 64, .inl u20_1))]) hP hD [0, 1] (by decide) rfl
      have hK9 := hK.sub (tys' := [(y0, .int)]) [0] rfl
      exact W.vret hx hb hr (fun t ht hW => ⟨⟨(u20_0, u20_1), rfl, ⟨iv_w iu20_0 (by decide) (by decide), trivial⟩, by rw [ht]; exact hP9, va_K.moved hW.alike hK9, hD9⟩, hS.F ht⟩) hS.2.2 dX8_putNumber_53
    · skip
      have j21 : iv x0 100 2147483647 := iv_nltL j8 (by decide : iv 100 100 100) c9 (by decide)
      refine lv_iload_n hx hb dX8_putNumber_17 rfl (lv_at hl 1 rfl) ?_
      refine lv_bipush (v := 10) hx hb dX8_putNumber_18 (by decide) ?_
      refine lv_imul hx hb dX8_putNumber_20 ?_
      refine lv_val (y := 100) (by decide +kernel) ?_
      refine lv_istore_n (lv' := [(2, .int 100), (3, .int 1), (0, .ref h0), (1, .int x0)]) hx hb dX8_putNumber_21 rfl hl (by decide) rfl (fun ls hl => ?_)
      refine lv_iinc (v := 2) (lv' := [(3, .int 2), (2, .int 100), (0, .ref h0), (1, .int x0)]) hx hb dX8_putNumber_22 hl (k := 1) rfl (by decide) (by decide) rfl (fun ls hl => ?_)
      refine lv_goto (tgt := 4) hx hb dX8_putNumber_25 (by decide) ?_
      refine lv_iload_n hx hb dX8_putNumber_4 rfl (lv_at hl 0 rfl) ?_
      refine lv_iconst (v := 4) hx hb dX8_putNumber_5 (by decide) ?_
      refine lv_icmp_ge (tgt := 28) hx hb dX8_putNumber_6 (by decide) (fun c => absurd c (by decide)) (fun _ => ?_)
      refine lv_iload_n hx hb dX8_putNumber_9 rfl (lv_at hl 3 rfl) ?_
      refine lv_iload_n hx hb dX8_putNumber_10 rfl (lv_at hl 1 rfl) ?_
      refine lv_bipush (v := 10) hx hb dX8_putNumber_11 (by decide) ?_
      refine lv_imul hx hb dX8_putNumber_13 ?_
      refine lv_val (y := 1000) (by decide +kernel) ?_
      refine lv_icmp_lt (tgt := 28) hx hb dX8_putNumber_14 (by decide) (fun c22 => ?_) (fun c22 => ?_)
      · skip
        have j23 : iv x0 100 999 := iv_ltL j21 (by decide : iv 1000 1000 1000) c22 (by decide)
        refine lv_iload_n hx hb dX8_putNumber_28 rfl (lv_at hl 1 rfl) ?_
        refine lv_if_le (tgt := 53) hx hb dX8_putNumber_29 (by decide) (fun c => absurd c (by decide)) (fun _ => ?_)
        refine lv_aload_n hx hb dX8_putNumber_32 rfl (lv_at hl 2 rfl) ?_
        refine lv_bipush (v := 48) hx hb dX8_putNumber_33 (by decide) ?_
        refine lv_iload_n hx hb dX8_putNumber_35 rfl (lv_at hl 3 rfl) ?_
        refine lv_iload_n hx hb dX8_putNumber_36 rfl (lv_at hl 1 rfl) ?_
        refine lv_idiv hx hb dX8_putNumber_37 (by decide) ?_
        refine lv_topi (fun v24 ev24 => ?_)
        refine lv_bipush (v := 10) hx hb dX8_putNumber_38 (by decide) ?_
        refine lv_irem hx hb dX8_putNumber_40 (by decide) ?_
        refine lv_topi (fun v25 ev25 => ?_)
        refine lv_iadd hx hb dX8_putNumber_41 ?_
        refine lv_topi (fun v26 ev26 => ?_)
        obtain ⟨hPc, hDc, hFc⟩ := nv_sub3 (wc := [(h0, .inr (8, [.ref h1, .ref h2, .int x1, .int x2, .int x3])), (h1, .inl (y0, 64, .inl f0))]) hP hD hS hA [0, 1] (by decide) rfl
        have hKc := hK.sub (tys' := [(y0, .int)]) [0] rfl
        refine va_callv (va_runV (As := [.int v26]) (rest := []) ⟨hx, hb, hml, hown, hG⟩ (cX8_put_1 l dC dI h0 h1 h2 y0 s.heap.size v26 x1 x2 x3 f0 ix1) (cwV 1 hG (gV wd_1194 wd_1196 wp_57 wd_16 wd_1197) rfl rfl rfl (by decide +kernel) ⟨Nat.le_of_ble_eq_true rfl, Nat.le_of_ble_eq_true rfl⟩) ⟨fun a U g mk q => by obtain ⟨q0, q1, qP, qK, qD⟩ := q; exact ⟨q0, q1, qP, va_K.moved (u := U) (U := U.calling g mk a) (Vm.Alike.refl U.vm) qK, qD⟩, va_recv hKc hPc (ci := 8) (q0 := 0) rfl rfl, fun U hU hW => ⟨rfl, by rw [hU], by rw [hU]; exact hPc, va_K.moved hW.alike hKc, hDc.weaken (fun _ _ _ _ => trivial)⟩⟩ rfl rfl hl.1 rfl (lv_room (Nat.le_of_ble_eq_true rfl)) dX8_putNumber_42 ⟨by decide, by decide⟩) hS (fun q _ h => hFc q h) hFc (fun u28 t H1 locs ht hvm hw hB hz1 hk1 hS => ?_)
        obtain ⟨u28_0, u28_1⟩ := u28
        have hw : iv u28_0 1 64 ∧ True := hw
        obtain ⟨iu28_0, -⟩ := hw
        obtain ⟨hP1, hK1, hD1⟩ := hB
        rw [ht] at hP1
        have hK1 := va_K.moved hvm.symm hK1
        obtain ⟨hP, hD⟩ := nv_join (wf := [(h0, .inr (8, [.ref h1, .ref h2, .int u28_0, .int x2, .int x3])), (h1, .inl (y0, 64, .inl u28_1))]) hP hD [0, 1] [] rfl rfl (by decide) (by decide) hk1 hFc hP1 hD1 rfl
        have hK := (hK.sub (tys' := []) [] rfl).app hK1
        generalize H1 = H at hP hS ⊢
        have hK : va_K (dC, dI) vwCl [(y0, .int)] s := hK
        refine lv_iload_n hx hb dX8_putNumber_45 rfl (lv_at hl 1 rfl) ?_
        refine lv_bipush (v := 10) hx hb dX8_putNumber_46 (by decide) ?_
        refine lv_idiv hx hb dX8_putNumber_48 (by decide) ?_
        refine lv_val (y := 10) (by decide +kernel) ?_
        refine lv_istore_n (lv' := [(2, .int 10), (3, .int 2), (0, .ref h0), (1, .int x0)]) hx hb dX8_putNumber_49 rfl hl (by decide) rfl (fun ls hl => ?_)
        refine lv_goto (tgt := 28) hx hb dX8_putNumber_50 (by decide) ?_
        refine lv_iload_n hx hb dX8_putNumber_28 rfl (lv_at hl 0 rfl) ?_
        refine lv_if_le (tgt := 53) hx hb dX8_putNumber_29 (by decide) (fun c => absurd c (by decide)) (fun _ => ?_)
        refine lv_aload_n hx hb dX8_putNumber_32 rfl (lv_at hl 2 rfl) ?_
        refine lv_bipush (v := 48) hx hb dX8_putNumber_33 (by decide) ?_
        refine lv_iload_n hx hb dX8_putNumber_35 rfl (lv_at hl 3 rfl) ?_
        refine lv_iload_n hx hb dX8_putNumber_36 rfl (lv_at hl 0 rfl) ?_
        refine lv_idiv hx hb dX8_putNumber_37 (by decide) ?_
        refine lv_topi (fun v29 ev29 => ?_)
        refine lv_bipush (v := 10) hx hb dX8_putNumber_38 (by decide) ?_
        refine lv_irem hx hb dX8_putNumber_40 (by decide) ?_
        refine lv_topi (fun v30 ev30 => ?_)
        refine lv_iadd hx hb dX8_putNumber_41 ?_
        refine lv_topi (fun v31 ev31 => ?_)
        obtain ⟨hPc, hDc, hFc⟩ := nv_sub3 (wc := [(h0, .inr (8, [.ref h1, .ref h2, .int u28_0, .int x2, .int x3])), (h1, .inl (y0, 64, .inl u28_1))]) hP hD hS hA [0, 1] (by decide) rfl
        have hKc := hK.sub (tys' := [(y0, .int)]) [0] rfl
        refine va_callv (va_runV (As := [.int v31]) (rest := []) ⟨hx, hb, hml, hown, hG⟩ (cX8_put_1 l dC dI h0 h1 h2 y0 H.size v31 u28_0 x2 x3 u28_1 (iv_w iu28_0 (by decide) (by decide))) (cwV 1 hG (gV wd_1194 wd_1196 wp_57 wd_16 wd_1197) rfl rfl rfl (by decide +kernel) ⟨Nat.le_of_ble_eq_true rfl, Nat.le_of_ble_eq_true rfl⟩) ⟨fun a U g mk q => by obtain ⟨q0, q1, qP, qK, qD⟩ := q; exact ⟨q0, q1, qP, va_K.moved (u := U) (U := U.calling g mk a) (Vm.Alike.refl U.vm) qK, qD⟩, va_recv hKc hPc (ci := 8) (q0 := 0) rfl rfl, fun U hU hW => ⟨rfl, by rw [hU], by rw [hU]; exact hPc, va_K.moved hW.alike hKc, hDc.weaken (fun _ _ _ _ => trivial)⟩⟩ rfl rfl hl.1 rfl (lv_room (Nat.le_of_ble_eq_true rfl)) dX8_putNumber_42 ⟨by decide, by decide⟩) hS (fun q _ h => hFc q h) hFc (fun u33 t H1 locs ht hvm hw hB hz1 hk1 hS => ?_)
        obtain ⟨u33_0, u33_1⟩ := u33
        have hw : iv u33_0 1 64 ∧ True := hw
        obtain ⟨iu33_0, -⟩ := hw
        obtain ⟨hP1, hK1, hD1⟩ := hB
        rw [ht] at hP1
        have hK1 := va_K.moved hvm.symm hK1
        obtain ⟨hP, hD⟩ := nv_join (wf := [(h0, .inr (8, [.ref h1, .ref h2, .int u33_0, .int x2, .int x3])), (h1, .inl (y0, 64, .inl u33_1))]) hP hD [0, 1] [] rfl rfl (by decide) (by decide) hk1 hFc hP1 hD1 rfl
        have hK := (hK.sub (tys' := []) [] rfl).app hK1
        generalize H1 = H at hP hS ⊢
        have hK : va_K (dC, dI) vwCl [(y0, .int)] s := hK
        refine lv_iload_n hx hb dX8_putNumber_45 rfl (lv_at hl 0 rfl) ?_
        refine lv_bipush (v := 10) hx hb dX8_putNumber_46 (by decide) ?_
        refine lv_idiv hx hb dX8_putNumber_48 (by decide) ?_
        refine lv_val (y := 1) (by decide +kernel) ?_
        refine lv_istore_n (lv' := [(2, .int 1), (3, .int 2), (0, .ref h0), (1, .int x0)]) hx hb dX8_putNumber_49 rfl hl (by decide) rfl (fun ls hl => ?_)
        refine lv_goto (tgt := 28) hx hb dX8_putNumber_50 (by decide) ?_
        refine lv_iload_n hx hb dX8_putNumber_28 rfl (lv_at hl 0 rfl) ?_
        refine lv_if_le (tgt := 53) hx hb dX8_putNumber_29 (by decide) (fun c => absurd c (by decide)) (fun _ => ?_)
        refine lv_aload_n hx hb dX8_putNumber_32 rfl (lv_at hl 2 rfl) ?_
        refine lv_bipush (v := 48) hx hb dX8_putNumber_33 (by decide) ?_
        refine lv_iload_n hx hb dX8_putNumber_35 rfl (lv_at hl 3 rfl) ?_
        refine lv_iload_n hx hb dX8_putNumber_36 rfl (lv_at hl 0 rfl) ?_
        refine lv_idiv hx hb dX8_putNumber_37 (by decide) ?_
        refine lv_topi (fun v34 ev34 => ?_)
        refine lv_bipush (v := 10) hx hb dX8_putNumber_38 (by decide) ?_
        refine lv_irem hx hb dX8_putNumber_40 (by decide) ?_
        refine lv_topi (fun v35 ev35 => ?_)
        refine lv_iadd hx hb dX8_putNumber_41 ?_
        refine lv_topi (fun v36 ev36 => ?_)
        obtain ⟨hPc, hDc, hFc⟩ := nv_sub3 (wc := [(h0, .inr (8, [.ref h1, .ref h2, .int u33_0, .int x2, .int x3])), (h1, .inl (y0, 64, .inl u33_1))]) hP hD hS hA [0, 1] (by decide) rfl
        have hKc := hK.sub (tys' := [(y0, .int)]) [0] rfl
        refine va_callv (va_runV (As := [.int v36]) (rest := []) ⟨hx, hb, hml, hown, hG⟩ (cX8_put_1 l dC dI h0 h1 h2 y0 H.size v36 u33_0 x2 x3 u33_1 (iv_w iu33_0 (by decide) (by decide))) (cwV 1 hG (gV wd_1194 wd_1196 wp_57 wd_16 wd_1197) rfl rfl rfl (by decide +kernel) ⟨Nat.le_of_ble_eq_true rfl, Nat.le_of_ble_eq_true rfl⟩) ⟨fun a U g mk q => by obtain ⟨q0, q1, qP, qK, qD⟩ := q; exact ⟨q0, q1, qP, va_K.moved (u := U) (U := U.calling g mk a) (Vm.Alike.refl U.vm) qK, qD⟩, va_recv hKc hPc (ci := 8) (q0 := 0) rfl rfl, fun U hU hW => ⟨rfl, by rw [hU], by rw [hU]; exact hPc, va_K.moved hW.alike hKc, hDc.weaken (fun _ _ _ _ => trivial)⟩⟩ rfl rfl hl.1 rfl (lv_room (Nat.le_of_ble_eq_true rfl)) dX8_putNumber_42 ⟨by decide, by decide⟩) hS (fun q _ h => hFc q h) hFc (fun u38 t H1 locs ht hvm hw hB hz1 hk1 hS => ?_)
        obtain ⟨u38_0, u38_1⟩ := u38
        have hw : iv u38_0 1 64 ∧ True := hw
        obtain ⟨iu38_0, -⟩ := hw
        obtain ⟨hP1, hK1, hD1⟩ := hB
        rw [ht] at hP1
        have hK1 := va_K.moved hvm.symm hK1
        obtain ⟨hP, hD⟩ := nv_join (wf := [(h0, .inr (8, [.ref h1, .ref h2, .int u38_0, .int x2, .int x3])), (h1, .inl (y0, 64, .inl u38_1))]) hP hD [0, 1] [] rfl rfl (by decide) (by decide) hk1 hFc hP1 hD1 rfl
        have hK := (hK.sub (tys' := []) [] rfl).app hK1
        generalize H1 = H at hP hS ⊢
        have hK : va_K (dC, dI) vwCl [(y0, .int)] s := hK
        refine lv_iload_n hx hb dX8_putNumber_45 rfl (lv_at hl 0 rfl) ?_
        refine lv_bipush (v := 10) hx hb dX8_putNumber_46 (by decide) ?_
        refine lv_idiv hx hb dX8_putNumber_48 (by decide) ?_
        refine lv_val (y := 0) (by decide +kernel) ?_
        refine lv_istore_n (lv' := [(2, .int 0), (3, .int 2), (0, .ref h0), (1, .int x0)]) hx hb dX8_putNumber_49 rfl hl (by decide) rfl (fun ls hl => ?_)
        refine lv_goto (tgt := 28) hx hb dX8_putNumber_50 (by decide) ?_
        refine lv_iload_n hx hb dX8_putNumber_28 rfl (lv_at hl 0 rfl) ?_
        refine lv_if_le (tgt := 53) hx hb dX8_putNumber_29 (by decide) (fun _ => ?_) (fun c => absurd (by decide) c)
        rw [hQ]
        obtain ⟨hP9, hD9⟩ := nv_sub2 (wc := [(h0, .inr (8, [.ref h1, .ref h2, .int u38_0, .int x2, .int x3])), (h1, .inl (y0, 64, .inl u38_1))]) hP hD [0, 1] (by decide) rfl
        have hK9 := hK.sub (tys' := [(y0, .int)]) [0] rfl
        exact W.vret hx hb hr (fun t ht hW => ⟨⟨(u38_0, u38_1), rfl, ⟨iv_w iu38_0 (by decide) (by decide), trivial⟩, by rw [ht]; exact hP9, va_K.moved hW.alike hK9, hD9⟩, hS.F ht⟩) hS.2.2 dX8_putNumber_53
      · skip
        have j39 : iv x0 1000 2147483647 := iv_nltL j21 (by decide : iv 1000 1000 1000) c22 (by decide)
        refine lv_iload_n hx hb dX8_putNumber_17 rfl (lv_at hl 1 rfl) ?_
        refine lv_bipush (v := 10) hx hb dX8_putNumber_18 (by decide) ?_
        refine lv_imul hx hb dX8_putNumber_20 ?_
        refine lv_val (y := 1000) (by decide +kernel) ?_
        refine lv_istore_n (lv' := [(2, .int 1000), (3, .int 2), (0, .ref h0), (1, .int x0)]) hx hb dX8_putNumber_21 rfl hl (by decide) rfl (fun ls hl => ?_)
        refine lv_iinc (v := 3) (lv' := [(3, .int 3), (2, .int 1000), (0, .ref h0), (1, .int x0)]) hx hb dX8_putNumber_22 hl (k := 1) rfl (by decide) (by decide) rfl (fun ls hl => ?_)
        refine lv_goto (tgt := 4) hx hb dX8_putNumber_25 (by decide) ?_
        refine lv_iload_n hx hb dX8_putNumber_4 rfl (lv_at hl 0 rfl) ?_
        refine lv_iconst (v := 4) hx hb dX8_putNumber_5 (by decide) ?_
        refine lv_icmp_ge (tgt := 28) hx hb dX8_putNumber_6 (by decide) (fun c => absurd c (by decide)) (fun _ => ?_)
        refine lv_iload_n hx hb dX8_putNumber_9 rfl (lv_at hl 3 rfl) ?_
        refine lv_iload_n hx hb dX8_putNumber_10 rfl (lv_at hl 1 rfl) ?_
        refine lv_bipush (v := 10) hx hb dX8_putNumber_11 (by decide) ?_
        refine lv_imul hx hb dX8_putNumber_13 ?_
        refine lv_val (y := 10000) (by decide +kernel) ?_
        refine lv_icmp_lt (tgt := 28) hx hb dX8_putNumber_14 (by decide) (fun c40 => ?_) (fun c40 => ?_)
        · skip
          have j41 : iv x0 1000 9999 := iv_ltL j39 (by decide : iv 10000 10000 10000) c40 (by decide)
          refine lv_iload_n hx hb dX8_putNumber_28 rfl (lv_at hl 1 rfl) ?_
          refine lv_if_le (tgt := 53) hx hb dX8_putNumber_29 (by decide) (fun c => absurd c (by decide)) (fun _ => ?_)
          refine lv_aload_n hx hb dX8_putNumber_32 rfl (lv_at hl 2 rfl) ?_
          refine lv_bipush (v := 48) hx hb dX8_putNumber_33 (by decide) ?_
          refine lv_iload_n hx hb dX8_putNumber_35 rfl (lv_at hl 3 rfl) ?_
          refine lv_iload_n hx hb dX8_putNumber_36 rfl (lv_at hl 1 rfl) ?_
          refine lv_idiv hx hb dX8_putNumber_37 (by decide) ?_
          refine lv_topi (fun v42 ev42 => ?_)
          refine lv_bipush (v := 10) hx hb dX8_putNumber_38 (by decide) ?_
          refine lv_irem hx hb dX8_putNumber_40 (by decide) ?_
          refine lv_topi (fun v43 ev43 => ?_)
          refine lv_iadd hx hb dX8_putNumber_41 ?_
          refine lv_topi (fun v44 ev44 => ?_)
          obtain ⟨hPc, hDc, hFc⟩ := nv_sub3 (wc := [(h0, .inr (8, [.ref h1, .ref h2, .int x1, .int x2, .int x3])), (h1, .inl (y0, 64, .inl f0))]) hP hD hS hA [0, 1] (by decide) rfl
          have hKc := hK.sub (tys' := [(y0, .int)]) [0] rfl
          refine va_callv (va_runV (As := [.int v44]) (rest := []) ⟨hx, hb, hml, hown, hG⟩ (cX8_put_1 l dC dI h0 h1 h2 y0 s.heap.size v44 x1 x2 x3 f0 ix1) (cwV 1 hG (gV wd_1194 wd_1196 wp_57 wd_16 wd_1197) rfl rfl rfl (by decide +kernel) ⟨Nat.le_of_ble_eq_true rfl, Nat.le_of_ble_eq_true rfl⟩) ⟨fun a U g mk q => by obtain ⟨q0, q1, qP, qK, qD⟩ := q; exact ⟨q0, q1, qP, va_K.moved (u := U) (U := U.calling g mk a) (Vm.Alike.refl U.vm) qK, qD⟩, va_recv hKc hPc (ci := 8) (q0 := 0) rfl rfl, fun U hU hW => ⟨rfl, by rw [hU], by rw [hU]; exact hPc, va_K.moved hW.alike hKc, hDc.weaken (fun _ _ _ _ => trivial)⟩⟩ rfl rfl hl.1 rfl (lv_room (Nat.le_of_ble_eq_true rfl)) dX8_putNumber_42 ⟨by decide, by decide⟩) hS (fun q _ h => hFc q h) hFc (fun u46 t H1 locs ht hvm hw hB hz1 hk1 hS => ?_)
          obtain ⟨u46_0, u46_1⟩ := u46
          have hw : iv u46_0 1 64 ∧ True := hw
          obtain ⟨iu46_0, -⟩ := hw
          obtain ⟨hP1, hK1, hD1⟩ := hB
          rw [ht] at hP1
          have hK1 := va_K.moved hvm.symm hK1
          obtain ⟨hP, hD⟩ := nv_join (wf := [(h0, .inr (8, [.ref h1, .ref h2, .int u46_0, .int x2, .int x3])), (h1, .inl (y0, 64, .inl u46_1))]) hP hD [0, 1] [] rfl rfl (by decide) (by decide) hk1 hFc hP1 hD1 rfl
          have hK := (hK.sub (tys' := []) [] rfl).app hK1
          generalize H1 = H at hP hS ⊢
          have hK : va_K (dC, dI) vwCl [(y0, .int)] s := hK
          refine lv_iload_n hx hb dX8_putNumber_45 rfl (lv_at hl 1 rfl) ?_
          refine lv_bipush (v := 10) hx hb dX8_putNumber_46 (by decide) ?_
          refine lv_idiv hx hb dX8_putNumber_48 (by decide) ?_
          refine lv_val (y := 100) (by decide +kernel) ?_
          refine lv_istore_n (lv' := [(2, .int 100), (3, .int 3), (0, .ref h0), (1, .int x0)]) hx hb dX8_putNumber_49 rfl hl (by decide) rfl (fun ls hl => ?_)
          refine lv_goto (tgt := 28) hx hb dX8_putNumber_50 (by decide) ?_
          refine lv_iload_n hx hb dX8_putNumber_28 rfl (lv_at hl 0 rfl) ?_
          refine lv_if_le (tgt := 53) hx hb dX8_putNumber_29 (by decide) (fun c => absurd c (by decide)) (fun _ => ?_)
          refine lv_aload_n hx hb dX8_putNumber_32 rfl (lv_at hl 2 rfl) ?_
          refine lv_bipush (v := 48) hx hb dX8_putNumber_33 (by decide) ?_
          refine lv_iload_n hx hb dX8_putNumber_35 rfl (lv_at hl 3 rfl) ?_
          refine lv_iload_n hx hb dX8_putNumber_36 rfl (lv_at hl 0 rfl) ?_
          refine lv_idiv hx hb dX8_putNumber_37 (by decide) ?_
          refine lv_topi (fun v47 ev47 => ?_)
          refine lv_bipush (v := 10) hx hb dX8_putNumber_38 (by decide) ?_
          refine lv_irem hx hb dX8_putNumber_40 (by decide) ?_
          refine lv_topi (fun v48 ev48 => ?_)
          refine lv_iadd hx hb dX8_putNumber_41 ?_
          refine lv_topi (fun v49 ev49 => ?_)
          obtain ⟨hPc, hDc, hFc⟩ := nv_sub3 (wc := [(h0, .inr (8, [.ref h1, .ref h2, .int u46_0, .int x2, .int x3])), (h1, .inl (y0, 64, .inl u46_1))]) hP hD hS hA [0, 1] (by decide) rfl
          have hKc := hK.sub (tys' := [(y0, .int)]) [0] rfl
          refine va_callv (va_runV (As := [.int v49]) (rest := []) ⟨hx, hb, hml, hown, hG⟩ (cX8_put_1 l dC dI h0 h1 h2 y0 H.size v49 u46_0 x2 x3 u46_1 (iv_w iu46_0 (by decide) (by decide))) (cwV 1 hG (gV wd_1194 wd_1196 wp_57 wd_16 wd_1197) rfl rfl rfl (by decide +kernel) ⟨Nat.le_of_ble_eq_true rfl, Nat.le_of_ble_eq_true rfl⟩) ⟨fun a U g mk q => by obtain ⟨q0, q1, qP, qK, qD⟩ := q; exact ⟨q0, q1, qP, va_K.moved (u := U) (U := U.calling g mk a) (Vm.Alike.refl U.vm) qK, qD⟩, va_recv hKc hPc (ci := 8) (q0 := 0) rfl rfl, fun U hU hW => ⟨rfl, by rw [hU], by rw [hU]; exact hPc, va_K.moved hW.alike hKc, hDc.weaken (fun _ _ _ _ => trivial)⟩⟩ rfl rfl hl.1 rfl (lv_room (Nat.le_of_ble_eq_true rfl)) dX8_putNumber_42 ⟨by decide, by decide⟩) hS (fun q _ h => hFc q h) hFc (fun u51 t H1 locs ht hvm hw hB hz1 hk1 hS => ?_)
          obtain ⟨u51_0, u51_1⟩ := u51
          have hw : iv u51_0 1 64 ∧ True := hw
          obtain ⟨iu51_0, -⟩ := hw
          obtain ⟨hP1, hK1, hD1⟩ := hB
          rw [ht] at hP1
          have hK1 := va_K.moved hvm.symm hK1
          obtain ⟨hP, hD⟩ := nv_join (wf := [(h0, .inr (8, [.ref h1, .ref h2, .int u51_0, .int x2, .int x3])), (h1, .inl (y0, 64, .inl u51_1))]) hP hD [0, 1] [] rfl rfl (by decide) (by decide) hk1 hFc hP1 hD1 rfl
          have hK := (hK.sub (tys' := []) [] rfl).app hK1
          generalize H1 = H at hP hS ⊢
          have hK : va_K (dC, dI) vwCl [(y0, .int)] s := hK
          refine lv_iload_n hx hb dX8_putNumber_45 rfl (lv_at hl 0 rfl) ?_
          refine lv_bipush (v := 10) hx hb dX8_putNumber_46 (by decide) ?_
          refine lv_idiv hx hb dX8_putNumber_48 (by decide) ?_
          refine lv_val (y := 10) (by decide +kernel) ?_
          refine lv_istore_n (lv' := [(2, .int 10), (3, .int 3), (0, .ref h0), (1, .int x0)]) hx hb dX8_putNumber_49 rfl hl (by decide) rfl (fun ls hl => ?_)
          refine lv_goto (tgt := 28) hx hb dX8_putNumber_50 (by decide) ?_
          refine lv_iload_n hx hb dX8_putNumber_28 rfl (lv_at hl 0 rfl) ?_
          refine lv_if_le (tgt := 53) hx hb dX8_putNumber_29 (by decide) (fun c => absurd c (by decide)) (fun _ => ?_)
          refine lv_aload_n hx hb dX8_putNumber_32 rfl (lv_at hl 2 rfl) ?_
          refine lv_bipush (v := 48) hx hb dX8_putNumber_33 (by decide) ?_
          refine lv_iload_n hx hb dX8_putNumber_35 rfl (lv_at hl 3 rfl) ?_
          refine lv_iload_n hx hb dX8_putNumber_36 rfl (lv_at hl 0 rfl) ?_
          refine lv_idiv hx hb dX8_putNumber_37 (by decide) ?_
          refine lv_topi (fun v52 ev52 => ?_)
          refine lv_bipush (v := 10) hx hb dX8_putNumber_38 (by decide) ?_
          refine lv_irem hx hb dX8_putNumber_40 (by decide) ?_
          refine lv_topi (fun v53 ev53 => ?_)
          refine lv_iadd hx hb dX8_putNumber_41 ?_
          refine lv_topi (fun v54 ev54 => ?_)
          obtain ⟨hPc, hDc, hFc⟩ := nv_sub3 (wc := [(h0, .inr (8, [.ref h1, .ref h2, .int u51_0, .int x2, .int x3])), (h1, .inl (y0, 64, .inl u51_1))]) hP hD hS hA [0, 1] (by decide) rfl
          have hKc := hK.sub (tys' := [(y0, .int)]) [0] rfl
          refine va_callv (va_runV (As := [.int v54]) (rest := []) ⟨hx, hb, hml, hown, hG⟩ (cX8_put_1 l dC dI h0 h1 h2 y0 H.size v54 u51_0 x2 x3 u51_1 (iv_w iu51_0 (by decide) (by decide))) (cwV 1 hG (gV wd_1194 wd_1196 wp_57 wd_16 wd_1197) rfl rfl rfl (by decide +kernel) ⟨Nat.le_of_ble_eq_true rfl, Nat.le_of_ble_eq_true rfl⟩) ⟨fun a U g mk q => by obtain ⟨q0, q1, qP, qK, qD⟩ := q; exact ⟨q0, q1, qP, va_K.moved (u := U) (U := U.calling g mk a) (Vm.Alike.refl U.vm) qK, qD⟩, va_recv hKc hPc (ci := 8) (q0 := 0) rfl rfl, fun U hU hW => ⟨rfl, by rw [hU], by rw [hU]; exact hPc, va_K.moved hW.alike hKc, hDc.weaken (fun _ _ _ _ => trivial)⟩⟩ rfl rfl hl.1 rfl (lv_room (Nat.le_of_ble_eq_true rfl)) dX8_putNumber_42 ⟨by decide, by decide⟩) hS (fun q _ h => hFc q h) hFc (fun u56 t H1 locs ht hvm hw hB hz1 hk1 hS => ?_)
          obtain ⟨u56_0, u56_1⟩ := u56
          have hw : iv u56_0 1 64 ∧ True := hw
          obtain ⟨iu56_0, -⟩ := hw
          obtain ⟨hP1, hK1, hD1⟩ := hB
          rw [ht] at hP1
          have hK1 := va_K.moved hvm.symm hK1
          obtain ⟨hP, hD⟩ := nv_join (wf := [(h0, .inr (8, [.ref h1, .ref h2, .int u56_0, .int x2, .int x3])), (h1, .inl (y0, 64, .inl u56_1))]) hP hD [0, 1] [] rfl rfl (by decide) (by decide) hk1 hFc hP1 hD1 rfl
          have hK := (hK.sub (tys' := []) [] rfl).app hK1
          generalize H1 = H at hP hS ⊢
          have hK : va_K (dC, dI) vwCl [(y0, .int)] s := hK
          refine lv_iload_n hx hb dX8_putNumber_45 rfl (lv_at hl 0 rfl) ?_
          refine lv_bipush (v := 10) hx hb dX8_putNumber_46 (by decide) ?_
          refine lv_idiv hx hb dX8_putNumber_48 (by decide) ?_
          refine lv_val (y := 1) (by decide +kernel) ?_
          refine lv_istore_n (lv' := [(2, .int 1), (3, .int 3), (0, .ref h0), (1, .int x0)]) hx hb dX8_putNumber_49 rfl hl (by decide) rfl (fun ls hl => ?_)
          refine lv_goto (tgt := 28) hx hb dX8_putNumber_50 (by decide) ?_
          refine lv_iload_n hx hb dX8_putNumber_28 rfl (lv_at hl 0 rfl) ?_
          refine lv_if_le (tgt := 53) hx hb dX8_putNumber_29 (by decide) (fun c => absurd c (by decide)) (fun _ => ?_)
          refine lv_aload_n hx hb dX8_putNumber_32 rfl (lv_at hl 2 rfl) ?_
          refine lv_bipush (v := 48) hx hb dX8_putNumber_33 (by decide) ?_
          refine lv_iload_n hx hb dX8_putNumber_35 rfl (lv_at hl 3 rfl) ?_
          refine lv_iload_n hx hb dX8_putNumber_36 rfl (lv_at hl 0 rfl) ?_
          refine lv_idiv hx hb dX8_putNumber_37 (by decide) ?_
          refine lv_topi (fun v57 ev57 => ?_)
          refine lv_bipush (v := 10) hx hb dX8_putNumber_38 (by decide) ?_
          refine lv_irem hx hb dX8_putNumber_40 (by decide) ?_
          refine lv_topi (fun v58 ev58 => ?_)
          refine lv_iadd hx hb dX8_putNumber_41 ?_
          refine lv_topi (fun v59 ev59 => ?_)
          obtain ⟨hPc, hDc, hFc⟩ := nv_sub3 (wc := [(h0, .inr (8, [.ref h1, .ref h2, .int u56_0, .int x2, .int x3])), (h1, .inl (y0, 64, .inl u56_1))]) hP hD hS hA [0, 1] (by decide) rfl
          have hKc := hK.sub (tys' := [(y0, .int)]) [0] rfl
          refine va_callv (va_runV (As := [.int v59]) (rest := []) ⟨hx, hb, hml, hown, hG⟩ (cX8_put_1 l dC dI h0 h1 h2 y0 H.size v59 u56_0 x2 x3 u56_1 (iv_w iu56_0 (by decide) (by decide))) (cwV 1 hG (gV wd_1194 wd_1196 wp_57 wd_16 wd_1197) rfl rfl rfl (by decide +kernel) ⟨Nat.le_of_ble_eq_true rfl, Nat.le_of_ble_eq_true rfl⟩) ⟨fun a U g mk q => by obtain ⟨q0, q1, qP, qK, qD⟩ := q; exact ⟨q0, q1, qP, va_K.moved (u := U) (U := U.calling g mk a) (Vm.Alike.refl U.vm) qK, qD⟩, va_recv hKc hPc (ci := 8) (q0 := 0) rfl rfl, fun U hU hW => ⟨rfl, by rw [hU], by rw [hU]; exact hPc, va_K.moved hW.alike hKc, hDc.weaken (fun _ _ _ _ => trivial)⟩⟩ rfl rfl hl.1 rfl (lv_room (Nat.le_of_ble_eq_true rfl)) dX8_putNumber_42 ⟨by decide, by decide⟩) hS (fun q _ h => hFc q h) hFc (fun u61 t H1 locs ht hvm hw hB hz1 hk1 hS => ?_)
          obtain ⟨u61_0, u61_1⟩ := u61
          have hw : iv u61_0 1 64 ∧ True := hw
          obtain ⟨iu61_0, -⟩ := hw
          obtain ⟨hP1, hK1, hD1⟩ := hB
          rw [ht] at hP1
          have hK1 := va_K.moved hvm.symm hK1
          obtain ⟨hP, hD⟩ := nv_join (wf := [(h0, .inr (8, [.ref h1, .ref h2, .int u61_0, .int x2, .int x3])), (h1, .inl (y0, 64, .inl u61_1))]) hP hD [0, 1] [] rfl rfl (by decide) (by decide) hk1 hFc hP1 hD1 rfl
          have hK := (hK.sub (tys' := []) [] rfl).app hK1
          generalize H1 = H at hP hS ⊢
          have hK : va_K (dC, dI) vwCl [(y0, .int)] s := hK
          refine lv_iload_n hx hb dX8_putNumber_45 rfl (lv_at hl 0 rfl) ?_
          refine lv_bipush (v := 10) hx hb dX8_putNumber_46 (by decide) ?_
          refine lv_idiv hx hb dX8_putNumber_48 (by decide) ?_
          refine lv_val (y := 0) (by decide +kernel) ?_
          refine lv_istore_n (lv' := [(2, .int 0), (3, .int 3), (0, .ref h0), (1, .int x0)]) hx hb dX8_putNumber_49 rfl hl (by decide) rfl (fun ls hl => ?_)
          refine lv_goto (tgt := 28) hx hb dX8_putNumber_50 (by decide) ?_
          refine lv_iload_n hx hb dX8_putNumber_28 rfl (lv_at hl 0 rfl) ?_
          refine lv_if_le (tgt := 53) hx hb dX8_putNumber_29 (by decide) (fun _ => ?_) (fun c => absurd (by decide) c)
          rw [hQ]
          obtain ⟨hP9, hD9⟩ := nv_sub2 (wc := [(h0, .inr (8, [.ref h1, .ref h2, .int u61_0, .int x2, .int x3])), (h1, .inl (y0, 64, .inl u61_1))]) hP hD [0, 1] (by decide) rfl
          have hK9 := hK.sub (tys' := [(y0, .int)]) [0] rfl
          exact W.vret hx hb hr (fun t ht hW => ⟨⟨(u61_0, u61_1), rfl, ⟨iv_w iu61_0 (by decide) (by decide), trivial⟩, by rw [ht]; exact hP9, va_K.moved hW.alike hK9, hD9⟩, hS.F ht⟩) hS.2.2 dX8_putNumber_53
        · skip
          have j62 : iv x0 10000 2147483647 := iv_nltL j39 (by decide : iv 10000 10000 10000) c40 (by decide)
          refine lv_iload_n hx hb dX8_putNumber_17 rfl (lv_at hl 1 rfl) ?_
          refine lv_bipush (v := 10) hx hb dX8_putNumber_18 (by decide) ?_
          refine lv_imul hx hb dX8_putNumber_20 ?_
          refine lv_val (y := 10000) (by decide +kernel) ?_
          refine lv_istore_n (lv' := [(2, .int 10000), (3, .int 3), (0, .ref h0), (1, .int x0)]) hx hb dX8_putNumber_21 rfl hl (by decide) rfl (fun ls hl => ?_)
          refine lv_iinc (v := 4) (lv' := [(3, .int 4), (2, .int 10000), (0, .ref h0), (1, .int x0)]) hx hb dX8_putNumber_22 hl (k := 1) rfl (by decide) (by decide) rfl (fun ls hl => ?_)
          refine lv_goto (tgt := 4) hx hb dX8_putNumber_25 (by decide) ?_
          refine lv_iload_n hx hb dX8_putNumber_4 rfl (lv_at hl 0 rfl) ?_
          refine lv_iconst (v := 4) hx hb dX8_putNumber_5 (by decide) ?_
          refine lv_icmp_ge (tgt := 28) hx hb dX8_putNumber_6 (by decide) (fun _ => ?_) (fun c => absurd (by decide) c)
          refine lv_iload_n hx hb dX8_putNumber_28 rfl (lv_at hl 1 rfl) ?_
          refine lv_if_le (tgt := 53) hx hb dX8_putNumber_29 (by decide) (fun c => absurd c (by decide)) (fun _ => ?_)
          refine lv_aload_n hx hb dX8_putNumber_32 rfl (lv_at hl 2 rfl) ?_
          refine lv_bipush (v := 48) hx hb dX8_putNumber_33 (by decide) ?_
          refine lv_iload_n hx hb dX8_putNumber_35 rfl (lv_at hl 3 rfl) ?_
          refine lv_iload_n hx hb dX8_putNumber_36 rfl (lv_at hl 1 rfl) ?_
          refine lv_idiv hx hb dX8_putNumber_37 (by decide) ?_
          refine lv_topi (fun v63 ev63 => ?_)
          refine lv_bipush (v := 10) hx hb dX8_putNumber_38 (by decide) ?_
          refine lv_irem hx hb dX8_putNumber_40 (by decide) ?_
          refine lv_topi (fun v64 ev64 => ?_)
          refine lv_iadd hx hb dX8_putNumber_41 ?_
          refine lv_topi (fun v65 ev65 => ?_)
          obtain ⟨hPc, hDc, hFc⟩ := nv_sub3 (wc := [(h0, .inr (8, [.ref h1, .ref h2, .int x1, .int x2, .int x3])), (h1, .inl (y0, 64, .inl f0))]) hP hD hS hA [0, 1] (by decide) rfl
          have hKc := hK.sub (tys' := [(y0, .int)]) [0] rfl
          refine va_callv (va_runV (As := [.int v65]) (rest := []) ⟨hx, hb, hml, hown, hG⟩ (cX8_put_1 l dC dI h0 h1 h2 y0 s.heap.size v65 x1 x2 x3 f0 ix1) (cwV 1 hG (gV wd_1194 wd_1196 wp_57 wd_16 wd_1197) rfl rfl rfl (by decide +kernel) ⟨Nat.le_of_ble_eq_true rfl, Nat.le_of_ble_eq_true rfl⟩) ⟨fun a U g mk q => by obtain ⟨q0, q1, qP, qK, qD⟩ := q; exact ⟨q0, q1, qP, va_K.moved (u := U) (U := U.calling g mk a) (Vm.Alike.refl U.vm) qK, qD⟩, va_recv hKc hPc (ci := 8) (q0 := 0) rfl rfl, fun U hU hW => ⟨rfl, by rw [hU], by rw [hU]; exact hPc, va_K.moved hW.alike hKc, hDc.weaken (fun _ _ _ _ => trivial)⟩⟩ rfl rfl hl.1 rfl (lv_room (Nat.le_of_ble_eq_true rfl)) dX8_putNumber_42 ⟨by decide, by decide⟩) hS (fun q _ h => hFc q h) hFc (fun u67 t H1 locs ht hvm hw hB hz1 hk1 hS => ?_)
          obtain ⟨u67_0, u67_1⟩ := u67
          have hw : iv u67_0 1 64 ∧ True := hw
          obtain ⟨iu67_0, -⟩ := hw
          obtain ⟨hP1, hK1, hD1⟩ := hB
          rw [ht] at hP1
          have hK1 := va_K.moved hvm.symm hK1
          obtain ⟨hP, hD⟩ := nv_join (wf := [(h0, .inr (8, [.ref h1, .ref h2, .int u67_0, .int x2, .int x3])), (h1, .inl (y0, 64, .inl u67_1))]) hP hD [0, 1] [] rfl rfl (by decide) (by decide) hk1 hFc hP1 hD1 rfl
          have hK := (hK.sub (tys' := []) [] rfl).app hK1
          generalize H1 = H at hP hS ⊢
          have hK : va_K (dC, dI) vwCl [(y0, .int)] s := hK
          refine lv_iload_n hx hb dX8_putNumber_45 rfl (lv_at hl 1 rfl) ?_
          refine lv_bipush (v := 10) hx hb dX8_putNumber_46 (by decide) ?_
          refine lv_idiv hx hb dX8_putNumber_48 (by decide) ?_
          refine lv_val (y := 1000) (by decide +kernel) ?_
          refine lv_istore_n (lv' := [(2, .int 1000), (3, .int 4), (0, .ref h0), (1, .int x0)]) hx hb dX8_putNumber_49 rfl hl (by decide) rfl (fun ls hl => ?_)
          refine lv_goto (tgt := 28) hx hb dX8_putNumber_50 (by decide) ?_
          refine lv_iload_n hx hb dX8_putNumber_28 rfl (lv_at hl 0 rfl) ?_
          refine lv_if_le (tgt := 53) hx hb dX8_putNumber_29 (by decide) (fun c => absurd c (by decide)) (fun _ => ?_)
          refine lv_aload_n hx hb dX8_putNumber_32 rfl (lv_at hl 2 rfl) ?_
          refine lv_bipush (v := 48) hx hb dX8_putNumber_33 (by decide) ?_
          refine lv_iload_n hx hb dX8_putNumber_35 rfl (lv_at hl 3 rfl) ?_
          refine lv_iload_n hx hb dX8_putNumber_36 rfl (lv_at hl 0 rfl) ?_
          refine lv_idiv hx hb dX8_putNumber_37 (by decide) ?_
          refine lv_topi (fun v68 ev68 => ?_)
          refine lv_bipush (v := 10) hx hb dX8_putNumber_38 (by decide) ?_
          refine lv_irem hx hb dX8_putNumber_40 (by decide) ?_
          refine lv_topi (fun v69 ev69 => ?_)
          refine lv_iadd hx hb dX8_putNumber_41 ?_
          refine lv_topi (fun v70 ev70 => ?_)
          obtain ⟨hPc, hDc, hFc⟩ := nv_sub3 (wc := [(h0, .inr (8, [.ref h1, .ref h2, .int u67_0, .int x2, .int x3])), (h1, .inl (y0, 64, .inl u67_1))]) hP hD hS hA [0, 1] (by decide) rfl
          have hKc := hK.sub (tys' := [(y0, .int)]) [0] rfl
          refine va_callv (va_runV (As := [.int v70]) (rest := []) ⟨hx, hb, hml, hown, hG⟩ (cX8_put_1 l dC dI h0 h1 h2 y0 H.size v70 u67_0 x2 x3 u67_1 (iv_w iu67_0 (by decide) (by decide))) (cwV 1 hG (gV wd_1194 wd_1196 wp_57 wd_16 wd_1197) rfl rfl rfl (by decide +kernel) ⟨Nat.le_of_ble_eq_true rfl, Nat.le_of_ble_eq_true rfl⟩) ⟨fun a U g mk q => by obtain ⟨q0, q1, qP, qK, qD⟩ := q; exact ⟨q0, q1, qP, va_K.moved (u := U) (U := U.calling g mk a) (Vm.Alike.refl U.vm) qK, qD⟩, va_recv hKc hPc (ci := 8) (q0 := 0) rfl rfl, fun U hU hW => ⟨rfl, by rw [hU], by rw [hU]; exact hPc, va_K.moved hW.alike hKc, hDc.weaken (fun _ _ _ _ => trivial)⟩⟩ rfl rfl hl.1 rfl (lv_room (Nat.le_of_ble_eq_true rfl)) dX8_putNumber_42 ⟨by decide, by decide⟩) hS (fun q _ h => hFc q h) hFc (fun u72 t H1 locs ht hvm hw hB hz1 hk1 hS => ?_)
          obtain ⟨u72_0, u72_1⟩ := u72
          have hw : iv u72_0 1 64 ∧ True := hw
          obtain ⟨iu72_0, -⟩ := hw
          obtain ⟨hP1, hK1, hD1⟩ := hB
          rw [ht] at hP1
          have hK1 := va_K.moved hvm.symm hK1
          obtain ⟨hP, hD⟩ := nv_join (wf := [(h0, .inr (8, [.ref h1, .ref h2, .int u72_0, .int x2, .int x3])), (h1, .inl (y0, 64, .inl u72_1))]) hP hD [0, 1] [] rfl rfl (by decide) (by decide) hk1 hFc hP1 hD1 rfl
          have hK := (hK.sub (tys' := []) [] rfl).app hK1
          generalize H1 = H at hP hS ⊢
          have hK : va_K (dC, dI) vwCl [(y0, .int)] s := hK
          refine lv_iload_n hx hb dX8_putNumber_45 rfl (lv_at hl 0 rfl) ?_
          refine lv_bipush (v := 10) hx hb dX8_putNumber_46 (by decide) ?_
          refine lv_idiv hx hb dX8_putNumber_48 (by decide) ?_
          refine lv_val (y := 100) (by decide +kernel) ?_
          refine lv_istore_n (lv' := [(2, .int 100), (3, .int 4), (0, .ref h0), (1, .int x0)]) hx hb dX8_putNumber_49 rfl hl (by decide) rfl (fun ls hl => ?_)
          refine lv_goto (tgt := 28) hx hb dX8_putNumber_50 (by decide) ?_
          refine lv_iload_n hx hb dX8_putNumber_28 rfl (lv_at hl 0 rfl) ?_
          refine lv_if_le (tgt := 53) hx hb dX8_putNumber_29 (by decide) (fun c => absurd c (by decide)) (fun _ => ?_)
          refine lv_aload_n hx hb dX8_putNumber_32 rfl (lv_at hl 2 rfl) ?_
          refine lv_bipush (v := 48) hx hb dX8_putNumber_33 (by decide) ?_
          refine lv_iload_n hx hb dX8_putNumber_35 rfl (lv_at hl 3 rfl) ?_
          refine lv_iload_n hx hb dX8_putNumber_36 rfl (lv_at hl 0 rfl) ?_
          refine lv_idiv hx hb dX8_putNumber_37 (by decide) ?_
          refine lv_topi (fun v73 ev73 => ?_)
          refine lv_bipush (v := 10) hx hb dX8_putNumber_38 (by decide) ?_
          refine lv_irem hx hb dX8_putNumber_40 (by decide) ?_
          refine lv_topi (fun v74 ev74 => ?_)
          refine lv_iadd hx hb dX8_putNumber_41 ?_
          refine lv_topi (fun v75 ev75 => ?_)
          obtain ⟨hPc, hDc, hFc⟩ := nv_sub3 (wc := [(h0, .inr (8, [.ref h1, .ref h2, .int u72_0, .int x2, .int x3])), (h1, .inl (y0, 64, .inl u72_1))]) hP hD hS hA [0, 1] (by decide) rfl
          have hKc := hK.sub (tys' := [(y0, .int)]) [0] rfl
          refine va_callv (va_runV (As := [.int v75]) (rest := []) ⟨hx, hb, hml, hown, hG⟩ (cX8_put_1 l dC dI h0 h1 h2 y0 H.size v75 u72_0 x2 x3 u72_1 (iv_w iu72_0 (by decide) (by decide))) (cwV 1 hG (gV wd_1194 wd_1196 wp_57 wd_16 wd_1197) rfl rfl rfl (by decide +kernel) ⟨Nat.le_of_ble_eq_true rfl, Nat.le_of_ble_eq_true rfl⟩) ⟨fun a U g mk q => by obtain ⟨q0, q1, qP, qK, qD⟩ := q; exact ⟨q0, q1, qP, va_K.moved (u := U) (U := U.calling g mk a) (Vm.Alike.refl U.vm) qK, qD⟩, va_recv hKc hPc (ci := 8) (q0 := 0) rfl rfl, fun U hU hW => ⟨rfl, by rw [hU], by rw [hU]; exact hPc, va_K.moved hW.alike hKc, hDc.weaken (fun _ _ _ _ => trivial)⟩⟩ rfl rfl hl.1 rfl (lv_room (Nat.le_of_ble_eq_true rfl)) dX8_putNumber_42 ⟨by decide, by decide⟩) hS (fun q _ h => hFc q h) hFc (fun u77 t H1 locs ht hvm hw hB hz1 hk1 hS => ?_)
          obtain ⟨u77_0, u77_1⟩ := u77
          have hw : iv u77_0 1 64 ∧ True := hw
          obtain ⟨iu77_0, -⟩ := hw
          obtain ⟨hP1, hK1, hD1⟩ := hB
          rw [ht] at hP1
          have hK1 := va_K.moved hvm.symm hK1
          obtain ⟨hP, hD⟩ := nv_join (wf := [(h0, .inr (8, [.ref h1, .ref h2, .int u77_0, .int x2, .int x3])), (h1, .inl (y0, 64, .inl u77_1))]) hP hD [0, 1] [] rfl rfl (by decide) (by decide) hk1 hFc hP1 hD1 rfl
          have hK := (hK.sub (tys' := []) [] rfl).app hK1
          generalize H1 = H at hP hS ⊢
          have hK : va_K (dC, dI) vwCl [(y0, .int)] s := hK
          refine lv_iload_n hx hb dX8_putNumber_45 rfl (lv_at hl 0 rfl) ?_
          refine lv_bipush (v := 10) hx hb dX8_putNumber_46 (by decide) ?_
          refine lv_idiv hx hb dX8_putNumber_48 (by decide) ?_
          refine lv_val (y := 10) (by decide +kernel) ?_
          refine lv_istore_n (lv' := [(2, .int 10), (3, .int 4), (0, .ref h0), (1, .int x0)]) hx hb dX8_putNumber_49 rfl hl (by decide) rfl (fun ls hl => ?_)
          refine lv_goto (tgt := 28) hx hb dX8_putNumber_50 (by decide) ?_
          refine lv_iload_n hx hb dX8_putNumber_28 rfl (lv_at hl 0 rfl) ?_
          refine lv_if_le (tgt := 53) hx hb dX8_putNumber_29 (by decide) (fun c => absurd c (by decide)) (fun _ => ?_)
          refine lv_aload_n hx hb dX8_putNumber_32 rfl (lv_at hl 2 rfl) ?_
          refine lv_bipush (v := 48) hx hb dX8_putNumber_33 (by decide) ?_
          refine lv_iload_n hx hb dX8_putNumber_35 rfl (lv_at hl 3 rfl) ?_
          refine lv_iload_n hx hb dX8_putNumber_36 rfl (lv_at hl 0 rfl) ?_
          refine lv_idiv hx hb dX8_putNumber_37 (by decide) ?_
          refine lv_topi (fun v78 ev78 => ?_)
          refine lv_bipush (v := 10) hx hb dX8_putNumber_38 (by decide) ?_
          refine lv_irem hx hb dX8_putNumber_40 (by decide) ?_
          refine lv_topi (fun v79 ev79 => ?_)
          refine lv_iadd hx hb dX8_putNumber_41 ?_
          refine lv_topi (fun v80 ev80 => ?_)
          obtain ⟨hPc, hDc, hFc⟩ := nv_sub3 (wc := [(h0, .inr (8, [.ref h1, .ref h2, .int u77_0, .int x2, .int x3])), (h1, .inl (y0, 64, .inl u77_1))]) hP hD hS hA [0, 1] (by decide) rfl
          have hKc := hK.sub (tys' := [(y0, .int)]) [0] rfl
          refine va_callv (va_runV (As := [.int v80]) (rest := []) ⟨hx, hb, hml, hown, hG⟩ (cX8_put_1 l dC dI h0 h1 h2 y0 H.size v80 u77_0 x2 x3 u77_1 (iv_w iu77_0 (by decide) (by decide))) (cwV 1 hG (gV wd_1194 wd_1196 wp_57 wd_16 wd_1197) rfl rfl rfl (by decide +kernel) ⟨Nat.le_of_ble_eq_true rfl, Nat.le_of_ble_eq_true rfl⟩) ⟨fun a U g mk q => by obtain ⟨q0, q1, qP, qK, qD⟩ := q; exact ⟨q0, q1, qP, va_K.moved (u := U) (U := U.calling g mk a) (Vm.Alike.refl U.vm) qK, qD⟩, va_recv hKc hPc (ci := 8) (q0 := 0) rfl rfl, fun U hU hW => ⟨rfl, by rw [hU], by rw [hU]; exact hPc, va_K.moved hW.alike hKc, hDc.weaken (fun _ _ _ _ => trivial)⟩⟩ rfl rfl hl.1 rfl (lv_room (Nat.le_of_ble_eq_true rfl)) dX8_putNumber_42 ⟨by decide, by decide⟩) hS (fun q _ h => hFc q h) hFc (fun u82 t H1 locs ht hvm hw hB hz1 hk1 hS => ?_)
          obtain ⟨u82_0, u82_1⟩ := u82
          have hw : iv u82_0 1 64 ∧ True := hw
          obtain ⟨iu82_0, -⟩ := hw
          obtain ⟨hP1, hK1, hD1⟩ := hB
          rw [ht] at hP1
          have hK1 := va_K.moved hvm.symm hK1
          obtain ⟨hP, hD⟩ := nv_join (wf := [(h0, .inr (8, [.ref h1, .ref h2, .int u82_0, .int x2, .int x3])), (h1, .inl (y0, 64, .inl u82_1))]) hP hD [0, 1] [] rfl rfl (by decide) (by decide) hk1 hFc hP1 hD1 rfl
          have hK := (hK.sub (tys' := []) [] rfl).app hK1
          generalize H1 = H at hP hS ⊢
          have hK : va_K (dC, dI) vwCl [(y0, .int)] s := hK
          refine lv_iload_n hx hb dX8_putNumber_45 rfl (lv_at hl 0 rfl) ?_
          refine lv_bipush (v := 10) hx hb dX8_putNumber_46 (by decide) ?_
          refine lv_idiv hx hb dX8_putNumber_48 (by decide) ?_
          refine lv_val (y := 1) (by decide +kernel) ?_
          refine lv_istore_n (lv' := [(2, .int 1), (3, .int 4), (0, .ref h0), (1, .int x0)]) hx hb dX8_putNumber_49 rfl hl (by decide) rfl (fun ls hl => ?_)
          refine lv_goto (tgt := 28) hx hb dX8_putNumber_50 (by decide) ?_
          refine lv_iload_n hx hb dX8_putNumber_28 rfl (lv_at hl 0 rfl) ?_
          refine lv_if_le (tgt := 53) hx hb dX8_putNumber_29 (by decide) (fun c => absurd c (by decide)) (fun _ => ?_)
          refine lv_aload_n hx hb dX8_putNumber_32 rfl (lv_at hl 2 rfl) ?_
          refine lv_bipush (v := 48) hx hb dX8_putNumber_33 (by decide) ?_
          refine lv_iload_n hx hb dX8_putNumber_35 rfl (lv_at hl 3 rfl) ?_
          refine lv_iload_n hx hb dX8_putNumber_36 rfl (lv_at hl 0 rfl) ?_
          refine lv_idiv hx hb dX8_putNumber_37 (by decide) ?_
          refine lv_topi (fun v83 ev83 => ?_)
          refine lv_bipush (v := 10) hx hb dX8_putNumber_38 (by decide) ?_
          refine lv_irem hx hb dX8_putNumber_40 (by decide) ?_
          refine lv_topi (fun v84 ev84 => ?_)
          refine lv_iadd hx hb dX8_putNumber_41 ?_
          refine lv_topi (fun v85 ev85 => ?_)
          obtain ⟨hPc, hDc, hFc⟩ := nv_sub3 (wc := [(h0, .inr (8, [.ref h1, .ref h2, .int u82_0, .int x2, .int x3])), (h1, .inl (y0, 64, .inl u82_1))]) hP hD hS hA [0, 1] (by decide) rfl
          have hKc := hK.sub (tys' := [(y0, .int)]) [0] rfl
          refine va_callv (va_runV (As := [.int v85]) (rest := []) ⟨hx, hb, hml, hown, hG⟩ (cX8_put_1 l dC dI h0 h1 h2 y0 H.size v85 u82_0 x2 x3 u82_1 (iv_w iu82_0 (by decide) (by decide))) (cwV 1 hG (gV wd_1194 wd_1196 wp_57 wd_16 wd_1197) rfl rfl rfl (by decide +kernel) ⟨Nat.le_of_ble_eq_true rfl, Nat.le_of_ble_eq_true rfl⟩) ⟨fun a U g mk q => by obtain ⟨q0, q1, qP, qK, qD⟩ := q; exact ⟨q0, q1, qP, va_K.moved (u := U) (U := U.calling g mk a) (Vm.Alike.refl U.vm) qK, qD⟩, va_recv hKc hPc (ci := 8) (q0 := 0) rfl rfl, fun U hU hW => ⟨rfl, by rw [hU], by rw [hU]; exact hPc, va_K.moved hW.alike hKc, hDc.weaken (fun _ _ _ _ => trivial)⟩⟩ rfl rfl hl.1 rfl (lv_room (Nat.le_of_ble_eq_true rfl)) dX8_putNumber_42 ⟨by decide, by decide⟩) hS (fun q _ h => hFc q h) hFc (fun u87 t H1 locs ht hvm hw hB hz1 hk1 hS => ?_)
          obtain ⟨u87_0, u87_1⟩ := u87
          have hw : iv u87_0 1 64 ∧ True := hw
          obtain ⟨iu87_0, -⟩ := hw
          obtain ⟨hP1, hK1, hD1⟩ := hB
          rw [ht] at hP1
          have hK1 := va_K.moved hvm.symm hK1
          obtain ⟨hP, hD⟩ := nv_join (wf := [(h0, .inr (8, [.ref h1, .ref h2, .int u87_0, .int x2, .int x3])), (h1, .inl (y0, 64, .inl u87_1))]) hP hD [0, 1] [] rfl rfl (by decide) (by decide) hk1 hFc hP1 hD1 rfl
          have hK := (hK.sub (tys' := []) [] rfl).app hK1
          generalize H1 = H at hP hS ⊢
          have hK : va_K (dC, dI) vwCl [(y0, .int)] s := hK
          refine lv_iload_n hx hb dX8_putNumber_45 rfl (lv_at hl 0 rfl) ?_
          refine lv_bipush (v := 10) hx hb dX8_putNumber_46 (by decide) ?_
          refine lv_idiv hx hb dX8_putNumber_48 (by decide) ?_
          refine lv_val (y := 0) (by decide +kernel) ?_
          refine lv_istore_n (lv' := [(2, .int 0), (3, .int 4), (0, .ref h0), (1, .int x0)]) hx hb dX8_putNumber_49 rfl hl (by decide) rfl (fun ls hl => ?_)
          refine lv_goto (tgt := 28) hx hb dX8_putNumber_50 (by decide) ?_
          refine lv_iload_n hx hb dX8_putNumber_28 rfl (lv_at hl 0 rfl) ?_
          refine lv_if_le (tgt := 53) hx hb dX8_putNumber_29 (by decide) (fun _ => ?_) (fun c => absurd (by decide) c)
          rw [hQ]
          obtain ⟨hP9, hD9⟩ := nv_sub2 (wc := [(h0, .inr (8, [.ref h1, .ref h2, .int u87_0, .int x2, .int x3])), (h1, .inl (y0, 64, .inl u87_1))]) hP hD [0, 1] (by decide) rfl
          have hK9 := hK.sub (tys' := [(y0, .int)]) [0] rfl
          exact W.vret hx hb hr (fun t ht hW => ⟨⟨(u87_0, u87_1), rfl, ⟨iv_w iu87_0 (by decide) (by decide), trivial⟩, by rw [ht]; exact hP9, va_K.moved hW.alike hK9, hD9⟩, hS.F ht⟩) hS.2.2 dX8_putNumber_53
set_option maxHeartbeats 100000000 in
set_option maxRecDepth 100000 in
theorem cX8_putRegister_1 (l : Launch) (dC : Nat → ClassId) (dI : Nat → Nat → Nat) (h0 h1 h2 : Nat) (y0 : ClassId) (sz : Nat) (x0 x1 x2 x3 : Int32) (f0 : Nat → Int32) (ix1 : iv x1 0 64) : Met l yX8_putRegister (Cond.code yX8_putRegister cX8_putRegister 2 none :: lw_G) ({ frames := 2, cells := 0, slots := 0, locals := 44 }) (va_Pc [.ref h0, .int x0] (fun U => U.heap.size = sz ∧ va_P (dC, dI) vwCl [(h0, .inr (8, [.ref h1, .ref h2, .int x1, .int x2, .int x3])), (h1, .inl (y0, 64, .inl f0))] U.heap ∧ va_K (dC, dI) vwCl [(y0, .int)] U ∧ va_D (fun _ => True) [(h0, .inr (8, [.ref h1, .ref h2, .int x1, .int x2, .int x3])), (h1, .inl (y0, 64, .inl f0))])) (va_Qv (fun (u : Int32 × (Nat → Int32)) => iv u.1 1 64 ∧ True) (fun (u : Int32 × (Nat → Int32)) (t : State) => va_P (dC, dI) vwCl [(h0, .inr (8, [.ref h1, .ref h2, .int u.1, .int x2, .int x3])), (h1, .inl (y0, 64, .inl u.2))] t.heap ∧ va_K (dC, dI) vwCl [(y0, .int)] t ∧ va_D (va_A [(h0, .inr (8, [.ref h1, .ref h2, .int x1, .int x2, .int x3])), (h1, .inl (y0, 64, .inl f0))] sz) [(h0, .inr (8, [.ref h1, .ref h2, .int u.1, .int x2, .int x3])), (h1, .inl (y0, 64, .inl u.2))]) (va_A [(h0, .inr (8, [.ref h1, .ref h2, .int x1, .int x2, .int x3])), (h1, .inl (y0, 64, .inl f0))] sz)) 0 0 (va_A [(h0, .inr (8, [.ref h1, .ref h2, .int x1, .int x2, .int x3])), (h1, .inl (y0, 64, .inl f0))] sz) := by
  refine Met.ofW (cc := cX8_putRegister) (maxL := 2) (ret := none) (by decide) rfl ?_
  intro p e s m args below meth c s₁ B hml hv
  obtain ⟨rfl, hsz, hP, hK, hD0⟩ := hv
  have hx := B.exec
  have hb := B.bytes
  have hr := B.returns
  have hts0 := atoms_spec (ws := Cond.code yX8_putRegister cX8_putRegister 2 none :: lw_G) B.pre
  have hG : ∀ w ∈ lw_G, w.before _ s = true := fun w h => hts0 w (List.mem_cons_of_mem _ h)
  have hown : s.vm.findClass RX8 = some m.cls := findClass_of_methodNamed B.named
  have hlocks := B.notSynchronized
  subst hsz
  have hD := hD0.self (sz := s.heap.size)
  generalize hAe : va_A [(h0, .inr (8, [.ref h1, .ref h2, .int x1, .int x2, .int x3])), (h1, .inl (y0, 64, .inl f0))] s.heap.size = A at hD ⊢
  have hA : ∀ q : Nat, s.heap.size ≤ q → A q := fun q h => by rw [← hAe]; exact Or.inr h
  have hS : va_S A s.heap s.heap [] := va_S.rf
  have hP : va_P (dC, dI) vwCl [(h0, .inr (8, [.ref h1, .ref h2, .int x1, .int x2, .int x3])), (h1, .inl (y0, 64, .inl f0))] s.heap := hP
  have hl := lv_entry ([.ref h0, .int x0]) (n := 2) (Nat.le_of_ble_eq_true rfl)
  rw [lg_entry_eq]
  generalize (lg_sl ([.ref h0, .int x0]) ++ List.replicate (2 - (lg_sl ([.ref h0, .int x0])).length) Slot.unset).toArray = ls at hl ⊢
  have hl : lv_has ls 2 [(0, .ref h0), (1, .int x0)] := hl
  generalize ([.ref h0, .int x0] : List Value).toArray = ar at hG ⊢
  refine wq (fun Q hQ => ?_)
  refine lv_aload_n hx hb dX8_putRegister_0 rfl (lv_at hl 0 rfl) ?_
  refine lv_bipush (v := 114) hx hb dX8_putRegister_1 (by decide) ?_
  obtain ⟨hPc, hDc, hFc⟩ := nv_sub3 (wc := [(h0, .inr (8, [.ref h1, .ref h2, .int x1, .int x2, .int x3])), (h1, .inl (y0, 64, .inl f0))]) hP hD hS hA [0, 1] (by decide) rfl
  have hKc := hK.sub (tys' := [(y0, .int)]) [0] rfl
  refine va_callv (va_runV (As := [.int 114]) (rest := []) ⟨hx, hb, hml, hown, hG⟩ (cX8_put_1 l dC dI h0 h1 h2 y0 s.heap.size 114 x1 x2 x3 f0 ix1) (cwV 1 hG (gV wd_1194 wd_1196 wp_57 wd_16 wd_1197) rfl rfl rfl (by decide +kernel) ⟨Nat.le_of_ble_eq_true rfl, Nat.le_of_ble_eq_true rfl⟩) ⟨fun a U g mk q => by obtain ⟨q0, q1, qP, qK, qD⟩ := q; exact ⟨q0, q1, qP, va_K.moved (u := U) (U := U.calling g mk a) (Vm.Alike.refl U.vm) qK, qD⟩, va_recv hKc hPc (ci := 8) (q0 := 0) rfl rfl, fun U hU hW => ⟨rfl, by rw [hU], by rw [hU]; exact hPc, va_K.moved hW.alike hKc, hDc.weaken (fun _ _ _ _ => trivial)⟩⟩ rfl rfl hl.1 rfl (lv_room (Nat.le_of_ble_eq_true rfl)) dX8_putRegister_3 ⟨by decide, by decide⟩) hS (fun q _ h => hFc q h) hFc (fun u2 t H1 locs ht hvm hw hB hz1 hk1 hS => ?_)
  obtain ⟨u2_0, u2_1⟩ := u2
  have hw : iv u2_0 1 64 ∧ True := hw
  obtain ⟨iu2_0, -⟩ := hw
  obtain ⟨hP1, hK1, hD1⟩ := hB
  rw [ht] at hP1
  have hK1 := va_K.moved hvm.symm hK1
  obtain ⟨hP, hD⟩ := nv_join (wf := [(h0, .inr (8, [.ref h1, .ref h2, .int u2_0, .int x2, .int x3])), (h1, .inl (y0, 64, .inl u2_1))]) hP hD [0, 1] [] rfl rfl (by decide) (by decide) hk1 hFc hP1 hD1 rfl
  have hK := (hK.sub (tys' := []) [] rfl).app hK1
  generalize H1 = H at hP hS ⊢
  have hK : va_K (dC, dI) vwCl [(y0, .int)] s := hK
  refine lv_aload_n hx hb dX8_putRegister_6 rfl (lv_at hl 0 rfl) ?_
  refine lv_iload_n hx hb dX8_putRegister_7 rfl (lv_at hl 1 rfl) ?_
  obtain ⟨hPc, hDc, hFc⟩ := nv_sub3 (wc := [(h0, .inr (8, [.ref h1, .ref h2, .int u2_0, .int x2, .int x3])), (h1, .inl (y0, 64, .inl u2_1))]) hP hD hS hA [0, 1] (by decide) rfl
  have hKc := hK.sub (tys' := [(y0, .int)]) [0] rfl
  refine va_callv (va_runV (As := [.int x0]) (rest := []) ⟨hx, hb, hml, hown, hG⟩ (cX8_putNumber_1 l dC dI h0 h1 h2 y0 H.size x0 u2_0 x2 x3 u2_1 (iv_w iu2_0 (by decide) (by decide))) (cwV 1 hG (gV wd_1207 wd_1209 wp_60 wd_16 wd_1210) rfl rfl rfl (by decide +kernel) ⟨Nat.le_of_ble_eq_true rfl, Nat.le_of_ble_eq_true rfl⟩) ⟨fun a U g mk q => by obtain ⟨q0, q1, qP, qK, qD⟩ := q; exact ⟨q0, q1, qP, va_K.moved (u := U) (U := U.calling g mk a) (Vm.Alike.refl U.vm) qK, qD⟩, va_recv hKc hPc (ci := 8) (q0 := 0) rfl rfl, fun U hU hW => ⟨rfl, by rw [hU], by rw [hU]; exact hPc, va_K.moved hW.alike hKc, hDc.weaken (fun _ _ _ _ => trivial)⟩⟩ rfl rfl hl.1 rfl (lv_room (Nat.le_of_ble_eq_true rfl)) dX8_putRegister_8 ⟨by decide, by decide⟩) hS (fun q _ h => hFc q h) hFc (fun u4 t H1 locs ht hvm hw hB hz1 hk1 hS => ?_)
  obtain ⟨u4_0, u4_1⟩ := u4
  have hw : iv u4_0 1 64 ∧ True := hw
  obtain ⟨iu4_0, -⟩ := hw
  obtain ⟨hP1, hK1, hD1⟩ := hB
  rw [ht] at hP1
  have hK1 := va_K.moved hvm.symm hK1
  obtain ⟨hP, hD⟩ := nv_join (wf := [(h0, .inr (8, [.ref h1, .ref h2, .int u4_0, .int x2, .int x3])), (h1, .inl (y0, 64, .inl u4_1))]) hP hD [0, 1] [] rfl rfl (by decide) (by decide) hk1 hFc hP1 hD1 rfl
  have hK := (hK.sub (tys' := []) [] rfl).app hK1
  generalize H1 = H at hP hS ⊢
  have hK : va_K (dC, dI) vwCl [(y0, .int)] s := hK
  rw [hQ]
  obtain ⟨hP9, hD9⟩ := nv_sub2 (wc := [(h0, .inr (8, [.ref h1, .ref h2, .int u4_0, .int x2, .int x3])), (h1, .inl (y0, 64, .inl u4_1))]) hP hD [0, 1] (by decide) rfl
  have hK9 := hK.sub (tys' := [(y0, .int)]) [0] rfl
  exact W.vret hx hb hr (fun t ht hW => ⟨⟨(u4_0, u4_1), rfl, ⟨iv_w iu4_0 (by decide) (by decide), trivial⟩, by rw [ht]; exact hP9, va_K.moved hW.alike hK9, hD9⟩, hS.F ht⟩) hS.2.2 dX8_putRegister_11
set_option maxHeartbeats 100000000 in
set_option maxRecDepth 100000 in
theorem cX8_putBehindHash_1 (l : Launch) (dC : Nat → ClassId) (dI : Nat → Nat → Nat) (h0 h1 h2 : Nat) (y0 : ClassId) (sz : Nat) (x0 x1 x2 x3 : Int32) (f0 : Nat → Int32) (ix1 : iv x1 0 64) : Met l yX8_putBehindHash (Cond.code yX8_putBehindHash cX8_putBehindHash 2 none :: lw_G) ({ frames := 2, cells := 0, slots := 0, locals := 44 }) (va_Pc [.ref h0, .int x0] (fun U => U.heap.size = sz ∧ va_P (dC, dI) vwCl [(h0, .inr (8, [.ref h1, .ref h2, .int x1, .int x2, .int x3])), (h1, .inl (y0, 64, .inl f0))] U.heap ∧ va_K (dC, dI) vwCl [(y0, .int)] U ∧ va_D (fun _ => True) [(h0, .inr (8, [.ref h1, .ref h2, .int x1, .int x2, .int x3])), (h1, .inl (y0, 64, .inl f0))])) (va_Qv (fun (u : Int32 × (Nat → Int32)) => iv u.1 1 64 ∧ True) (fun (u : Int32 × (Nat → Int32)) (t : State) => va_P (dC, dI) vwCl [(h0, .inr (8, [.ref h1, .ref h2, .int u.1, .int x2, .int x3])), (h1, .inl (y0, 64, .inl u.2))] t.heap ∧ va_K (dC, dI) vwCl [(y0, .int)] t ∧ va_D (va_A [(h0, .inr (8, [.ref h1, .ref h2, .int x1, .int x2, .int x3])), (h1, .inl (y0, 64, .inl f0))] sz) [(h0, .inr (8, [.ref h1, .ref h2, .int u.1, .int x2, .int x3])), (h1, .inl (y0, 64, .inl u.2))]) (va_A [(h0, .inr (8, [.ref h1, .ref h2, .int x1, .int x2, .int x3])), (h1, .inl (y0, 64, .inl f0))] sz)) 0 0 (va_A [(h0, .inr (8, [.ref h1, .ref h2, .int x1, .int x2, .int x3])), (h1, .inl (y0, 64, .inl f0))] sz) := by
  refine Met.ofW (cc := cX8_putBehindHash) (maxL := 2) (ret := none) (by decide) rfl ?_
  intro p e s m args below meth c s₁ B hml hv
  obtain ⟨rfl, hsz, hP, hK, hD0⟩ := hv
  have hx := B.exec
  have hb := B.bytes
  have hr := B.returns
  have hts0 := atoms_spec (ws := Cond.code yX8_putBehindHash cX8_putBehindHash 2 none :: lw_G) B.pre
  have hG : ∀ w ∈ lw_G, w.before _ s = true := fun w h => hts0 w (List.mem_cons_of_mem _ h)
  have hown : s.vm.findClass RX8 = some m.cls := findClass_of_methodNamed B.named
  have hlocks := B.notSynchronized
  subst hsz
  have hD := hD0.self (sz := s.heap.size)
  generalize hAe : va_A [(h0, .inr (8, [.ref h1, .ref h2, .int x1, .int x2, .int x3])), (h1, .inl (y0, 64, .inl f0))] s.heap.size = A at hD ⊢
  have hA : ∀ q : Nat, s.heap.size ≤ q → A q := fun q h => by rw [← hAe]; exact Or.inr h
  have hS : va_S A s.heap s.heap [] := va_S.rf
  have hP : va_P (dC, dI) vwCl [(h0, .inr (8, [.ref h1, .ref h2, .int x1, .int x2, .int x3])), (h1, .inl (y0, 64, .inl f0))] s.heap := hP
  have hl := lv_entry ([.ref h0, .int x0]) (n := 2) (Nat.le_of_ble_eq_true rfl)
  rw [lg_entry_eq]
  generalize (lg_sl ([.ref h0, .int x0]) ++ List.replicate (2 - (lg_sl ([.ref h0, .int x0])).length) Slot.unset).toArray = ls at hl ⊢
  have hl : lv_has ls 2 [(0, .ref h0), (1, .int x0)] := hl
  generalize ([.ref h0, .int x0] : List Value).toArray = ar at hG ⊢
  refine wq (fun Q hQ => ?_)
  refine lv_aload_n hx hb dX8_putBehindHash_0 rfl (lv_at hl 0 rfl) ?_
  refine lv_bipush (v := 35) hx hb dX8_putBehindHash_1 (by decide) ?_
  obtain ⟨hPc, hDc, hFc⟩ := nv_sub3 (wc := [(h0, .inr (8, [.ref h1, .ref h2, .int x1, .int x2, .int x3])), (h1, .inl (y0, 64, .inl f0))]) hP hD hS hA [0, 1] (by decide) rfl
  have hKc := hK.sub (tys' := [(y0, .int)]) [0] rfl
  refine va_callv (va_runV (As := [.int 35]) (rest := []) ⟨hx, hb, hml, hown, hG⟩ (cX8_put_1 l dC dI h0 h1 h2 y0 s.heap.size 35 x1 x2 x3 f0 ix1) (cwV 1 hG (gV wd_1194 wd_1196 wp_57 wd_16 wd_1197) rfl rfl rfl (by decide +kernel) ⟨Nat.le_of_ble_eq_true rfl, Nat.le_of_ble_eq_true rfl⟩) ⟨fun a U g mk q => by obtain ⟨q0, q1, qP, qK, qD⟩ := q; exact ⟨q0, q1, qP, va_K.moved (u := U) (U := U.calling g mk a) (Vm.Alike.refl U.vm) qK, qD⟩, va_recv hKc hPc (ci := 8) (q0 := 0) rfl rfl, fun U hU hW => ⟨rfl, by rw [hU], by rw [hU]; exact hPc, va_K.moved hW.alike hKc, hDc.weaken (fun _ _ _ _ => trivial)⟩⟩ rfl rfl hl.1 rfl (lv_room (Nat.le_of_ble_eq_true rfl)) dX8_putBehindHash_3 ⟨by decide, by decide⟩) hS (fun q _ h => hFc q h) hFc (fun u2 t H1 locs ht hvm hw hB hz1 hk1 hS => ?_)
  obtain ⟨u2_0, u2_1⟩ := u2
  have hw : iv u2_0 1 64 ∧ True := hw
  obtain ⟨iu2_0, -⟩ := hw
  obtain ⟨hP1, hK1, hD1⟩ := hB
  rw [ht] at hP1
  have hK1 := va_K.moved hvm.symm hK1
  obtain ⟨hP, hD⟩ := nv_join (wf := [(h0, .inr (8, [.ref h1, .ref h2, .int u2_0, .int x2, .int x3])), (h1, .inl (y0, 64, .inl u2_1))]) hP hD [0, 1] [] rfl rfl (by decide) (by decide) hk1 hFc hP1 hD1 rfl
  have hK := (hK.sub (tys' := []) [] rfl).app hK1
  generalize H1 = H at hP hS ⊢
  have hK : va_K (dC, dI) vwCl [(y0, .int)] s := hK
  refine lv_iload_n hx hb dX8_putBehindHash_6 rfl (lv_at hl 1 rfl) ?_
  refine lv_ldc hx hb hown (hG _ wd_1206) dX8_putBehindHash_7 ?_
  refine jcut (a := ∀ (b10 : Int32) (b11 : Nat → Int32) (ib10 : iv b10 1 64) (H : Heap) (locs : List Loc) (hK : va_K (dC, dI) vwCl [(y0, .int)] s) (hP : va_P (dC, dI) vwCl [(h0, .inr (8, [.ref h1, .ref h2, .int b10, .int x2, .int x3])), (h1, .inl (y0, 64, .inl b11))] H) (hD : va_D A [(h0, .inr (8, [.ref h1, .ref h2, .int b10, .int x2, .int x3])), (h1, .inl (y0, 64, .inl b11))]) (hS : va_S A s.heap H locs) (ls : Array Slot) (hl : lv_has ls 2 []), W p l e (headSpec (Cond.code yX8_putBehindHash cX8_putBehindHash 2 none :: lw_G) ({ frames := 2, cells := 0, slots := 0, locals := 44 })).room s m ar below meth c H locs 0 0 Q (F0 m 32 ls [])) ?_ (fun j12 => ?_)
  · skip
    intro b10 b11 ib10 H locs hK hP hD hS ls hl
    rw [hQ]
    obtain ⟨hP9, hD9⟩ := nv_sub2 (wc := [(h0, .inr (8, [.ref h1, .ref h2, .int b10, .int x2, .int x3])), (h1, .inl (y0, 64, .inl b11))]) hP hD [0, 1] (by decide) rfl
    have hK9 := hK.sub (tys' := [(y0, .int)]) [0] rfl
    exact W.vret hx hb hr (fun t ht hW => ⟨⟨(b10, b11), rfl, ⟨iv_w ib10 (by decide) (by decide), trivial⟩, by rw [ht]; exact hP9, va_K.moved hW.alike hK9, hD9⟩, hS.F ht⟩) hS.2.2 dX8_putBehindHash_32
  refine lv_icmp_ne (tgt := 27) hx hb dX8_putBehindHash_9 (by decide) (fun c3 => ?_) (fun c3 => ?_)
  · skip
    refine lv_aload_n hx hb dX8_putBehindHash_27 rfl (lv_at hl 0 rfl) ?_
    refine lv_iload_n hx hb dX8_putBehindHash_28 rfl (lv_at hl 1 rfl) ?_
    obtain ⟨hPc, hDc, hFc⟩ := nv_sub3 (wc := [(h0, .inr (8, [.ref h1, .ref h2, .int u2_0, .int x2, .int x3])), (h1, .inl (y0, 64, .inl u2_1))]) hP hD hS hA [0, 1] (by decide) rfl
    have hKc := hK.sub (tys' := [(y0, .int)]) [0] rfl
    refine va_callv (va_runV (As := [.int x0]) (rest := []) ⟨hx, hb, hml, hown, hG⟩ (cX8_putNumber_1 l dC dI h0 h1 h2 y0 H.size x0 u2_0 x2 x3 u2_1 (iv_w iu2_0 (by decide) (by decide))) (cwV 1 hG (gV wd_1207 wd_1209 wp_60 wd_16 wd_1210) rfl rfl rfl (by decide +kernel) ⟨Nat.le_of_ble_eq_true rfl, Nat.le_of_ble_eq_true rfl⟩) ⟨fun a U g mk q => by obtain ⟨q0, q1, qP, qK, qD⟩ := q; exact ⟨q0, q1, qP, va_K.moved (u := U) (U := U.calling g mk a) (Vm.Alike.refl U.vm) qK, qD⟩, va_recv hKc hPc (ci := 8) (q0 := 0) rfl rfl, fun U hU hW => ⟨rfl, by rw [hU], by rw [hU]; exact hPc, va_K.moved hW.alike hKc, hDc.weaken (fun _ _ _ _ => trivial)⟩⟩ rfl rfl hl.1 rfl (lv_room (Nat.le_of_ble_eq_true rfl)) dX8_putBehindHash_29 ⟨by decide, by decide⟩) hS (fun q _ h => hFc q h) hFc (fun u14 t H1 locs ht hvm hw hB hz1 hk1 hS => ?_)
    obtain ⟨u14_0, u14_1⟩ := u14
    have hw : iv u14_0 1 64 ∧ True := hw
    obtain ⟨iu14_0, -⟩ := hw
    obtain ⟨hP1, hK1, hD1⟩ := hB
    rw [ht] at hP1
    have hK1 := va_K.moved hvm.symm hK1
    obtain ⟨hP, hD⟩ := nv_join (wf := [(h0, .inr (8, [.ref h1, .ref h2, .int u14_0, .int x2, .int x3])), (h1, .inl (y0, 64, .inl u14_1))]) hP hD [0, 1] [] rfl rfl (by decide) (by decide) hk1 hFc hP1 hD1 rfl
    have hK := (hK.sub (tys' := []) [] rfl).app hK1
    generalize H1 = H at hP hS ⊢
    have hK : va_K (dC, dI) vwCl [(y0, .int)] s := hK
    exact j12 u14_0 u14_1 iu14_0 _ _ hK hP hD hS ls (lv_sub hl [] rfl)
  · skip
    subst c3
    refine lv_aload_n hx hb dX8_putBehindHash_12 rfl (lv_at hl 0 rfl) ?_
    refine lv_bipush (v := 45) hx hb dX8_putBehindHash_13 (by decide) ?_
    obtain ⟨hPc, hDc, hFc⟩ := nv_sub3 (wc := [(h0, .inr (8, [.ref h1, .ref h2, .int u2_0, .int x2, .int x3])), (h1, .inl (y0, 64, .inl u2_1))]) hP hD hS hA [0, 1] (by decide) rfl
    have hKc := hK.sub (tys' := [(y0, .int)]) [0] rfl
    refine va_callv (va_runV (As := [.int 45]) (rest := []) ⟨hx, hb, hml, hown, hG⟩ (cX8_put_1 l dC dI h0 h1 h2 y0 H.size 45 u2_0 x2 x3 u2_1 (iv_w iu2_0 (by decide) (by decide))) (cwV 1 hG (gV wd_1194 wd_1196 wp_57 wd_16 wd_1197) rfl rfl rfl (by decide +kernel) ⟨Nat.le_of_ble_eq_true rfl, Nat.le_of_ble_eq_true rfl⟩) ⟨fun a U g mk q => by obtain ⟨q0, q1, qP, qK, qD⟩ := q; exact ⟨q0, q1, qP, va_K.moved (u := U) (U := U.calling g mk a) (Vm.Alike.refl U.vm) qK, qD⟩, va_recv hKc hPc (ci := 8) (q0 := 0) rfl rfl, fun U hU hW => ⟨rfl, by rw [hU], by rw [hU]; exact hPc, va_K.moved hW.alike hKc, hDc.weaken (fun _ _ _ _ => trivial)⟩⟩ rfl rfl hl.1 rfl (lv_room (Nat.le_of_ble_eq_true rfl)) dX8_putBehindHash_15 ⟨by decide, by decide⟩) hS (fun q _ h => hFc q h) hFc (fun u16 t H1 locs ht hvm hw hB hz1 hk1 hS => ?_)
    obtain ⟨u16_0, u16_1⟩ := u16
    have hw : iv u16_0 1 64 ∧ True := hw
    obtain ⟨iu16_0, -⟩ := hw
    obtain ⟨hP1, hK1, hD1⟩ := hB
    rw [ht] at hP1
    have hK1 := va_K.moved hvm.symm hK1
    obtain ⟨hP, hD⟩ := nv_join (wf := [(h0, .inr (8, [.ref h1, .ref h2, .int u16_0, .int x2, .int x3])), (h1, .inl (y0, 64, .inl u16_1))]) hP hD [0, 1] [] rfl rfl (by decide) (by decide) hk1 hFc hP1 hD1 rfl
    have hK := (hK.sub (tys' := []) [] rfl).app hK1
    generalize H1 = H at hP hS ⊢
    have hK : va_K (dC, dI) vwCl [(y0, .int)] s := hK
    refine lv_aload_n hx hb dX8_putBehindHash_18 rfl (lv_at hl 0 rfl) ?_
    refine lv_bipush (v := 49) hx hb dX8_putBehindHash_19 (by decide) ?_
    obtain ⟨hPc, hDc, hFc⟩ := nv_sub3 (wc := [(h0, .inr (8, [.ref h1, .ref h2, .int u16_0, .int x2, .int x3])), (h1, .inl (y0, 64, .inl u16_1))]) hP hD hS hA [0, 1] (by decide) rfl
    have hKc := hK.sub (tys' := [(y0, .int)]) [0] rfl
    refine va_callv (va_runV (As := [.int 49]) (rest := []) ⟨hx, hb, hml, hown, hG⟩ (cX8_put_1 l dC dI h0 h1 h2 y0 H.size 49 u16_0 x2 x3 u16_1 (iv_w iu16_0 (by decide) (by decide))) (cwV 1 hG (gV wd_1194 wd_1196 wp_57 wd_16 wd_1197) rfl rfl rfl (by decide +kernel) ⟨Nat.le_of_ble_eq_true rfl, Nat.le_of_ble_eq_true rfl⟩) ⟨fun a U g mk q => by obtain ⟨q0, q1, qP, qK, qD⟩ := q; exact ⟨q0, q1, qP, va_K.moved (u := U) (U := U.calling g mk a) (Vm.Alike.refl U.vm) qK, qD⟩, va_recv hKc hPc (ci := 8) (q0 := 0) rfl rfl, fun U hU hW => ⟨rfl, by rw [hU], by rw [hU]; exact hPc, va_K.moved hW.alike hKc, hDc.weaken (fun _ _ _ _ => trivial)⟩⟩ rfl rfl hl.1 rfl (lv_room (Nat.le_of_ble_eq_true rfl)) dX8_putBehindHash_21 ⟨by decide, by decide⟩) hS (fun q _ h => hFc q h) hFc (fun u18 t H1 locs ht hvm hw hB hz1 hk1 hS => ?_)
    obtain ⟨u18_0, u18_1⟩ := u18
    have hw : iv u18_0 1 64 ∧ True := hw
    obtain ⟨iu18_0, -⟩ := hw
    obtain ⟨hP1, hK1, hD1⟩ := hB
    rw [ht] at hP1
    have hK1 := va_K.moved hvm.symm hK1
    obtain ⟨hP, hD⟩ := nv_join (wf := [(h0, .inr (8, [.ref h1, .ref h2, .int u18_0, .int x2, .int x3])), (h1, .inl (y0, 64, .inl u18_1))]) hP hD [0, 1] [] rfl rfl (by decide) (by decide) hk1 hFc hP1 hD1 rfl
    have hK := (hK.sub (tys' := []) [] rfl).app hK1
    generalize H1 = H at hP hS ⊢
    have hK : va_K (dC, dI) vwCl [(y0, .int)] s := hK
    refine lv_goto (tgt := 32) hx hb dX8_putBehindHash_24 (by decide) ?_
    exact j12 u18_0 u18_1 iu18_0 _ _ hK hP hD hS ls (lv_sub hl [] rfl)
set_option maxHeartbeats 100000000 in
set_option maxRecDepth 100000 in
theorem cX8_isMadeShort_1 (l : Launch) (dC : Nat → ClassId) (dI : Nat → Nat → Nat) (sz : Nat) (x0 : Int32) : Met l yX8_isMadeShort (Cond.code yX8_isMadeShort cX8_isMadeShort 1 (some .boolean) :: lw_G) ({ frames := 0, cells := 0, slots := 0, locals := 0 }) (va_Pc [.int x0] (fun U => U.heap.size = sz ∧ va_P (dC, dI) vwCl [] U.heap ∧ va_K (dC, dI) vwCl [] U ∧ va_D (fun _ => True) [])) (va_Qi (fun (r : Int32) (u : Unit) => iv r 0 1 ∧ True) (fun (u : Unit) (t : State) => va_P (dC, dI) vwCl [] t.heap ∧ va_K (dC, dI) vwCl [] t ∧ va_D (va_A [] sz) []) (va_A [] sz)) 0 0 (va_A [] sz) := by
  refine Met.ofW (cc := cX8_isMadeShort) (maxL := 1) (ret := (some .boolean)) (by decide) rfl ?_
  intro p e s m args below meth c s₁ B hml hv
  obtain ⟨rfl, hsz, hP, hK, hD0⟩ := hv
  have hx := B.exec
  have hb := B.bytes
  have hr := B.returns
  have hts0 := atoms_spec (ws := Cond.code yX8_isMadeShort cX8_isMadeShort 1 (some .boolean) :: lw_G) B.pre
  have hG : ∀ w ∈ lw_G, w.before _ s = true := fun w h => hts0 w (List.mem_cons_of_mem _ h)
  have hown : s.vm.findClass RX8 = some m.cls := findClass_of_methodNamed B.named
  have hlocks := B.notSynchronized
  subst hsz
  have hD := hD0.self (sz := s.heap.size)
  generalize hAe : va_A [] s.heap.size = A at hD ⊢
  have hA : ∀ q : Nat, s.heap.size ≤ q → A q := fun q h => by rw [← hAe]; exact Or.inr h
  have hS : va_S A s.heap s.heap [] := va_S.rf
  have hP : va_P (dC, dI) vwCl [] s.heap := hP
  have hl := lv_entry ([.int x0]) (n := 1) (Nat.le_of_ble_eq_true rfl)
  rw [lg_entry_eq]
  generalize (lg_sl ([.int x0]) ++ List.replicate (1 - (lg_sl ([.int x0])).length) Slot.unset).toArray = ls at hl ⊢
  have hl : lv_has ls 1 [(0, .int x0)] := hl
  generalize ([.int x0] : List Value).toArray = ar at hG ⊢
  refine wq (fun Q hQ => ?_)
  refine lv_iload_n hx hb dX8_isMadeShort_0 rfl (lv_at hl 0 rfl) ?_
  refine lv_iconst (v := 2) hx hb dX8_isMadeShort_1 (by decide) ?_
  refine jcut (a := ∀ (b7 : Int32) (ib7 : iv b7 0 1) (H : Heap) (locs : List Loc) (hK : va_K (dC, dI) vwCl [] s) (hP : va_P (dC, dI) vwCl [] H) (hD : va_D A []) (hS : va_S A s.heap H locs) (ls : Array Slot) (hl : lv_has ls 1 []), W p l e (headSpec (Cond.code yX8_isMadeShort cX8_isMadeShort 1 (some .boolean) :: lw_G) ({ frames := 0, cells := 0, slots := 0, locals := 0 })).room s m ar below meth c H locs 0 0 Q (F0 m 27 ls [.int b7])) ?_ (fun j8 => ?_)
  · skip
    intro b7 ib7 H locs hK hP hD hS ls hl
    rw [hQ]
    obtain ⟨hP9, hD9⟩ := nv_sub2 (wc := []) hP hD [] (by decide) rfl
    have hK9 := hK.sub (tys' := []) [] rfl
    exact W.zret (v := b7) hx hb hr (iv_z (iv_w ib7 (by decide) (by decide))).1 (fun t ht hW => ⟨⟨b7, (), rfl, ⟨iv_w ib7 (by decide) (by decide), trivial⟩, by rw [ht]; exact hP9, va_K.moved hW.alike hK9, hD9⟩, hS.F ht⟩) hS.2.2 dX8_isMadeShort_27
  refine lv_icmp_le (tgt := 22) hx hb dX8_isMadeShort_2 (by decide) (fun c1 => ?_) (fun c1 => ?_)
  · skip
    have j9 : iv x0 (-2147483648) 2 := iv_leL (iv_any x0) (by decide : iv 2 2 2) c1 (by decide)
    refine lv_iconst (v := 1) hx hb dX8_isMadeShort_22 (by decide) ?_
    refine lv_goto (tgt := 27) hx hb dX8_isMadeShort_23 (by decide) ?_
    exact j8 1 (iv_w (by decide : iv 1 1 1) (by decide) (by decide)) _ _ hK hP hD hS ls (lv_sub hl [] rfl)
  · skip
    have j10 : iv x0 3 2147483647 := iv_nleL (iv_any x0) (by decide : iv 2 2 2) c1 (by decide)
    refine lv_iload_n hx hb dX8_isMadeShort_5 rfl (lv_at hl 0 rfl) ?_
    refine lv_iconst (v := 4) hx hb dX8_isMadeShort_6 (by decide) ?_
    refine lv_icmp_eq (tgt := 22) hx hb dX8_isMadeShort_7 (by decide) (fun c11 => ?_) (fun c11 => ?_)
    · skip
      subst c11
      refine lv_iconst (v := 1) hx hb dX8_isMadeShort_22 (by decide) ?_
      refine lv_goto (tgt := 27) hx hb dX8_isMadeShort_23 (by decide) ?_
      exact j8 1 (iv_w (by decide : iv 1 1 1) (by decide) (by decide)) _ _ hK hP hD hS ls (lv_sub hl [] rfl)
    · skip
      refine lv_iload_n hx hb dX8_isMadeShort_10 rfl (lv_at hl 0 rfl) ?_
      refine lv_bipush (v := 8) hx hb dX8_isMadeShort_11 (by decide) ?_
      refine lv_icmp_eq (tgt := 22) hx hb dX8_isMadeShort_13 (by decide) (fun c12 => ?_) (fun c12 => ?_)
      · skip
        subst c12
        refine lv_iconst (v := 1) hx hb dX8_isMadeShort_22 (by decide) ?_
        refine lv_goto (tgt := 27) hx hb dX8_isMadeShort_23 (by decide) ?_
        exact j8 1 (iv_w (by decide : iv 1 1 1) (by decide) (by decide)) _ _ hK hP hD hS ls (lv_sub hl [] rfl)
      · skip
        refine lv_iload_n hx hb dX8_isMadeShort_16 rfl (lv_at hl 0 rfl) ?_
        refine lv_ldc hx hb hown (hG _ wd_1206) dX8_isMadeShort_17 ?_
        refine lv_icmp_ne (tgt := 26) hx hb dX8_isMadeShort_19 (by decide) (fun c13 => ?_) (fun c13 => ?_)
        · skip
          refine lv_iconst (v := 0) hx hb dX8_isMadeShort_26 (by decide) ?_
          exact j8 0 (iv_w (by decide : iv 0 0 0) (by decide) (by decide)) _ _ hK hP hD hS ls (lv_sub hl [] rfl)
        · skip
          subst c13
          refine lv_iconst (v := 1) hx hb dX8_isMadeShort_22 (by decide) ?_
          refine lv_goto (tgt := 27) hx hb dX8_isMadeShort_23 (by decide) ?_
          exact j8 1 (iv_w (by decide : iv 1 1 1) (by decide) (by decide)) _ _ hK hP hD hS ls (lv_sub hl [] rfl)
set_option maxHeartbeats 100000000 in
set_option maxRecDepth 100000 in
theorem cX8_tellNextNumber_1 (l : Launch) (dC : Nat → ClassId) (dI : Nat → Nat → Nat) (h0 h1 h2 h3 h4 h5 h6 h7 h8 : Nat) (y0 y1 y2 y3 : ClassId) (sz : Nat) (x0 x1 x2 x3 x4 x5 x6 x7 x8 x9 x10 x11 x12 x13 x14 x15 x16 x17 x18 : Int32) (f0 f1 f2 f3 : Nat → Int32) (ix0 : iv x0 0 1) (ix1 : iv x1 0 64) (ix7 : iv x7 0 1) : Met l yX8_tellNextNumber (Cond.code yX8_tellNextNumber cX8_tellNextNumber 3 (some .boolean) :: lw_G) ({ frames := 3, cells := 0, slots := 0, locals := 65 }) (va_Pc [.ref h0, .int x0] (fun U => U.heap.size = sz ∧ va_P (dC, dI) vwCl [(h0, .inr (8, [.ref h1, .ref h2, .int x1, .int x2, .int x3])), (h2, .inr (1, [.ref h3, .ref h4, .ref h5, .ref h6])), (h3, .inl (y0, 32768, .inl f0)), (h6, .inr (9, [.ref h7, .ref h8, .int x4, .int x5, .int x6, .int x7])), (h8, .inl (y1, 3, .inl f1)), (h7, .inl (y2, 3, .inl f2)), (h5, .inr (5, [.int x8, .int x9, .int x10, .int x11, .int x12, .int x13])), (h4, .inr (7, [.int x14, .int x15, .int x16, .int x17, .int x18])), (h1, .inl (y3, 64, .inl f3))] U.heap ∧ va_K (dC, dI) vwCl [(y0, .int), (y1, .int), (y2, .int), (y3, .int)] U ∧ va_D (fun _ => True) [(h0, .inr (8, [.ref h1, .ref h2, .int x1, .int x2, .int x3])), (h2, .inr (1, [.ref h3, .ref h4, .ref h5, .ref h6])), (h3, .inl (y0, 32768, .inl f0)), (h6, .inr (9, [.ref h7, .ref h8, .int x4, .int x5, .int x6, .int x7])), (h8, .inl (y1, 3, .inl f1)), (h7, .inl (y2, 3, .inl f2)), (h5, .inr (5, [.int x8, .int x9, .int x10, .int x11, .int x12, .int x13])), (h4, .inr (7, [.int x14, .int x15, .int x16, .int x17, .int x18])), (h1, .inl (y3, 64, .inl f3))])) (va_Qi (fun (r : Int32) (u : Int32 × Int32 × (Nat → Int32)) => iv r 0 1 ∧ iv u.1 0 64 ∧ iv u.2.1 (-2147483646) 2147483647 ∧ True) (fun (u : Int32 × Int32 × (Nat → Int32)) (t : State) => va_P (dC, dI) vwCl [(h0, .inr (8, [.ref h1, .ref h2, .int u.1, .int x2, .int u.2.1])), (h2, .inr (1, [.ref h3, .ref h4, .ref h5, .ref h6])), (h3, .inl (y0, 32768, .inl f0)), (h6, .inr (9, [.ref h7, .ref h8, .int x4, .int x5, .int x6, .int x7])), (h8, .inl (y1, 3, .inl f1)), (h7, .inl (y2, 3, .inl f2)), (h5, .inr (5, [.int x8, .int x9, .int x10, .int x11, .int x12, .int x13])), (h4, .inr (7, [.int x14, .int x15, .int x16, .int x17, .int x18])), (h1, .inl (y3, 64, .inl u.2.2))] t.heap ∧ va_K (dC, dI) vwCl [(y0, .int), (y1, .int), (y2, .int), (y3, .int)] t ∧ va_D (va_A [(h0, .inr (8, [.ref h1, .ref h2, .int x1, .int x2, .int x3])), (h2, .inr (1, [.ref h3, .ref h4, .ref h5, .ref h6])), (h3, .inl (y0, 32768, .inl f0)), (h6, .inr (9, [.ref h7, .ref h8, .int x4, .int x5, .int x6, .int x7])), (h8, .inl (y1, 3, .inl f1)), (h7, .inl (y2, 3, .inl f2)), (h5, .inr (5, [.int x8, .int x9, .int x10, .int x11, .int x12, .int x13])), (h4, .inr (7, [.int x14, .int x15, .int x16, .int x17, .int x18])), (h1, .inl (y3, 64, .inl f3))] sz) [(h0, .inr (8, [.ref h1, .ref h2, .int u.1, .int x2, .int u.2.1])), (h2, .inr (1, [.ref h3, .ref h4, .ref h5, .ref h6])), (h3, .inl (y0, 32768, .inl f0)), (h6, .inr (9, [.ref h7, .ref h8, .int x4, .int x5, .int x6, .int x7])), (h8, .inl (y1, 3, .inl f1)), (h7, .inl (y2, 3, .inl f2)), (h5, .inr (5, [.int x8, .int x9, .int x10, .int x11, .int x12, .int x13])), (h4, .inr (7, [.int x14, .int x15, .int x16, .int x17, .int x18])), (h1, .inl (y3, 64, .inl u.2.2))]) (va_A [(h0, .inr (8, [.ref h1, .ref h2, .int x1, .int x2, .int x3])), (h2, .inr (1, [.ref h3, .ref h4, .ref h5, .ref h6])), (h3, .inl (y0, 32768, .inl f0)), (h6, .inr (9, [.ref h7, .ref h8, .int x4, .int x5, .int x6, .int x7])), (h8, .inl (y1, 3, .inl f1)), (h7, .inl (y2, 3, .inl f2)), (h5, .inr (5, [.int x8, .int x9, .int x10, .int x11, .int x12, .int x13])), (h4, .inr (7, [.int x14, .int x15, .int x16, .int x17, .int x18])), (h1, .inl (y3, 64, .inl f3))] sz)) 0 0 (va_A [(h0, .inr (8, [.ref h1, .ref h2, .int x1, .int x2, .int x3])), (h2, .inr (1, [.ref h3, .ref h4, .ref h5, .ref h6])), (h3, .inl (y0, 32768, .inl f0)), (h6, .inr (9, [.ref h7, .ref h8, .int x4, .int x5, .int x6, .int x7])), (h8, .inl (y1, 3, .inl f1)), (h7, .inl (y2, 3, .inl f2)), (h5, .inr (5, [.int x8, .int x9, .int x10, .int x11, .int x12, .int x13])), (h4, .inr (7, [.int x14, .int x15, .int x16, .int x17, .int x18])), (h1, .inl (y3, 64, .inl f3))] sz) := by
  refine Met.ofW (cc := cX8_tellNextNumber) (maxL := 3) (ret := (some .boolean)) (by decide) rfl ?_
  intro p e s m args below meth c s₁ B hml hv
  obtain ⟨rfl, hsz, hP, hK, hD0⟩ := hv
  have hx := B.exec
  have hb := B.bytes
  have hr := B.returns
  have hts0 := atoms_spec (ws := Cond.code yX8_tellNextNumber cX8_tellNextNumber 3 (some .boolean) :: lw_G) B.pre
  have hG : ∀ w ∈ lw_G, w.before _ s = true := fun w h => hts0 w (List.mem_cons_of_mem _ h)
  have hown : s.vm.findClass RX8 = some m.cls := findClass_of_methodNamed B.named
  have hlocks := B.notSynchronized
  subst hsz
  have hD := hD0.self (sz := s.heap.size)
  generalize hAe : va_A [(h0, .inr (8, [.ref h1, .ref h2, .int x1, .int x2, .int x3])), (h2, .inr (1, [.ref h3, .ref h4, .ref h5, .ref h6])), (h3, .inl (y0, 32768, .inl f0)), (h6, .inr (9, [.ref h7, .ref h8, .int x4, .int x5, .int x6, .int x7])), (h8, .inl (y1, 3, .inl f1)), (h7, .inl (y2, 3, .inl f2)), (h5, .inr (5, [.int x8, .int x9, .int x10, .int x11, .int x12, .int x13])), (h4, .inr (7, [.int x14, .int x15, .int x16, .int x17, .int x18])), (h1, .inl (y3, 64, .inl f3))] s.heap.size = A at hD ⊢
  have hA : ∀ q : Nat, s.heap.size ≤ q → A q := fun q h => by rw [← hAe]; exact Or.inr h
  have hS : va_S A s.heap s.heap [] := va_S.rf
  have hP : va_P (dC, dI) vwCl [(h0, .inr (8, [.ref h1, .ref h2, .int x1, .int x2, .int x3])), (h2, .inr (1, [.ref h3, .ref h4, .ref h5, .ref h6])), (h3, .inl (y0, 32768, .inl f0)), (h6, .inr (9, [.ref h7, .ref h8, .int x4, .int x5, .int x6, .int x7])), (h8, .inl (y1, 3, .inl f1)), (h7, .inl (y2, 3, .inl f2)), (h5, .inr (5, [.int x8, .int x9, .int x10, .int x11, .int x12, .int x13])), (h4, .inr (7, [.int x14, .int x15, .int x16, .int x17, .int x18])), (h1, .inl (y3, 64, .inl f3))] s.heap := hP
  have hl := lv_entry ([.ref h0, .int x0]) (n := 3) (Nat.le_of_ble_eq_true rfl)
  rw [lg_entry_eq]
  generalize (lg_sl ([.ref h0, .int x0]) ++ List.replicate (3 - (lg_sl ([.ref h0, .int x0])).length) Slot.unset).toArray = ls at hl ⊢
  have hl : lv_has ls 3 [(0, .ref h0), (1, .int x0)] := hl
  generalize ([.ref h0, .int x0] : List Value).toArray = ar at hG ⊢
  refine wq (fun Q hQ => ?_)
  refine lv_aload_n hx hb dX8_tellNextNumber_0 rfl (lv_at hl 0 rfl) ?_
  refine va_get (D := (dC, dI)) (ci := 8) (v := .int x3) (C := RX8) (T := TX8) (N := 5) hx hb hG inGX8 hown hK hP 0 rfl rfl 4 (by decide) (hG _ wd_383) (fun _ h9 => h9) rfl dX8_tellNextNumber_1 ?_
  refine lv_ldc hx hb hown (hG _ wd_1221) dX8_tellNextNumber_4 ?_
  refine lv_icmp_lt (tgt := 11) hx hb dX8_tellNextNumber_6 (by decide) (fun c1 => ?_) (fun c1 => ?_)
  · skip
    have j2 : iv x3 (-2147483648) 65535 := iv_ltL (iv_any x3) (by decide : iv 65536 65536 65536) c1 (by decide)
    refine lv_aload_n hx hb dX8_tellNextNumber_11 rfl (lv_at hl 0 rfl) ?_
    refine va_get (D := (dC, dI)) (ci := 8) (v := .ref h2) (C := RX8) (T := TX8) (N := 5) hx hb hG inGX8 hown hK hP 0 rfl rfl 1 (by decide) (hG _ wd_380) (fun _ h9 => h9) rfl dX8_tellNextNumber_12 ?_
    refine lv_aload_n hx hb dX8_tellNextNumber_15 rfl (lv_at hl 0 rfl) ?_
    refine va_get (D := (dC, dI)) (ci := 8) (v := .int x3) (C := RX8) (T := TX8) (N := 5) hx hb hG inGX8 hown hK hP 0 rfl rfl 4 (by decide) (hG _ wd_383) (fun _ h9 => h9) rfl dX8_tellNextNumber_16 ?_
    obtain ⟨hPc, hDc, hFc⟩ := nv_sub3 (wc := [(h2, .inr (1, [.ref h3, .ref h4, .ref h5, .ref h6])), (h3, .inl (y0, 32768, .inl f0)), (h6, .inr (9, [.ref h7, .ref h8, .int x4, .int x5, .int x6, .int x7])), (h8, .inl (y1, 3, .inl f1)), (h7, .inl (y2, 3, .inl f2)), (h5, .inr (5, [.int x8, .int x9, .int x10, .int x11, .int x12, .int x13])), (h4, .inr (7, [.int x14, .int x15, .int x16, .int x17, .int x18]))]) hP hD hS hA [1, 2, 3, 4, 5, 6, 7] (by decide) rfl
    have hKc := hK.sub (tys' := [(y0, .int), (y1, .int), (y2, .int)]) [0, 1, 2] rfl
    refine va_calli (va_runV (As := [.int x3]) (rest := []) ⟨hx, hb, hml, hown, hG⟩ (cX1_lookWord_1 l dC dI h2 h3 h4 h5 h6 h7 h8 y0 y1 y2 s.heap.size x3 x4 x5 x6 x7 x8 x9 x10 x11 x12 x13 x14 x15 x16 x17 x18 f0 f1 f2 ix7) (cwV 1 hG (gV wd_1183 wd_822 wd_823 wd_2 wd_824) rfl rfl rfl (by decide +kernel) ⟨Nat.le_of_ble_eq_true rfl, Nat.le_of_ble_eq_true rfl⟩) ⟨fun a U g mk q => by obtain ⟨q0, q1, qP, qK, qD⟩ := q; exact ⟨q0, q1, qP, va_K.moved (u := U) (U := U.calling g mk a) (Vm.Alike.refl U.vm) qK, qD⟩, va_recv hKc hPc (ci := 1) (q0 := 0) rfl rfl, fun U hU hW => ⟨rfl, by rw [hU], by rw [hU]; exact hPc, va_K.moved hW.alike hKc, hDc.weaken (fun _ _ _ _ => trivial)⟩⟩ rfl rfl hl.1 rfl (lv_room (Nat.le_of_ble_eq_true rfl)) dX8_tellNextNumber_19 ⟨by decide, by decide⟩) hS (fun q _ h => hFc q h) hFc (fun r3 u4 t H1 locs ht hvm hw hB hz1 hk1 hS => ?_)
    obtain ⟨hP1, hK1, hD1⟩ := hB
    rw [ht] at hP1
    have hK1 := va_K.moved hvm.symm hK1
    obtain ⟨hP, hD⟩ := nv_join (wf := [(h0, .inr (8, [.ref h1, .ref h2, .int x1, .int x2, .int x3])), (h1, .inl (y3, 64, .inl f3)), (h2, .inr (1, [.ref h3, .ref h4, .ref h5, .ref h6])), (h3, .inl (y0, 32768, .inl f0)), (h6, .inr (9, [.ref h7, .ref h8, .int x4, .int x5, .int x6, .int x7])), (h8, .inl (y1, 3, .inl f1)), (h7, .inl (y2, 3, .inl f2)), (h5, .inr (5, [.int x8, .int x9, .int x10, .int x11, .int x12, .int x13])), (h4, .inr (7, [.int x14, .int x15, .int x16, .int x17, .int x18]))]) hP hD [1, 2, 3, 4, 5, 6, 7] [0, 8] rfl rfl (by decide) (by decide) hk1 hFc hP1 hD1 rfl
    have hK := (hK.sub (tys' := [(y3, .int)]) [3] rfl).app hK1
    generalize H1 = H at hP hS ⊢
    have hK : va_K (dC, dI) vwCl [(y3, .int), (y0, .int), (y1, .int), (y2, .int)] s := hK
    refine lv_istore_n (lv' := [(2, .int r3), (0, .ref h0), (1, .int x0)]) hx hb dX8_tellNextNumber_22 rfl hl (by decide) rfl (fun ls hl => ?_)
    refine lv_aload_n hx hb dX8_tellNextNumber_23 rfl (lv_at hl 1 rfl) ?_
    refine lv_dup hx hb dX8_tellNextNumber_24 rfl ?_
    refine va_get (D := (dC, dI)) (ci := 8) (v := .int x3) (C := RX8) (T := TX8) (N := 5) hx hb hG inGX8 hown hK hP 0 rfl rfl 4 (by decide) (hG _ wd_383) (fun _ h9 => h9) rfl dX8_tellNextNumber_25 ?_
    refine lv_iconst (v := 2) hx hb dX8_tellNextNumber_28 (by decide) ?_
    refine lv_iadd hx hb dX8_tellNextNumber_29 ?_
    refine lv_topi (fun v5 ev5 => ?_)
    have iv5 : iv v5 (-2147483646) 65537 := iv_eq ev5 (iv_add j2 (by decide : iv 2 2 2) (by decide) (by decide))
    have tv5 : v5.toInt = x3.toInt + 2 := iv_addT ev5 j2 (by decide) (by decide) (by decide)
    refine va_put (D := (dC, dI)) (ci := 8) (v := .int v5) (ty := .int) (C := RX8) (T := TX8) (N := 5) hx hb hG inGX8 tyX8 tyX8_ok nmX8 hown hK hP hD hS 0 rfl rfl 4 (by decide) (hG _ wd_383) (fun _ h9 => h9) rfl (by decide +kernel) rfl rfl (Nat.le_of_ble_eq_true rfl) dX8_tellNextNumber_30 (fun H locs hP hD hS => ?_)
    obtain ⟨hP, hD⟩ := nv_eq (ws' := [(h0, .inr (8, [.ref h1, .ref h2, .int x1, .int x2, .int v5])), (h1, .inl (y3, 64, .inl f3)), (h2, .inr (1, [.ref h3, .ref h4, .ref h5, .ref h6])), (h3, .inl (y0, 32768, .inl f0)), (h6, .inr (9, [.ref h7, .ref h8, .int x4, .int x5, .int x6, .int x7])), (h8, .inl (y1, 3, .inl f1)), (h7, .inl (y2, 3, .inl f2)), (h5, .inr (5, [.int x8, .int x9, .int x10, .int x11, .int x12, .int x13])), (h4, .inr (7, [.int x14, .int x15, .int x16, .int x17, .int x18]))]) hP hD rfl
    refine lv_iload_n hx hb dX8_tellNextNumber_33 rfl (lv_at hl 2 rfl) ?_
    refine lv_if_eq (tgt := 46) hx hb dX8_tellNextNumber_34 (by decide) (fun c6 => ?_) (fun c6 => ?_)
    · skip
      subst c6
      refine lv_aload_n hx hb dX8_tellNextNumber_46 rfl (lv_at hl 1 rfl) ?_
      refine lv_iload_n hx hb dX8_tellNextNumber_47 rfl (lv_at hl 0 rfl) ?_
      obtain ⟨hPc, hDc, hFc⟩ := nv_sub3 (wc := [(h0, .inr (8, [.ref h1, .ref h2, .int x1, .int x2, .int v5])), (h1, .inl (y3, 64, .inl f3))]) hP hD hS hA [0, 1] (by decide) rfl
      have hKc := hK.sub (tys' := [(y3, .int)]) [0] rfl
      refine va_callv (va_runV (As := [.int r3]) (rest := []) ⟨hx, hb, hml, hown, hG⟩ (cX8_putBehindHash_1 l dC dI h0 h1 h2 y3 H.size r3 x1 x2 v5 f3 ix1) (cwV 1 hG (gV wd_1202 wd_1204 wp_59 wd_16 wd_1205) rfl rfl rfl (by decide +kernel) ⟨Nat.le_of_ble_eq_true rfl, Nat.le_of_ble_eq_true rfl⟩) ⟨fun a U g mk q => by obtain ⟨q0, q1, qP, qK, qD⟩ := q; exact ⟨q0, q1, qP, va_K.moved (u := U) (U := U.calling g mk a) (Vm.Alike.refl U.vm) qK, qD⟩, va_recv hKc hPc (ci := 8) (q0 := 0) rfl rfl, fun U hU hW => ⟨rfl, by rw [hU], by rw [hU]; exact hPc, va_K.moved hW.alike hKc, hDc.weaken (fun _ _ _ _ => trivial)⟩⟩ rfl rfl hl.1 rfl (lv_room (Nat.le_of_ble_eq_true rfl)) dX8_tellNextNumber_48 ⟨by decide, by decide⟩) hS (fun q _ h => hFc q h) hFc (fun u8 t H1 locs ht hvm hw hB hz1 hk1 hS => ?_)
      obtain ⟨u8_0, u8_1⟩ := u8
      have hw : iv u8_0 1 64 ∧ True := hw
      obtain ⟨iu8_0, -⟩ := hw
      obtain ⟨hP1, hK1, hD1⟩ := hB
      rw [ht] at hP1
      have hK1 := va_K.moved hvm.symm hK1
      obtain ⟨hP, hD⟩ := nv_join (wf := [(h2, .inr (1, [.ref h3, .ref h4, .ref h5, .ref h6])), (h3, .inl (y0, 32768, .inl f0)), (h6, .inr (9, [.ref h7, .ref h8, .int x4, .int x5, .int x6, .int x7])), (h8, .inl (y1, 3, .inl f1)), (h7, .inl (y2, 3, .inl f2)), (h5, .inr (5, [.int x8, .int x9, .int x10, .int x11, .int x12, .int x13])), (h4, .inr (7, [.int x14, .int x15, .int x16, .int x17, .int x18])), (h0, .inr (8, [.ref h1, .ref h2, .int u8_0, .int x2, .int v5])), (h1, .inl (y3, 64, .inl u8_1))]) hP hD [0, 1] [2, 3, 4, 5, 6, 7, 8] rfl rfl (by decide) (by decide) hk1 hFc hP1 hD1 rfl
      have hK := (hK.sub (tys' := [(y0, .int), (y1, .int), (y2, .int)]) [1, 2, 3] rfl).app hK1
      generalize H1 = H at hP hS ⊢
      have hK : va_K (dC, dI) vwCl [(y0, .int), (y1, .int), (y2, .int), (y3, .int)] s := hK
      refine lv_iconst (v := 1) hx hb dX8_tellNextNumber_51 (by decide) ?_
      rw [hQ]
      obtain ⟨hP9, hD9⟩ := nv_sub2 (wc := [(h0, .inr (8, [.ref h1, .ref h2, .int u8_0, .int x2, .int v5])), (h2, .inr (1, [.ref h3, .ref h4, .ref h5, .ref h6])), (h3, .inl (y0, 32768, .inl f0)), (h6, .inr (9, [.ref h7, .ref h8, .int x4, .int x5, .int x6, .int x7])), (h8, .inl (y1, 3, .inl f1)), (h7, .inl (y2, 3, .inl f2)), (h5, .inr (5, [.int x8, .int x9, .int x10, .int x11, .int x12, .int x13])), (h4, .inr (7, [.int x14, .int x15, .int x16, .int x17, .int x18])), (h1, .inl (y3, 64, .inl u8_1))]) hP hD [7, 0, 1, 2, 3, 4, 5, 6, 8] (by decide) rfl
      have hK9 := hK.sub (tys' := [(y0, .int), (y1, .int), (y2, .int), (y3, .int)]) [0, 1, 2, 3] rfl
      exact W.zret (v := 1) hx hb hr rfl (fun t ht hW => ⟨⟨1, (u8_0, v5, u8_1), rfl, ⟨iv_w (by decide : iv 1 1 1) (by decide) (by decide), iv_w iu8_0 (by decide) (by decide), iv_w iv5 (by decide) (by decide), trivial⟩, by rw [ht]; exact hP9, va_K.moved hW.alike hK9, hD9⟩, hS.F ht⟩) hS.2.2 dX8_tellNextNumber_52
    · skip
      have j9 : iv x0 1 1 := iv_neLo ix0 (by decide : iv 0 0 0) c6 (by decide)
      refine lv_iload_n hx hb dX8_tellNextNumber_37 rfl (lv_at hl 0 rfl) ?_
      obtain ⟨hPc, hDc, hFc⟩ := nv_sub3 (wc := []) hP hD hS hA [] (by decide) rfl
      have hKc := hK.sub (tys' := []) [] rfl
      refine va_calli (va_runS (As := [.int r3]) (rest := []) ⟨hx, hb, hml, hown, hG⟩ (cX8_isMadeShort_1 l dC dI H.size r3) (va_cwS 1 hG (gS wd_1226 wd_1227 wd_16 wd_1228) rfl rfl rfl (by decide +kernel) ⟨Nat.le_of_ble_eq_true rfl, Nat.le_of_ble_eq_true rfl⟩) ⟨fun a U g mk q => by obtain ⟨q0, q1, qP, qK, qD⟩ := q; exact ⟨q0, q1, qP, va_K.moved (u := U) (U := U.calling g mk a) (Vm.Alike.refl U.vm) qK, qD⟩, fun U hU hW => ⟨rfl, by rw [hU], by rw [hU]; exact hPc, va_K.moved hW.alike hKc, hDc.weaken (fun _ _ _ _ => trivial)⟩⟩ rfl rfl hl.1 rfl (lv_room (Nat.le_of_ble_eq_true rfl)) dX8_tellNextNumber_38 ⟨by decide, by decide⟩) hS (fun q _ h => hFc q h) hFc (fun r10 u11 t H1 locs ht hvm hw hB hz1 hk1 hS => ?_)
      have hw : iv r10 0 1 ∧ True := hw
      obtain ⟨ir10, -⟩ := hw
      obtain ⟨hP1, hK1, hD1⟩ := hB
      rw [ht] at hP1
      have hK1 := va_K.moved hvm.symm hK1
      obtain ⟨hP, hD⟩ := nv_join (wf := [(h0, .inr (8, [.ref h1, .ref h2, .int x1, .int x2, .int v5])), (h1, .inl (y3, 64, .inl f3)), (h2, .inr (1, [.ref h3, .ref h4, .ref h5, .ref h6])), (h3, .inl (y0, 32768, .inl f0)), (h6, .inr (9, [.ref h7, .ref h8, .int x4, .int x5, .int x6, .int x7])), (h8, .inl (y1, 3, .inl f1)), (h7, .inl (y2, 3, .inl f2)), (h5, .inr (5, [.int x8, .int x9, .int x10, .int x11, .int x12, .int x13])), (h4, .inr (7, [.int x14, .int x15, .int x16, .int x17, .int x18]))]) hP hD [] [0, 1, 2, 3, 4, 5, 6, 7, 8] rfl rfl (by decide) (by decide) hk1 hFc hP1 hD1 rfl
      have hK := (hK.sub (tys' := [(y3, .int), (y0, .int), (y1, .int), (y2, .int)]) [0, 1, 2, 3] rfl).app hK1
      generalize H1 = H at hP hS ⊢
      have hK : va_K (dC, dI) vwCl [(y3, .int), (y0, .int), (y1, .int), (y2, .int)] s := hK
      refine lv_if_eq (tgt := 46) hx hb dX8_tellNextNumber_41 (by decide) (fun c12 => ?_) (fun c12 => ?_)
      · skip
        subst c12
        refine lv_aload_n hx hb dX8_tellNextNumber_46 rfl (lv_at hl 1 rfl) ?_
        refine lv_iload_n hx hb dX8_tellNextNumber_47 rfl (lv_at hl 0 rfl) ?_
        obtain ⟨hPc, hDc, hFc⟩ := nv_sub3 (wc := [(h0, .inr (8, [.ref h1, .ref h2, .int x1, .int x2, .int v5])), (h1, .inl (y3, 64, .inl f3))]) hP hD hS hA [0, 1] (by decide) rfl
        have hKc := hK.sub (tys' := [(y3, .int)]) [0] rfl
        refine va_callv (va_runV (As := [.int r3]) (rest := []) ⟨hx, hb, hml, hown, hG⟩ (cX8_putBehindHash_1 l dC dI h0 h1 h2 y3 H.size r3 x1 x2 v5 f3 ix1) (cwV 1 hG (gV wd_1202 wd_1204 wp_59 wd_16 wd_1205) rfl rfl rfl (by decide +kernel) ⟨Nat.le_of_ble_eq_true rfl, Nat.le_of_ble_eq_true rfl⟩) ⟨fun a U g mk q => by obtain ⟨q0, q1, qP, qK, qD⟩ := q; exact ⟨q0, q1, qP, va_K.moved (u := U) (U := U.calling g mk a) (Vm.Alike.refl U.vm) qK, qD⟩, va_recv hKc hPc (ci := 8) (q0 := 0) rfl rfl, fun U hU hW => ⟨rfl, by rw [hU], by rw [hU]; exact hPc, va_K.moved hW.alike hKc, hDc.weaken (fun _ _ _ _ => trivial)⟩⟩ rfl rfl hl.1 rfl (lv_room (Nat.le_of_ble_eq_true rfl)) dX8_tellNextNumber_48 ⟨by decide, by decide⟩) hS (fun q _ h => hFc q h) hFc (fun u14 t H1 locs ht hvm hw hB hz1 hk1 hS => ?_)
        obtain ⟨u14_0, u14_1⟩ := u14
        have hw : iv u14_0 1 64 ∧ True := hw
        obtain ⟨iu14_0, -⟩ := hw
        obtain ⟨hP1, hK1, hD1⟩ := hB
        rw [ht] at hP1
        have hK1 := va_K.moved hvm.symm hK1
        obtain ⟨hP, hD⟩ := nv_join (wf := [(h2, .inr (1, [.ref h3, .ref h4, .ref h5, .ref h6])), (h3, .inl (y0, 32768, .inl f0)), (h6, .inr (9, [.ref h7, .ref h8, .int x4, .int x5, .int x6, .int x7])), (h8, .inl (y1, 3, .inl f1)), (h7, .inl (y2, 3, .inl f2)), (h5, .inr (5, [.int x8, .int x9, .int x10, .int x11, .int x12, .int x13])), (h4, .inr (7, [.int x14, .int x15, .int x16, .int x17, .int x18])), (h0, .inr (8, [.ref h1, .ref h2, .int u14_0, .int x2, .int v5])), (h1, .inl (y3, 64, .inl u14_1))]) hP hD [0, 1] [2, 3, 4, 5, 6, 7, 8] rfl rfl (by decide) (by decide) hk1 hFc hP1 hD1 rfl
        have hK := (hK.sub (tys' := [(y0, .int), (y1, .int), (y2, .int)]) [1, 2, 3] rfl).app hK1
        generalize H1 = H at hP hS ⊢
        have hK : va_K (dC, dI) vwCl [(y0, .int), (y1, .int), (y2, .int), (y3, .int)] s := hK
        refine lv_iconst (v := 1) hx hb dX8_tellNextNumber_51 (by decide) ?_
        rw [hQ]
        obtain ⟨hP9, hD9⟩ := nv_sub2 (wc := [(h0, .inr (8, [.ref h1, .ref h2, .int u14_0, .int x2, .int v5])), (h2, .inr (1, [.ref h3, .ref h4, .ref h5, .ref h6])), (h3, .inl (y0, 32768, .inl f0)), (h6, .inr (9, [.ref h7, .ref h8, .int x4, .int x5, .int x6, .int x7])), (h8, .inl (y1, 3, .inl f1)), (h7, .inl (y2, 3, .inl f2)), (h5, .inr (5, [.int x8, .int x9, .int x10, .int x11, .int x12, .int x13])), (h4, .inr (7, [.int x14, .int x15, .int x16, .int x17, .int x18])), (h1, .inl (y3, 64, .inl u14_1))]) hP hD [7, 0, 1, 2, 3, 4, 5, 6, 8] (by decide) rfl
        have hK9 := hK.sub (tys' := [(y0, .int), (y1, .int), (y2, .int), (y3, .int)]) [0, 1, 2, 3] rfl
        exact W.zret (v := 1) hx hb hr rfl (fun t ht hW => ⟨⟨1, (u14_0, v5, u14_1), rfl, ⟨iv_w (by decide : iv 1 1 1) (by decide) (by decide), iv_w iu14_0 (by decide) (by decide), iv_w iv5 (by decide) (by decide), trivial⟩, by rw [ht]; exact hP9, va_K.moved hW.alike hK9, hD9⟩, hS.F ht⟩) hS.2.2 dX8_tellNextNumber_52
      · skip
        have j15 : iv r10 1 1 := iv_neLo ir10 (by decide : iv 0 0 0) c12 (by decide)
        refine lv_iconst (v := 0) hx hb dX8_tellNextNumber_44 (by decide) ?_
        rw [hQ]
        obtain ⟨hP9, hD9⟩ := nv_sub2 (wc := [(h0, .inr (8, [.ref h1, .ref h2, .int x1, .int x2, .int v5])), (h2, .inr (1, [.ref h3, .ref h4, .ref h5, .ref h6])), (h3, .inl (y0, 32768, .inl f0)), (h6, .inr (9, [.ref h7, .ref h8, .int x4, .int x5, .int x6, .int x7])), (h8, .inl (y1, 3, .inl f1)), (h7, .inl (y2, 3, .inl f2)), (h5, .inr (5, [.int x8, .int x9, .int x10, .int x11, .int x12, .int x13])), (h4, .inr (7, [.int x14, .int x15, .int x16, .int x17, .int x18])), (h1, .inl (y3, 64, .inl f3))]) hP hD [0, 2, 3, 4, 5, 6, 7, 8, 1] (by decide) rfl
        have hK9 := hK.sub (tys' := [(y0, .int), (y1, .int), (y2, .int), (y3, .int)]) [1, 2, 3, 0] rfl
        exact W.zret (v := 0) hx hb hr rfl (fun t ht hW => ⟨⟨0, (x1, v5, f3), rfl, ⟨iv_w (by decide : iv 0 0 0) (by decide) (by decide), iv_w ix1 (by decide) (by decide), iv_w iv5 (by decide) (by decide), trivial⟩, by rw [ht]; exact hP9, va_K.moved hW.alike hK9, hD9⟩, hS.F ht⟩) hS.2.2 dX8_tellNextNumber_45
  · skip
    have j16 : iv x3 65536 2147483647 := iv_nltL (iv_any x3) (by decide : iv 65536 65536 65536) c1 (by decide)
    refine lv_iconst (v := 0) hx hb dX8_tellNextNumber_9 (by decide) ?_
    rw [hQ]
    obtain ⟨hP9, hD9⟩ := nv_sub2 (wc := [(h0, .inr (8, [.ref h1, .ref h2, .int x1, .int x2, .int x3])), (h2, .inr (1, [.ref h3, .ref h4, .ref h5, .ref h6])), (h3, .inl (y0, 32768, .inl f0)), (h6, .inr (9, [.ref h7, .ref h8, .int x4, .int x5, .int x6, .int x7])), (h8, .inl (y1, 3, .inl f1)), (h7, .inl (y2, 3, .inl f2)), (h5, .inr (5, [.int x8, .int x9, .int x10, .int x11, .int x12, .int x13])), (h4, .inr (7, [.int x14, .int x15, .int x16, .int x17, .int x18])), (h1, .inl (y3, 64, .inl f3))]) hP hD [0, 1, 2, 3, 4, 5, 6, 7, 8] (by decide) rfl
    have hK9 := hK.sub (tys' := [(y0, .int), (y1, .int), (y2, .int), (y3, .int)]) [0, 1, 2, 3] rfl
    exact W.zret (v := 0) hx hb hr rfl (fun t ht hW => ⟨⟨0, (x1, x3, f3), rfl, ⟨iv_w (by decide : iv 0 0 0) (by decide) (by decide), iv_w ix1 (by decide) (by decide), iv_w j16 (by decide) (by decide), trivial⟩, by rw [ht]; exact hP9, va_K.moved hW.alike hK9, hD9⟩, hS.F ht⟩) hS.2.2 dX8_tellNextNumber_10
set_option maxHeartbeats 100000000 in
set_option maxRecDepth 100000 in
theorem cX8_tellIndexed_1 (l : Launch) (dC : Nat → ClassId) (dI : Nat → Nat → Nat) (h0 h1 h2 h3 h4 h5 h6 h7 h8 : Nat) (y0 y1 y2 y3 : ClassId) (sz : Nat) (x0 x1 x2 x3 x4 x5 x6 x7 x8 x9 x10 x11 x12 x13 x14 x15 x16 x17 x18 : Int32) (f0 f1 f2 f3 : Nat → Int32) (ix1 : iv x1 0 64) (ix7 : iv x7 0 1) : Met l yX8_tellIndexed (Cond.code yX8_tellIndexed cX8_tellIndexed 3 (some .boolean) :: lw_G) ({ frames := 3, cells := 0, slots := 0, locals := 65 }) (va_Pc [.ref h0, .int x0] (fun U => U.heap.size = sz ∧ va_P (dC, dI) vwCl [(h0, .inr (8, [.ref h1, .ref h2, .int x1, .int x2, .int x3])), (h2, .inr (1, [.ref h3, .ref h4, .ref h5, .ref h6])), (h3, .inl (y0, 32768, .inl f0)), (h6, .inr (9, [.ref h7, .ref h8, .int x4, .int x5, .int x6, .int x7])), (h8, .inl (y1, 3, .inl f1)), (h7, .inl (y2, 3, .inl f2)), (h5, .inr (5, [.int x8, .int x9, .int x10, .int x11, .int x12, .int x13])), (h4, .inr (7, [.int x14, .int x15, .int x16, .int x17, .int x18])), (h1, .inl (y3, 64, .inl f3))] U.heap ∧ va_K (dC, dI) vwCl [(y0, .int), (y1, .int), (y2, .int), (y3, .int)] U ∧ va_D (fun _ => True) [(h0, .inr (8, [.ref h1, .ref h2, .int x1, .int x2, .int x3])), (h2, .inr (1, [.ref h3, .ref h4, .ref h5, .ref h6])), (h3, .inl (y0, 32768, .inl f0)), (h6, .inr (9, [.ref h7, .ref h8, .int x4, .int x5, .int x6, .int x7])), (h8, .inl (y1, 3, .inl f1)), (h7, .inl (y2, 3, .inl f2)), (h5, .inr (5, [.int x8, .int x9, .int x10, .int x11, .int x12, .int x13])), (h4, .inr (7, [.int x14, .int x15, .int x16, .int x17, .int x18])), (h1, .inl (y3, 64, .inl f3))])) (va_Qi (fun (r : Int32) (u : Int32 × Int32 × (Nat → Int32)) => iv r 0 1 ∧ iv u.1 0 64 ∧ True) (fun (u : Int32 × Int32 × (Nat → Int32)) (t : State) => va_P (dC, dI) vwCl [(h0, .inr (8, [.ref h1, .ref h2, .int u.1, .int x2, .int u.2.1])), (h2, .inr (1, [.ref h3, .ref h4, .ref h5, .ref h6])), (h3, .inl (y0, 32768, .inl f0)), (h6, .inr (9, [.ref h7, .ref h8, .int x4, .int x5, .int x6, .int x7])), (h8, .inl (y1, 3, .inl f1)), (h7, .inl (y2, 3, .inl f2)), (h5, .inr (5, [.int x8, .int x9, .int x10, .int x11, .int x12, .int x13])), (h4, .inr (7, [.int x14, .int x15, .int x16, .int x17, .int x18])), (h1, .inl (y3, 64, .inl u.2.2))] t.heap ∧ va_K (dC, dI) vwCl [(y0, .int), (y1, .int), (y2, .int), (y3, .int)] t ∧ va_D (va_A [(h0, .inr (8, [.ref h1, .ref h2, .int x1, .int x2, .int x3])), (h2, .inr (1, [.ref h3, .ref h4, .ref h5, .ref h6])), (h3, .inl (y0, 32768, .inl f0)), (h6, .inr (9, [.ref h7, .ref h8, .int x4, .int x5, .int x6, .int x7])), (h8, .inl (y1, 3, .inl f1)), (h7, .inl (y2, 3, .inl f2)), (h5, .inr (5, [.int x8, .int x9, .int x10, .int x11, .int x12, .int x13])), (h4, .inr (7, [.int x14, .int x15, .int x16, .int x17, .int x18])), (h1, .inl (y3, 64, .inl f3))] sz) [(h0, .inr (8, [.ref h1, .ref h2, .int u.1, .int x2, .int u.2.1])), (h2, .inr (1, [.ref h3, .ref h4, .ref h5, .ref h6])), (h3, .inl (y0, 32768, .inl f0)), (h6, .inr (9, [.ref h7, .ref h8, .int x4, .int x5, .int x6, .int x7])), (h8, .inl (y1, 3, .inl f1)), (h7, .inl (y2, 3, .inl f2)), (h5, .inr (5, [.int x8, .int x9, .int x10, .int x11, .int x12, .int x13])), (h4, .inr (7, [.int x14, .int x15, .int x16, .int x17, .int x18])), (h1, .inl (y3, 64, .inl u.2.2))]) (va_A [(h0, .inr (8, [.ref h1, .ref h2, .int x1, .int x2, .int x3])), (h2, .inr (1, [.ref h3, .ref h4, .ref h5, .ref h6])), (h3, .inl (y0, 32768, .inl f0)), (h6, .inr (9, [.ref h7, .ref h8, .int x4, .int x5, .int x6, .int x7])), (h8, .inl (y1, 3, .inl f1)), (h7, .inl (y2, 3, .inl f2)), (h5, .inr (5, [.int x8, .int x9, .int x10, .int x11, .int x12, .int x13])), (h4, .inr (7, [.int x14, .int x15, .int x16, .int x17, .int x18])), (h1, .inl (y3, 64, .inl f3))] sz)) 0 0 (va_A [(h0, .inr (8, [.ref h1, .ref h2, .int x1, .int x2, .int x3])), (h2, .inr (1, [.ref h3, .ref h4, .ref h5, .ref h6])), (h3, .inl (y0, 32768, .inl f0)), (h6, .inr (9, [.ref h7, .ref h8, .int x4, .int x5, .int x6, .int x7])), (h8, .inl (y1, 3, .inl f1)), (h7, .inl (y2, 3, .inl f2)), (h5, .inr (5, [.int x8, .int x9, .int x10, .int x11, .int x12, .int x13])), (h4, .inr (7, [.int x14, .int x15, .int x16, .int x17, .int x18])), (h1, .inl (y3, 64, .inl f3))] sz) := by
  refine Met.ofW (cc := cX8_tellIndexed) (maxL := 3) (ret := (some .boolean)) (by decide) rfl ?_
  intro p e s m args below meth c s₁ B hml hv
  obtain ⟨rfl, hsz, hP, hK, hD0⟩ := hv
  have hx := B.exec
  have hb := B.bytes
  have hr := B.returns
  have hts0 := atoms_spec (ws := Cond.code yX8_tellIndexed cX8_tellIndexed 3 (some .boolean) :: lw_G) B.pre
  have hG : ∀ w ∈ lw_G, w.before _ s = true := fun w h => hts0 w (List.mem_cons_of_mem _ h)
  have hown : s.vm.findClass RX8 = some m.cls := findClass_of_methodNamed B.named
  have hlocks := B.notSynchronized
  subst hsz
  have hD := hD0.self (sz := s.heap.size)
  generalize hAe : va_A [(h0, .inr (8, [.ref h1, .ref h2, .int x1, .int x2, .int x3])), (h2, .inr (1, [.ref h3, .ref h4, .ref h5, .ref h6])), (h3, .inl (y0, 32768, .inl f0)), (h6, .inr (9, [.ref h7, .ref h8, .int x4, .int x5, .int x6, .int x7])), (h8, .inl (y1, 3, .inl f1)), (h7, .inl (y2, 3, .inl f2)), (h5, .inr (5, [.int x8, .int x9, .int x10, .int x11, .int x12, .int x13])), (h4, .inr (7, [.int x14, .int x15, .int x16, .int x17, .int x18])), (h1, .inl (y3, 64, .inl f3))] s.heap.size = A at hD ⊢
  have hA : ∀ q : Nat, s.heap.size ≤ q → A q := fun q h => by rw [← hAe]; exact Or.inr h
  have hS : va_S A s.heap s.heap [] := va_S.rf
  have hP : va_P (dC, dI) vwCl [(h0, .inr (8, [.ref h1, .ref h2, .int x1, .int x2, .int x3])), (h2, .inr (1, [.ref h3, .ref h4, .ref h5, .ref h6])), (h3, .inl (y0, 32768, .inl f0)), (h6, .inr (9, [.ref h7, .ref h8, .int x4, .int x5, .int x6, .int x7])), (h8, .inl (y1, 3, .inl f1)), (h7, .inl (y2, 3, .inl f2)), (h5, .inr (5, [.int x8, .int x9, .int x10, .int x11, .int x12, .int x13])), (h4, .inr (7, [.int x14, .int x15, .int x16, .int x17, .int x18])), (h1, .inl (y3, 64, .inl f3))] s.heap := hP
  have hl := lv_entry ([.ref h0, .int x0]) (n := 3) (Nat.le_of_ble_eq_true rfl)
  rw [lg_entry_eq]
  generalize (lg_sl ([.ref h0, .int x0]) ++ List.replicate (3 - (lg_sl ([.ref h0, .int x0])).length) Slot.unset).toArray = ls at hl ⊢
  have hl : lv_has ls 3 [(0, .ref h0), (1, .int x0)] := hl
  generalize ([.ref h0, .int x0] : List Value).toArray = ar at hG ⊢
  refine wq (fun Q hQ => ?_)
  refine lv_aload_n hx hb dX8_tellIndexed_0 rfl (lv_at hl 0 rfl) ?_
  refine va_get (D := (dC, dI)) (ci := 8) (v := .int x3) (C := RX8) (T := TX8) (N := 5) hx hb hG inGX8 hown hK hP 0 rfl rfl 4 (by decide) (hG _ wd_383) (fun _ h9 => h9) rfl dX8_tellIndexed_1 ?_
  refine lv_ldc hx hb hown (hG _ wd_1221) dX8_tellIndexed_4 ?_
  refine lv_icmp_ge (tgt := 14) hx hb dX8_tellIndexed_6 (by decide) (fun c1 => ?_) (fun c1 => ?_)
  · skip
    have j2 : iv x3 65536 2147483647 := iv_leR (by decide : iv 65536 65536 65536) (iv_any x3) c1 (by decide)
    refine lv_iconst (v := 0) hx hb dX8_tellIndexed_14 (by decide) ?_
    rw [hQ]
    obtain ⟨hP9, hD9⟩ := nv_sub2 (wc := [(h0, .inr (8, [.ref h1, .ref h2, .int x1, .int x2, .int x3])), (h2, .inr (1, [.ref h3, .ref h4, .ref h5, .ref h6])), (h3, .inl (y0, 32768, .inl f0)), (h6, .inr (9, [.ref h7, .ref h8, .int x4, .int x5, .int x6, .int x7])), (h8, .inl (y1, 3, .inl f1)), (h7, .inl (y2, 3, .inl f2)), (h5, .inr (5, [.int x8, .int x9, .int x10, .int x11, .int x12, .int x13])), (h4, .inr (7, [.int x14, .int x15, .int x16, .int x17, .int x18])), (h1, .inl (y3, 64, .inl f3))]) hP hD [0, 1, 2, 3, 4, 5, 6, 7, 8] (by decide) rfl
    have hK9 := hK.sub (tys' := [(y0, .int), (y1, .int), (y2, .int), (y3, .int)]) [0, 1, 2, 3] rfl
    exact W.zret (v := 0) hx hb hr rfl (fun t ht hW => ⟨⟨0, (x1, x3, f3), rfl, ⟨iv_w (by decide : iv 0 0 0) (by decide) (by decide), iv_w ix1 (by decide) (by decide), trivial⟩, by rw [ht]; exact hP9, va_K.moved hW.alike hK9, hD9⟩, hS.F ht⟩) hS.2.2 dX8_tellIndexed_15
  · skip
    have j3 : iv x3 (-2147483648) 65535 := iv_nleR (by decide : iv 65536 65536 65536) (iv_any x3) c1 (by decide)
    refine lv_iload_n hx hb dX8_tellIndexed_9 rfl (lv_at hl 1 rfl) ?_
    refine lv_iconst (v := 3) hx hb dX8_tellIndexed_10 (by decide) ?_
    refine lv_icmp_ne (tgt := 16) hx hb dX8_tellIndexed_11 (by decide) (fun c4 => ?_) (fun c4 => ?_)
    · skip
      refine lv_aload_n hx hb dX8_tellIndexed_16 rfl (lv_at hl 0 rfl) ?_
      refine va_get (D := (dC, dI)) (ci := 8) (v := .ref h2) (C := RX8) (T := TX8) (N := 5) hx hb hG inGX8 hown hK hP 0 rfl rfl 1 (by decide) (hG _ wd_380) (fun _ h9 => h9) rfl dX8_tellIndexed_17 ?_
      refine lv_aload_n hx hb dX8_tellIndexed_20 rfl (lv_at hl 0 rfl) ?_
      refine va_get (D := (dC, dI)) (ci := 8) (v := .int x3) (C := RX8) (T := TX8) (N := 5) hx hb hG inGX8 hown hK hP 0 rfl rfl 4 (by decide) (hG _ wd_383) (fun _ h9 => h9) rfl dX8_tellIndexed_21 ?_
      obtain ⟨hPc, hDc, hFc⟩ := nv_sub3 (wc := [(h2, .inr (1, [.ref h3, .ref h4, .ref h5, .ref h6])), (h3, .inl (y0, 32768, .inl f0)), (h6, .inr (9, [.ref h7, .ref h8, .int x4, .int x5, .int x6, .int x7])), (h8, .inl (y1, 3, .inl f1)), (h7, .inl (y2, 3, .inl f2)), (h5, .inr (5, [.int x8, .int x9, .int x10, .int x11, .int x12, .int x13])), (h4, .inr (7, [.int x14, .int x15, .int x16, .int x17, .int x18]))]) hP hD hS hA [1, 2, 3, 4, 5, 6, 7] (by decide) rfl
      have hKc := hK.sub (tys' := [(y0, .int), (y1, .int), (y2, .int)]) [0, 1, 2] rfl
      refine va_calli (va_runV (As := [.int x3]) (rest := []) ⟨hx, hb, hml, hown, hG⟩ (cX1_lookWord_1 l dC dI h2 h3 h4 h5 h6 h7 h8 y0 y1 y2 s.heap.size x3 x4 x5 x6 x7 x8 x9 x10 x11 x12 x13 x14 x15 x16 x17 x18 f0 f1 f2 ix7) (cwV 1 hG (gV wd_1183 wd_822 wd_823 wd_2 wd_824) rfl rfl rfl (by decide +kernel) ⟨Nat.le_of_ble_eq_true rfl, Nat.le_of_ble_eq_true rfl⟩) ⟨fun a U g mk q => by obtain ⟨q0, q1, qP, qK, qD⟩ := q; exact ⟨q0, q1, qP, va_K.moved (u := U) (U := U.calling g mk a) (Vm.Alike.refl U.vm) qK, qD⟩, va_recv hKc hPc (ci := 1) (q0 := 0) rfl rfl, fun U hU hW => ⟨rfl, by rw [hU], by rw [hU]; exact hPc, va_K.moved hW.alike hKc, hDc.weaken (fun _ _ _ _ => trivial)⟩⟩ rfl rfl hl.1 rfl (lv_room (Nat.le_of_ble_eq_true rfl)) dX8_tellIndexed_24 ⟨by decide, by decide⟩) hS (fun q _ h => hFc q h) hFc (fun r5 u6 t H1 locs ht hvm hw hB hz1 hk1 hS => ?_)
      obtain ⟨hP1, hK1, hD1⟩ := hB
      rw [ht] at hP1
      have hK1 := va_K.moved hvm.symm hK1
      obtain ⟨hP, hD⟩ := nv_join (wf := [(h0, .inr (8, [.ref h1, .ref h2, .int x1, .int x2, .int x3])), (h1, .inl (y3, 64, .inl f3)), (h2, .inr (1, [.ref h3, .ref h4, .ref h5, .ref h6])), (h3, .inl (y0, 32768, .inl f0)), (h6, .inr (9, [.ref h7, .ref h8, .int x4, .int x5, .int x6, .int x7])), (h8, .inl (y1, 3, .inl f1)), (h7, .inl (y2, 3, .inl f2)), (h5, .inr (5, [.int x8, .int x9, .int x10, .int x11, .int x12, .int x13])), (h4, .inr (7, [.int x14, .int x15, .int x16, .int x17, .int x18]))]) hP hD [1, 2, 3, 4, 5, 6, 7] [0, 8] rfl rfl (by decide) (by decide) hk1 hFc hP1 hD1 rfl
      have hK := (hK.sub (tys' := [(y3, .int)]) [3] rfl).app hK1
      generalize H1 = H at hP hS ⊢
      have hK : va_K (dC, dI) vwCl [(y3, .int), (y0, .int), (y1, .int), (y2, .int)] s := hK
      refine lv_istore_n (lv' := [(2, .int r5), (0, .ref h0), (1, .int x0)]) hx hb dX8_tellIndexed_27 rfl hl (by decide) rfl (fun ls hl => ?_)
      refine lv_iload_n hx hb dX8_tellIndexed_28 rfl (lv_at hl 2 rfl) ?_
      refine jcut (a := ∀ (b25 : Int32) (b26 : Nat → Int32) (ib25 : iv b25 1 64) (H : Heap) (locs : List Loc) (hK : va_K (dC, dI) vwCl [(y0, .int), (y1, .int), (y2, .int), (y3, .int)] s) (hP : va_P (dC, dI) vwCl [(h2, .inr (1, [.ref h3, .ref h4, .ref h5, .ref h6])), (h3, .inl (y0, 32768, .inl f0)), (h6, .inr (9, [.ref h7, .ref h8, .int x4, .int x5, .int x6, .int x7])), (h8, .inl (y1, 3, .inl f1)), (h7, .inl (y2, 3, .inl f2)), (h5, .inr (5, [.int x8, .int x9, .int x10, .int x11, .int x12, .int x13])), (h4, .inr (7, [.int x14, .int x15, .int x16, .int x17, .int x18])), (h0, .inr (8, [.ref h1, .ref h2, .int b25, .int x2, .int x3])), (h1, .inl (y3, 64, .inl b26))] H) (hD : va_D A [(h2, .inr (1, [.ref h3, .ref h4, .ref h5, .ref h6])), (h3, .inl (y0, 32768, .inl f0)), (h6, .inr (9, [.ref h7, .ref h8, .int x4, .int x5, .int x6, .int x7])), (h8, .inl (y1, 3, .inl f1)), (h7, .inl (y2, 3, .inl f2)), (h5, .inr (5, [.int x8, .int x9, .int x10, .int x11, .int x12, .int x13])), (h4, .inr (7, [.int x14, .int x15, .int x16, .int x17, .int x18])), (h0, .inr (8, [.ref h1, .ref h2, .int b25, .int x2, .int x3])), (h1, .inl (y3, 64, .inl b26))]) (hS : va_S A s.heap H locs) (ls : Array Slot) (hl : lv_has ls 3 [(0, .ref h0)]), W p l e (headSpec (Cond.code yX8_tellIndexed cX8_tellIndexed 3 (some .boolean) :: lw_G) ({ frames := 3, cells := 0, slots := 0, locals := 65 })).room s m ar below meth c H locs 0 0 Q (F0 m 89 ls [])) ?_ (fun j27 => ?_)
      · skip
        intro b25 b26 ib25 H locs hK hP hD hS ls hl
        refine lv_aload_n hx hb dX8_tellIndexed_89 rfl (lv_at hl 0 rfl) ?_
        refine lv_dup hx hb dX8_tellIndexed_90 rfl ?_
        refine va_get (D := (dC, dI)) (ci := 8) (v := .int x3) (C := RX8) (T := TX8) (N := 5) hx hb hG inGX8 hown hK hP 7 rfl rfl 4 (by decide) (hG _ wd_383) (fun _ h9 => h9) rfl dX8_tellIndexed_91 ?_
        refine lv_iconst (v := 2) hx hb dX8_tellIndexed_94 (by decide) ?_
        refine lv_iadd hx hb dX8_tellIndexed_95 ?_
        refine lv_topi (fun v28 ev28 => ?_)
        have iv28 : iv v28 (-2147483646) 65537 := iv_eq ev28 (iv_add j3 (by decide : iv 2 2 2) (by decide) (by decide))
        have tv28 : v28.toInt = x3.toInt + 2 := iv_addT ev28 j3 (by decide) (by decide) (by decide)
        refine va_put (D := (dC, dI)) (ci := 8) (v := .int v28) (ty := .int) (C := RX8) (T := TX8) (N := 5) hx hb hG inGX8 tyX8 tyX8_ok nmX8 hown hK hP hD hS 7 rfl rfl 4 (by decide) (hG _ wd_383) (fun _ h9 => h9) rfl (by decide +kernel) rfl rfl (Nat.le_of_ble_eq_true rfl) dX8_tellIndexed_96 (fun H locs hP hD hS => ?_)
        obtain ⟨hP, hD⟩ := nv_eq (ws' := [(h2, .inr (1, [.ref h3, .ref h4, .ref h5, .ref h6])), (h3, .inl (y0, 32768, .inl f0)), (h6, .inr (9, [.ref h7, .ref h8, .int x4, .int x5, .int x6, .int x7])), (h8, .inl (y1, 3, .inl f1)), (h7, .inl (y2, 3, .inl f2)), (h5, .inr (5, [.int x8, .int x9, .int x10, .int x11, .int x12, .int x13])), (h4, .inr (7, [.int x14, .int x15, .int x16, .int x17, .int x18])), (h0, .inr (8, [.ref h1, .ref h2, .int b25, .int x2, .int v28])), (h1, .inl (y3, 64, .inl b26))]) hP hD rfl
        refine lv_iconst (v := 1) hx hb dX8_tellIndexed_99 (by decide) ?_
        rw [hQ]
        obtain ⟨hP9, hD9⟩ := nv_sub2 (wc := [(h0, .inr (8, [.ref h1, .ref h2, .int b25, .int x2, .int v28])), (h2, .inr (1, [.ref h3, .ref h4, .ref h5, .ref h6])), (h3, .inl (y0, 32768, .inl f0)), (h6, .inr (9, [.ref h7, .ref h8, .int x4, .int x5, .int x6, .int x7])), (h8, .inl (y1, 3, .inl f1)), (h7, .inl (y2, 3, .inl f2)), (h5, .inr (5, [.int x8, .int x9, .int x10, .int x11, .int x12, .int x13])), (h4, .inr (7, [.int x14, .int x15, .int x16, .int x17, .int x18])), (h1, .inl (y3, 64, .inl b26))]) hP hD [7, 0, 1, 2, 3, 4, 5, 6, 8] (by decide) rfl
        have hK9 := hK.sub (tys' := [(y0, .int), (y1, .int), (y2, .int), (y3, .int)]) [0, 1, 2, 3] rfl
        exact W.zret (v := 1) hx hb hr rfl (fun t ht hW => ⟨⟨1, (b25, v28, b26), rfl, ⟨iv_w (by decide : iv 1 1 1) (by decide) (by decide), iv_w ib25 (by decide) (by decide), trivial⟩, by rw [ht]; exact hP9, va_K.moved hW.alike hK9, hD9⟩, hS.F ht⟩) hS.2.2 dX8_tellIndexed_100
      refine lv_if_ne (tgt := 48) hx hb dX8_tellIndexed_29 (by decide) (fun c7 => ?_) (fun c7 => ?_)
      · skip
        refine lv_iload_n hx hb dX8_tellIndexed_48 rfl (lv_at hl 2 rfl) ?_
        refine lv_iconst (v := 2) hx hb dX8_tellIndexed_49 (by decide) ?_
        refine lv_icmp_ne (tgt := 67) hx hb dX8_tellIndexed_50 (by decide) (fun c29 => ?_) (fun c29 => ?_)
        · skip
          refine lv_aload_n hx hb dX8_tellIndexed_67 rfl (lv_at hl 1 rfl) ?_
          refine lv_iload_n hx hb dX8_tellIndexed_68 rfl (lv_at hl 0 rfl) ?_
          obtain ⟨hPc, hDc, hFc⟩ := nv_sub3 (wc := [(h0, .inr (8, [.ref h1, .ref h2, .int x1, .int x2, .int x3])), (h1, .inl (y3, 64, .inl f3))]) hP hD hS hA [0, 1] (by decide) rfl
          have hKc := hK.sub (tys' := [(y3, .int)]) [0] rfl
          refine va_callv (va_runV (As := [.int r5]) (rest := []) ⟨hx, hb, hml, hown, hG⟩ (cX8_putNumber_1 l dC dI h0 h1 h2 y3 H.size r5 x1 x2 x3 f3 ix1) (cwV 1 hG (gV wd_1207 wd_1209 wp_60 wd_16 wd_1210) rfl rfl rfl (by decide +kernel) ⟨Nat.le_of_ble_eq_true rfl, Nat.le_of_ble_eq_true rfl⟩) ⟨fun a U g mk q => by obtain ⟨q0, q1, qP, qK, qD⟩ := q; exact ⟨q0, q1, qP, va_K.moved (u := U) (U := U.calling g mk a) (Vm.Alike.refl U.vm) qK, qD⟩, va_recv hKc hPc (ci := 8) (q0 := 0) rfl rfl, fun U hU hW => ⟨rfl, by rw [hU], by rw [hU]; exact hPc, va_K.moved hW.alike hKc, hDc.weaken (fun _ _ _ _ => trivial)⟩⟩ rfl rfl hl.1 rfl (lv_room (Nat.le_of_ble_eq_true rfl)) dX8_tellIndexed_69 ⟨by decide, by decide⟩) hS (fun q _ h => hFc q h) hFc (fun u31 t H1 locs ht hvm hw hB hz1 hk1 hS => ?_)
          obtain ⟨u31_0, u31_1⟩ := u31
          have hw : iv u31_0 1 64 ∧ True := hw
          obtain ⟨iu31_0, -⟩ := hw
          obtain ⟨hP1, hK1, hD1⟩ := hB
          rw [ht] at hP1
          have hK1 := va_K.moved hvm.symm hK1
          obtain ⟨hP, hD⟩ := nv_join (wf := [(h2, .inr (1, [.ref h3, .ref h4, .ref h5, .ref h6])), (h3, .inl (y0, 32768, .inl f0)), (h6, .inr (9, [.ref h7, .ref h8, .int x4, .int x5, .int x6, .int x7])), (h8, .inl (y1, 3, .inl f1)), (h7, .inl (y2, 3, .inl f2)), (h5, .inr (5, [.int x8, .int x9, .int x10, .int x11, .int x12, .int x13])), (h4, .inr (7, [.int x14, .int x15, .int x16, .int x17, .int x18])), (h0, .inr (8, [.ref h1, .ref h2, .int u31_0, .int x2, .int x3])), (h1, .inl (y3, 64, .inl u31_1))]) hP hD [0, 1] [2, 3, 4, 5, 6, 7, 8] rfl rfl (by decide) (by decide) hk1 hFc hP1 hD1 rfl
          have hK := (hK.sub (tys' := [(y0, .int), (y1, .int), (y2, .int)]) [1, 2, 3] rfl).app hK1
          generalize H1 = H at hP hS ⊢
          have hK : va_K (dC, dI) vwCl [(y0, .int), (y1, .int), (y2, .int), (y3, .int)] s := hK
          refine lv_aload_n hx hb dX8_tellIndexed_72 rfl (lv_at hl 1 rfl) ?_
          refine lv_bipush (v := 40) hx hb dX8_tellIndexed_73 (by decide) ?_
          obtain ⟨hPc, hDc, hFc⟩ := nv_sub3 (wc := [(h0, .inr (8, [.ref h1, .ref h2, .int u31_0, .int x2, .int x3])), (h1, .inl (y3, 64, .inl u31_1))]) hP hD hS hA [7, 8] (by decide) rfl
          have hKc := hK.sub (tys' := [(y3, .int)]) [3] rfl
          refine va_callv (va_runV (As := [.int 40]) (rest := []) ⟨hx, hb, hml, hown, hG⟩ (cX8_put_1 l dC dI h0 h1 h2 y3 H.size 40 u31_0 x2 x3 u31_1 (iv_w iu31_0 (by decide) (by decide))) (cwV 1 hG (gV wd_1194 wd_1196 wp_57 wd_16 wd_1197) rfl rfl rfl (by decide +kernel) ⟨Nat.le_of_ble_eq_true rfl, Nat.le_of_ble_eq_true rfl⟩) ⟨fun a U g mk q => by obtain ⟨q0, q1, qP, qK, qD⟩ := q; exact ⟨q0, q1, qP, va_K.moved (u := U) (U := U.calling g mk a) (Vm.Alike.refl U.vm) qK, qD⟩, va_recv hKc hPc (ci := 8) (q0 := 0) rfl rfl, fun U hU hW => ⟨rfl, by rw [hU], by rw [hU]; exact hPc, va_K.moved hW.alike hKc, hDc.weaken (fun _ _ _ _ => trivial)⟩⟩ rfl rfl hl.1 rfl (lv_room (Nat.le_of_ble_eq_true rfl)) dX8_tellIndexed_75 ⟨by decide, by decide⟩) hS (fun q _ h => hFc q h) hFc (fun u33 t H1 locs ht hvm hw hB hz1 hk1 hS => ?_)
          obtain ⟨u33_0, u33_1⟩ := u33
          have hw : iv u33_0 1 64 ∧ True := hw
          obtain ⟨iu33_0, -⟩ := hw
          obtain ⟨hP1, hK1, hD1⟩ := hB
          rw [ht] at hP1
          have hK1 := va_K.moved hvm.symm hK1
          obtain ⟨hP, hD⟩ := nv_join (wf := [(h2, .inr (1, [.ref h3, .ref h4, .ref h5, .ref h6])), (h3, .inl (y0, 32768, .inl f0)), (h6, .inr (9, [.ref h7, .ref h8, .int x4, .int x5, .int x6, .int x7])), (h8, .inl (y1, 3, .inl f1)), (h7, .inl (y2, 3, .inl f2)), (h5, .inr (5, [.int x8, .int x9, .int x10, .int x11, .int x12, .int x13])), (h4, .inr (7, [.int x14, .int x15, .int x16, .int x17, .int x18])), (h0, .inr (8, [.ref h1, .ref h2, .int u33_0, .int x2, .int x3])), (h1, .inl (y3, 64, .inl u33_1))]) hP hD [7, 8] [0, 1, 2, 3, 4, 5, 6] rfl rfl (by decide) (by decide) hk1 hFc hP1 hD1 rfl
          have hK := (hK.sub (tys' := [(y0, .int), (y1, .int), (y2, .int)]) [0, 1, 2] rfl).app hK1
          generalize H1 = H at hP hS ⊢
          have hK : va_K (dC, dI) vwCl [(y0, .int), (y1, .int), (y2, .int), (y3, .int)] s := hK
          refine lv_aload_n hx hb dX8_tellIndexed_78 rfl (lv_at hl 1 rfl) ?_
          refine lv_iload_n hx hb dX8_tellIndexed_79 rfl (lv_at hl 2 rfl) ?_
          obtain ⟨hPc, hDc, hFc⟩ := nv_sub3 (wc := [(h0, .inr (8, [.ref h1, .ref h2, .int u33_0, .int x2, .int x3])), (h1, .inl (y3, 64, .inl u33_1))]) hP hD hS hA [7, 8] (by decide) rfl
          have hKc := hK.sub (tys' := [(y3, .int)]) [3] rfl
          refine va_callv (va_runV (As := [.int x0]) (rest := []) ⟨hx, hb, hml, hown, hG⟩ (cX8_putRegister_1 l dC dI h0 h1 h2 y3 H.size x0 u33_0 x2 x3 u33_1 (iv_w iu33_0 (by decide) (by decide))) (cwV 1 hG (gV wd_1211 wd_1213 wp_61 wd_16 wd_1214) rfl rfl rfl (by decide +kernel) ⟨Nat.le_of_ble_eq_true rfl, Nat.le_of_ble_eq_true rfl⟩) ⟨fun a U g mk q => by obtain ⟨q0, q1, qP, qK, qD⟩ := q; exact ⟨q0, q1, qP, va_K.moved (u := U) (U := U.calling g mk a) (Vm.Alike.refl U.vm) qK, qD⟩, va_recv hKc hPc (ci := 8) (q0 := 0) rfl rfl, fun U hU hW => ⟨rfl, by rw [hU], by rw [hU]; exact hPc, va_K.moved hW.alike hKc, hDc.weaken (fun _ _ _ _ => trivial)⟩⟩ rfl rfl hl.1 rfl (lv_room (Nat.le_of_ble_eq_true rfl)) dX8_tellIndexed_80 ⟨by decide, by decide⟩) hS (fun q _ h => hFc q h) hFc (fun u35 t H1 locs ht hvm hw hB hz1 hk1 hS => ?_)
          obtain ⟨u35_0, u35_1⟩ := u35
          have hw : iv u35_0 1 64 ∧ True := hw
          obtain ⟨iu35_0, -⟩ := hw
          obtain ⟨hP1, hK1, hD1⟩ := hB
          rw [ht] at hP1
          have hK1 := va_K.moved hvm.symm hK1
          obtain ⟨hP, hD⟩ := nv_join (wf := [(h2, .inr (1, [.ref h3, .ref h4, .ref h5, .ref h6])), (h3, .inl (y0, 32768, .inl f0)), (h6, .inr (9, [.ref h7, .ref h8, .int x4, .int x5, .int x6, .int x7])), (h8, .inl (y1, 3, .inl f1)), (h7, .inl (y2, 3, .inl f2)), (h5, .inr (5, [.int x8, .int x9, .int x10, .int x11, .int x12, .int x13])), (h4, .inr (7, [.int x14, .int x15, .int x16, .int x17, .int x18])), (h0, .inr (8, [.ref h1, .ref h2, .int u35_0, .int x2, .int x3])), (h1, .inl (y3, 64, .inl u35_1))]) hP hD [7, 8] [0, 1, 2, 3, 4, 5, 6] rfl rfl (by decide) (by decide) hk1 hFc hP1 hD1 rfl
          have hK := (hK.sub (tys' := [(y0, .int), (y1, .int), (y2, .int)]) [0, 1, 2] rfl).app hK1
          generalize H1 = H at hP hS ⊢
          have hK : va_K (dC, dI) vwCl [(y0, .int), (y1, .int), (y2, .int), (y3, .int)] s := hK
          refine lv_aload_n hx hb dX8_tellIndexed_83 rfl (lv_at hl 1 rfl) ?_
          refine lv_bipush (v := 41) hx hb dX8_tellIndexed_84 (by decide) ?_
          obtain ⟨hPc, hDc, hFc⟩ := nv_sub3 (wc := [(h0, .inr (8, [.ref h1, .ref h2, .int u35_0, .int x2, .int x3])), (h1, .inl (y3, 64, .inl u35_1))]) hP hD hS hA [7, 8] (by decide) rfl
          have hKc := hK.sub (tys' := [(y3, .int)]) [3] rfl
          refine va_callv (va_runV (As := [.int 41]) (rest := []) ⟨hx, hb, hml, hown, hG⟩ (cX8_put_1 l dC dI h0 h1 h2 y3 H.size 41 u35_0 x2 x3 u35_1 (iv_w iu35_0 (by decide) (by decide))) (cwV 1 hG (gV wd_1194 wd_1196 wp_57 wd_16 wd_1197) rfl rfl rfl (by decide +kernel) ⟨Nat.le_of_ble_eq_true rfl, Nat.le_of_ble_eq_true rfl⟩) ⟨fun a U g mk q => by obtain ⟨q0, q1, qP, qK, qD⟩ := q; exact ⟨q0, q1, qP, va_K.moved (u := U) (U := U.calling g mk a) (Vm.Alike.refl U.vm) qK, qD⟩, va_recv hKc hPc (ci := 8) (q0 := 0) rfl rfl, fun U hU hW => ⟨rfl, by rw [hU], by rw [hU]; exact hPc, va_K.moved hW.alike hKc, hDc.weaken (fun _ _ _ _ => trivial)⟩⟩ rfl rfl hl.1 rfl (lv_room (Nat.le_of_ble_eq_true rfl)) dX8_tellIndexed_86 ⟨by decide, by decide⟩) hS (fun q _ h => hFc q h) hFc (fun u37 t H1 locs ht hvm hw hB hz1 hk1 hS => ?_)
          obtain ⟨u37_0, u37_1⟩ := u37
          have hw : iv u37_0 1 64 ∧ True := hw
          obtain ⟨iu37_0, -⟩ := hw
          obtain ⟨hP1, hK1, hD1⟩ := hB
          rw [ht] at hP1
          have hK1 := va_K.moved hvm.symm hK1
          obtain ⟨hP, hD⟩ := nv_join (wf := [(h2, .inr (1, [.ref h3, .ref h4, .ref h5, .ref h6])), (h3, .inl (y0, 32768, .inl f0)), (h6, .inr (9, [.ref h7, .ref h8, .int x4, .int x5, .int x6, .int x7])), (h8, .inl (y1, 3, .inl f1)), (h7, .inl (y2, 3, .inl f2)), (h5, .inr (5, [.int x8, .int x9, .int x10, .int x11, .int x12, .int x13])), (h4, .inr (7, [.int x14, .int x15, .int x16, .int x17, .int x18])), (h0, .inr (8, [.ref h1, .ref h2, .int u37_0, .int x2, .int x3])), (h1, .inl (y3, 64, .inl u37_1))]) hP hD [7, 8] [0, 1, 2, 3, 4, 5, 6] rfl rfl (by decide) (by decide) hk1 hFc hP1 hD1 rfl
          have hK := (hK.sub (tys' := [(y0, .int), (y1, .int), (y2, .int)]) [0, 1, 2] rfl).app hK1
          generalize H1 = H at hP hS ⊢
          have hK : va_K (dC, dI) vwCl [(y0, .int), (y1, .int), (y2, .int), (y3, .int)] s := hK
          exact j27 u37_0 u37_1 iu37_0 _ _ hK hP hD hS ls (lv_sub hl [1] rfl)
        · skip
          subst c29
          refine lv_aload_n hx hb dX8_tellIndexed_53 rfl (lv_at hl 1 rfl) ?_
          refine lv_bipush (v := 38) hx hb dX8_tellIndexed_54 (by decide) ?_
          obtain ⟨hPc, hDc, hFc⟩ := nv_sub3 (wc := [(h0, .inr (8, [.ref h1, .ref h2, .int x1, .int x2, .int x3])), (h1, .inl (y3, 64, .inl f3))]) hP hD hS hA [0, 1] (by decide) rfl
          have hKc := hK.sub (tys' := [(y3, .int)]) [0] rfl
          refine va_callv (va_runV (As := [.int 38]) (rest := []) ⟨hx, hb, hml, hown, hG⟩ (cX8_put_1 l dC dI h0 h1 h2 y3 H.size 38 x1 x2 x3 f3 ix1) (cwV 1 hG (gV wd_1194 wd_1196 wp_57 wd_16 wd_1197) rfl rfl rfl (by decide +kernel) ⟨Nat.le_of_ble_eq_true rfl, Nat.le_of_ble_eq_true rfl⟩) ⟨fun a U g mk q => by obtain ⟨q0, q1, qP, qK, qD⟩ := q; exact ⟨q0, q1, qP, va_K.moved (u := U) (U := U.calling g mk a) (Vm.Alike.refl U.vm) qK, qD⟩, va_recv hKc hPc (ci := 8) (q0 := 0) rfl rfl, fun U hU hW => ⟨rfl, by rw [hU], by rw [hU]; exact hPc, va_K.moved hW.alike hKc, hDc.weaken (fun _ _ _ _ => trivial)⟩⟩ rfl rfl hl.1 rfl (lv_room (Nat.le_of_ble_eq_true rfl)) dX8_tellIndexed_56 ⟨by decide, by decide⟩) hS (fun q _ h => hFc q h) hFc (fun u39 t H1 locs ht hvm hw hB hz1 hk1 hS => ?_)
          obtain ⟨u39_0, u39_1⟩ := u39
          have hw : iv u39_0 1 64 ∧ True := hw
          obtain ⟨iu39_0, -⟩ := hw
          obtain ⟨hP1, hK1, hD1⟩ := hB
          rw [ht] at hP1
          have hK1 := va_K.moved hvm.symm hK1
          obtain ⟨hP, hD⟩ := nv_join (wf := [(h2, .inr (1, [.ref h3, .ref h4, .ref h5, .ref h6])), (h3, .inl (y0, 32768, .inl f0)), (h6, .inr (9, [.ref h7, .ref h8, .int x4, .int x5, .int x6, .int x7])), (h8, .inl (y1, 3, .inl f1)), (h7, .inl (y2, 3, .inl f2)), (h5, .inr (5, [.int x8, .int x9, .int x10, .int x11, .int x12, .int x13])), (h4, .inr (7, [.int x14, .int x15, .int x16, .int x17, .int x18])), (h0, .inr (8, [.ref h1, .ref h2, .int u39_0, .int x2, .int x3])), (h1, .inl (y3, 64, .inl u39_1))]) hP hD [0, 1] [2, 3, 4, 5, 6, 7, 8] rfl rfl (by decide) (by decide) hk1 hFc hP1 hD1 rfl
          have hK := (hK.sub (tys' := [(y0, .int), (y1, .int), (y2, .int)]) [1, 2, 3] rfl).app hK1
          generalize H1 = H at hP hS ⊢
          have hK : va_K (dC, dI) vwCl [(y0, .int), (y1, .int), (y2, .int), (y3, .int)] s := hK
          refine lv_aload_n hx hb dX8_tellIndexed_59 rfl (lv_at hl 1 rfl) ?_
          refine lv_iload_n hx hb dX8_tellIndexed_60 rfl (lv_at hl 0 rfl) ?_
          obtain ⟨hPc, hDc, hFc⟩ := nv_sub3 (wc := [(h0, .inr (8, [.ref h1, .ref h2, .int u39_0, .int x2, .int x3])), (h1, .inl (y3, 64, .inl u39_1))]) hP hD hS hA [7, 8] (by decide) rfl
          have hKc := hK.sub (tys' := [(y3, .int)]) [3] rfl
          refine va_callv (va_runV (As := [.int r5]) (rest := []) ⟨hx, hb, hml, hown, hG⟩ (cX8_putNumber_1 l dC dI h0 h1 h2 y3 H.size r5 u39_0 x2 x3 u39_1 (iv_w iu39_0 (by decide) (by decide))) (cwV 1 hG (gV wd_1207 wd_1209 wp_60 wd_16 wd_1210) rfl rfl rfl (by decide +kernel) ⟨Nat.le_of_ble_eq_true rfl, Nat.le_of_ble_eq_true rfl⟩) ⟨fun a U g mk q => by obtain ⟨q0, q1, qP, qK, qD⟩ := q; exact ⟨q0, q1, qP, va_K.moved (u := U) (U := U.calling g mk a) (Vm.Alike.refl U.vm) qK, qD⟩, va_recv hKc hPc (ci := 8) (q0 := 0) rfl rfl, fun U hU hW => ⟨rfl, by rw [hU], by rw [hU]; exact hPc, va_K.moved hW.alike hKc, hDc.weaken (fun _ _ _ _ => trivial)⟩⟩ rfl rfl hl.1 rfl (lv_room (Nat.le_of_ble_eq_true rfl)) dX8_tellIndexed_61 ⟨by decide, by decide⟩) hS (fun q _ h => hFc q h) hFc (fun u41 t H1 locs ht hvm hw hB hz1 hk1 hS => ?_)
          obtain ⟨u41_0, u41_1⟩ := u41
          have hw : iv u41_0 1 64 ∧ True := hw
          obtain ⟨iu41_0, -⟩ := hw
          obtain ⟨hP1, hK1, hD1⟩ := hB
          rw [ht] at hP1
          have hK1 := va_K.moved hvm.symm hK1
          obtain ⟨hP, hD⟩ := nv_join (wf := [(h2, .inr (1, [.ref h3, .ref h4, .ref h5, .ref h6])), (h3, .inl (y0, 32768, .inl f0)), (h6, .inr (9, [.ref h7, .ref h8, .int x4, .int x5, .int x6, .int x7])), (h8, .inl (y1, 3, .inl f1)), (h7, .inl (y2, 3, .inl f2)), (h5, .inr (5, [.int x8, .int x9, .int x10, .int x11, .int x12, .int x13])), (h4, .inr (7, [.int x14, .int x15, .int x16, .int x17, .int x18])), (h0, .inr (8, [.ref h1, .ref h2, .int u41_0, .int x2, .int x3])), (h1, .inl (y3, 64, .inl u41_1))]) hP hD [7, 8] [0, 1, 2, 3, 4, 5, 6] rfl rfl (by decide) (by decide) hk1 hFc hP1 hD1 rfl
          have hK := (hK.sub (tys' := [(y0, .int), (y1, .int), (y2, .int)]) [0, 1, 2] rfl).app hK1
          generalize H1 = H at hP hS ⊢
          have hK : va_K (dC, dI) vwCl [(y0, .int), (y1, .int), (y2, .int), (y3, .int)] s := hK
          refine lv_goto (tgt := 89) hx hb dX8_tellIndexed_64 (by decide) ?_
          exact j27 u41_0 u41_1 iu41_0 _ _ hK hP hD hS ls (lv_sub hl [1] rfl)
      · skip
        subst c7
        refine lv_aload_n hx hb dX8_tellIndexed_32 rfl (lv_at hl 1 rfl) ?_
        refine lv_aload_n hx hb dX8_tellIndexed_33 rfl (lv_at hl 1 rfl) ?_
        refine va_get (D := (dC, dI)) (ci := 8) (v := .int x3) (C := RX8) (T := TX8) (N := 5) hx hb hG inGX8 hown hK hP 0 rfl rfl 4 (by decide) (hG _ wd_383) (fun _ h9 => h9) rfl dX8_tellIndexed_34 ?_
        refine lv_iload_n hx hb dX8_tellIndexed_37 rfl (lv_at hl 0 rfl) ?_
        refine lv_iadd hx hb dX8_tellIndexed_38 ?_
        refine lv_topi (fun v42 ev42 => ?_)
        refine lv_ldc hx hb hown (hG _ wd_1206) dX8_tellIndexed_39 ?_
        refine lv_iand hx hb dX8_tellIndexed_41 ?_
        refine lv_topi (fun v43 ev43 => ?_)
        have iv43 : iv v43 0 65535 := iv_eq ev43 (iv_and (x := v42) (iv_w (by decide : iv 65535 65535 65535) (by decide) (by decide) : iv 65535 0 65535))
        obtain ⟨hPc, hDc, hFc⟩ := nv_sub3 (wc := [(h0, .inr (8, [.ref h1, .ref h2, .int x1, .int x2, .int x3])), (h1, .inl (y3, 64, .inl f3))]) hP hD hS hA [0, 1] (by decide) rfl
        have hKc := hK.sub (tys' := [(y3, .int)]) [0] rfl
        refine va_callv (va_runV (As := [.int v43]) (rest := []) ⟨hx, hb, hml, hown, hG⟩ (cX8_putNumber_1 l dC dI h0 h1 h2 y3 H.size v43 x1 x2 x3 f3 ix1) (cwV 1 hG (gV wd_1207 wd_1209 wp_60 wd_16 wd_1210) rfl rfl rfl (by decide +kernel) ⟨Nat.le_of_ble_eq_true rfl, Nat.le_of_ble_eq_true rfl⟩) ⟨fun a U g mk q => by obtain ⟨q0, q1, qP, qK, qD⟩ := q; exact ⟨q0, q1, qP, va_K.moved (u := U) (U := U.calling g mk a) (Vm.Alike.refl U.vm) qK, qD⟩, va_recv hKc hPc (ci := 8) (q0 := 0) rfl rfl, fun U hU hW => ⟨rfl, by rw [hU], by rw [hU]; exact hPc, va_K.moved hW.alike hKc, hDc.weaken (fun _ _ _ _ => trivial)⟩⟩ rfl rfl hl.1 rfl (lv_room (Nat.le_of_ble_eq_true rfl)) dX8_tellIndexed_42 ⟨by decide, by decide⟩) hS (fun q _ h => hFc q h) hFc (fun u45 t H1 locs ht hvm hw hB hz1 hk1 hS => ?_)
        obtain ⟨u45_0, u45_1⟩ := u45
        have hw : iv u45_0 1 64 ∧ True := hw
        obtain ⟨iu45_0, -⟩ := hw
        obtain ⟨hP1, hK1, hD1⟩ := hB
        rw [ht] at hP1
        have hK1 := va_K.moved hvm.symm hK1
        obtain ⟨hP, hD⟩ := nv_join (wf := [(h2, .inr (1, [.ref h3, .ref h4, .ref h5, .ref h6])), (h3, .inl (y0, 32768, .inl f0)), (h6, .inr (9, [.ref h7, .ref h8, .int x4, .int x5, .int x6, .int x7])), (h8, .inl (y1, 3, .inl f1)), (h7, .inl (y2, 3, .inl f2)), (h5, .inr (5, [.int x8, .int x9, .int x10, .int x11, .int x12, .int x13])), (h4, .inr (7, [.int x14, .int x15, .int x16, .int x17, .int x18])), (h0, .inr (8, [.ref h1, .ref h2, .int u45_0, .int x2, .int x3])), (h1, .inl (y3, 64, .inl u45_1))]) hP hD [0, 1] [2, 3, 4, 5, 6, 7, 8] rfl rfl (by decide) (by decide) hk1 hFc hP1 hD1 rfl
        have hK := (hK.sub (tys' := [(y0, .int), (y1, .int), (y2, .int)]) [1, 2, 3] rfl).app hK1
        generalize H1 = H at hP hS ⊢
        have hK : va_K (dC, dI) vwCl [(y0, .int), (y1, .int), (y2, .int), (y3, .int)] s := hK
        refine lv_goto (tgt := 89) hx hb dX8_tellIndexed_45 (by decide) ?_
        exact j27 u45_0 u45_1 iu45_0 _ _ hK hP hD hS ls (lv_sub hl [1] rfl)
    · skip
      subst c4
      refine lv_iconst (v := 0) hx hb dX8_tellIndexed_14 (by decide) ?_
      rw [hQ]
      obtain ⟨hP9, hD9⟩ := nv_sub2 (wc := [(h0, .inr (8, [.ref h1, .ref h2, .int x1, .int x2, .int x3])), (h2, .inr (1, [.ref h3, .ref h4, .ref h5, .ref h6])), (h3, .inl (y0, 32768, .inl f0)), (h6, .inr (9, [.ref h7, .ref h8, .int x4, .int x5, .int x6, .int x7])), (h8, .inl (y1, 3, .inl f1)), (h7, .inl (y2, 3, .inl f2)), (h5, .inr (5, [.int x8, .int x9, .int x10, .int x11, .int x12, .int x13])), (h4, .inr (7, [.int x14, .int x15, .int x16, .int x17, .int x18])), (h1, .inl (y3, 64, .inl f3))]) hP hD [0, 1, 2, 3, 4, 5, 6, 7, 8] (by decide) rfl
      have hK9 := hK.sub (tys' := [(y0, .int), (y1, .int), (y2, .int), (y3, .int)]) [0, 1, 2, 3] rfl
      exact W.zret (v := 0) hx hb hr rfl (fun t ht hW => ⟨⟨0, (x1, x3, f3), rfl, ⟨iv_w (by decide : iv 0 0 0) (by decide) (by decide), iv_w ix1 (by decide) (by decide), trivial⟩, by rw [ht]; exact hP9, va_K.moved hW.alike hK9, hD9⟩, hS.F ht⟩) hS.2.2 dX8_tellIndexed_15
set_option maxHeartbeats 100000000 in
set_option maxRecDepth 100000 in
theorem cX8_tellSource_1 (l : Launch) (dC : Nat → ClassId) (dI : Nat → Nat → Nat) (h0 h1 h2 h3 h4 h5 h6 h7 h8 : Nat) (y0 y1 y2 y3 : ClassId) (sz : Nat) (x0 x1 x2 x3 x4 x5 x6 x7 x8 x9 x10 x11 x12 x13 x14 x15 x16 x17 x18 x19 x20 : Int32) (f0 f1 f2 f3 : Nat → Int32) (ix2 : iv x2 0 1) (ix3 : iv x3 0 64) (ix9 : iv x9 0 1) : Met l yX8_tellSource (Cond.code yX8_tellSource cX8_tellSource 4 (some .boolean) :: lw_G) ({ frames := 4, cells := 0, slots := 0, locals := 87 }) (va_Pc [.ref h0, .int x0, .int x1, .int x2] (fun U => U.heap.size = sz ∧ va_P (dC, dI) vwCl [(h0, .inr (8, [.ref h1, .ref h2, .int x3, .int x4, .int x5])), (h1, .inl (y0, 64, .inl f0)), (h2, .inr (1, [.ref h3, .ref h4, .ref h5, .ref h6])), (h3, .inl (y1, 32768, .inl f1)), (h6, .inr (9, [.ref h7, .ref h8, .int x6, .int x7, .int x8, .int x9])), (h8, .inl (y2, 3, .inl f2)), (h7, .inl (y3, 3, .inl f3)), (h5, .inr (5, [.int x10, .int x11, .int x12, .int x13, .int x14, .int x15])), (h4, .inr (7, [.int x16, .int x17, .int x18, .int x19, .int x20]))] U.heap ∧ va_K (dC, dI) vwCl [(y0, .int), (y1, .int), (y2, .int), (y3, .int)] U ∧ va_D (fun _ => True) [(h0, .inr (8, [.ref h1, .ref h2, .int x3, .int x4, .int x5])), (h1, .inl (y0, 64, .inl f0)), (h2, .inr (1, [.ref h3, .ref h4, .ref h5, .ref h6])), (h3, .inl (y1, 32768, .inl f1)), (h6, .inr (9, [.ref h7, .ref h8, .int x6, .int x7, .int x8, .int x9])), (h8, .inl (y2, 3, .inl f2)), (h7, .inl (y3, 3, .inl f3)), (h5, .inr (5, [.int x10, .int x11, .int x12, .int x13, .int x14, .int x15])), (h4, .inr (7, [.int x16, .int x17, .int x18, .int x19, .int x20]))])) (va_Qi (fun (r : Int32) (u : Int32 × Int32 × (Nat → Int32)) => iv r 0 1 ∧ iv u.1 0 64 ∧ True) (fun (u : Int32 × Int32 × (Nat → Int32)) (t : State) => va_P (dC, dI) vwCl [(h0, .inr (8, [.ref h1, .ref h2, .int u.1, .int x4, .int u.2.1])), (h1, .inl (y0, 64, .inl u.2.2)), (h2, .inr (1, [.ref h3, .ref h4, .ref h5, .ref h6])), (h3, .inl (y1, 32768, .inl f1)), (h6, .inr (9, [.ref h7, .ref h8, .int x6, .int x7, .int x8, .int x9])), (h8, .inl (y2, 3, .inl f2)), (h7, .inl (y3, 3, .inl f3)), (h5, .inr (5, [.int x10, .int x11, .int x12, .int x13, .int x14, .int x15])), (h4, .inr (7, [.int x16, .int x17, .int x18, .int x19, .int x20]))] t.heap ∧ va_K (dC, dI) vwCl [(y0, .int), (y1, .int), (y2, .int), (y3, .int)] t ∧ va_D (va_A [(h0, .inr (8, [.ref h1, .ref h2, .int x3, .int x4, .int x5])), (h1, .inl (y0, 64, .inl f0)), (h2, .inr (1, [.ref h3, .ref h4, .ref h5, .ref h6])), (h3, .inl (y1, 32768, .inl f1)), (h6, .inr (9, [.ref h7, .ref h8, .int x6, .int x7, .int x8, .int x9])), (h8, .inl (y2, 3, .inl f2)), (h7, .inl (y3, 3, .inl f3)), (h5, .inr (5, [.int x10, .int x11, .int x12, .int x13, .int x14, .int x15])), (h4, .inr (7, [.int x16, .int x17, .int x18, .int x19, .int x20]))] sz) [(h0, .inr (8, [.ref h1, .ref h2, .int u.1, .int x4, .int u.2.1])), (h1, .inl (y0, 64, .inl u.2.2)), (h2, .inr (1, [.ref h3, .ref h4, .ref h5, .ref h6])), (h3, .inl (y1, 32768, .inl f1)), (h6, .inr (9, [.ref h7, .ref h8, .int x6, .int x7, .int x8, .int x9])), (h8, .inl (y2, 3, .inl f2)), (h7, .inl (y3, 3, .inl f3)), (h5, .inr (5, [.int x10, .int x11, .int x12, .int x13, .int x14, .int x15])), (h4, .inr (7, [.int x16, .int x17, .int x18, .int x19, .int x20]))]) (va_A [(h0, .inr (8, [.ref h1, .ref h2, .int x3, .int x4, .int x5])), (h1, .inl (y0, 64, .inl f0)), (h2, .inr (1, [.ref h3, .ref h4, .ref h5, .ref h6])), (h3, .inl (y1, 32768, .inl f1)), (h6, .inr (9, [.ref h7, .ref h8, .int x6, .int x7, .int x8, .int x9])), (h8, .inl (y2, 3, .inl f2)), (h7, .inl (y3, 3, .inl f3)), (h5, .inr (5, [.int x10, .int x11, .int x12, .int x13, .int x14, .int x15])), (h4, .inr (7, [.int x16, .int x17, .int x18, .int x19, .int x20]))] sz)) 0 0 (va_A [(h0, .inr (8, [.ref h1, .ref h2, .int x3, .int x4, .int x5])), (h1, .inl (y0, 64, .inl f0)), (h2, .inr (1, [.ref h3, .ref h4, .ref h5, .ref h6])), (h3, .inl (y1, 32768, .inl f1)), (h6, .inr (9, [.ref h7, .ref h8, .int x6, .int x7, .int x8, .int x9])), (h8, .inl (y2, 3, .inl f2)), (h7, .inl (y3, 3, .inl f3)), (h5, .inr (5, [.int x10, .int x11, .int x12, .int x13, .int x14, .int x15])), (h4, .inr (7, [.int x16, .int x17, .int x18, .int x19, .int x20]))] sz) := by
  refine Met.ofW (cc := cX8_tellSource) (maxL := 4) (ret := (some .boolean)) (by decide) rfl ?_
  intro p e s m args below meth c s₁ B hml hv
  obtain ⟨rfl, hsz, hP, hK, hD0⟩ := hv
  have hx := B.exec
  have hb := B.bytes
  have hr := B.returns
  have hts0 := atoms_spec (ws := Cond.code yX8_tellSource cX8_tellSource 4 (some .boolean) :: lw_G) B.pre
  have hG : ∀ w ∈ lw_G, w.before _ s = true := fun w h => hts0 w (List.mem_cons_of_mem _ h)
  have hown : s.vm.findClass RX8 = some m.cls := findClass_of_methodNamed B.named
  have hlocks := B.notSynchronized
  subst hsz
  have hD := hD0.self (sz := s.heap.size)
  generalize hAe : va_A [(h0, .inr (8, [.ref h1, .ref h2, .int x3, .int x4, .int x5])), (h1, .inl (y0, 64, .inl f0)), (h2, .inr (1, [.ref h3, .ref h4, .ref h5, .ref h6])), (h3, .inl (y1, 32768, .inl f1)), (h6, .inr (9, [.ref h7, .ref h8, .int x6, .int x7, .int x8, .int x9])), (h8, .inl (y2, 3, .inl f2)), (h7, .inl (y3, 3, .inl f3)), (h5, .inr (5, [.int x10, .int x11, .int x12, .int x13, .int x14, .int x15])), (h4, .inr (7, [.int x16, .int x17, .int x18, .int x19, .int x20]))] s.heap.size = A at hD ⊢
  have hA : ∀ q : Nat, s.heap.size ≤ q → A q := fun q h => by rw [← hAe]; exact Or.inr h
  have hS : va_S A s.heap s.heap [] := va_S.rf
  have hP : va_P (dC, dI) vwCl [(h0, .inr (8, [.ref h1, .ref h2, .int x3, .int x4, .int x5])), (h1, .inl (y0, 64, .inl f0)), (h2, .inr (1, [.ref h3, .ref h4, .ref h5, .ref h6])), (h3, .inl (y1, 32768, .inl f1)), (h6, .inr (9, [.ref h7, .ref h8, .int x6, .int x7, .int x8, .int x9])), (h8, .inl (y2, 3, .inl f2)), (h7, .inl (y3, 3, .inl f3)), (h5, .inr (5, [.int x10, .int x11, .int x12, .int x13, .int x14, .int x15])), (h4, .inr (7, [.int x16, .int x17, .int x18, .int x19, .int x20]))] s.heap := hP
  have hl := lv_entry ([.ref h0, .int x0, .int x1, .int x2]) (n := 4) (Nat.le_of_ble_eq_true rfl)
  rw [lg_entry_eq]
  generalize (lg_sl ([.ref h0, .int x0, .int x1, .int x2]) ++ List.replicate (4 - (lg_sl ([.ref h0, .int x0, .int x1, .int x2])).length) Slot.unset).toArray = ls at hl ⊢
  have hl : lv_has ls 4 [(0, .ref h0), (1, .int x0), (2, .int x1), (3, .int x2)] := hl
  generalize ([.ref h0, .int x0, .int x1, .int x2] : List Value).toArray = ar at hG ⊢
  refine wq (fun Q hQ => ?_)
  refine lv_iload_n hx hb dX8_tellSource_0 rfl (lv_at hl 1 rfl) ?_
  refine lv_if_ne (tgt := 28) hx hb dX8_tellSource_1 (by decide) (fun c1 => ?_) (fun c1 => ?_)
  · skip
    refine lv_iload_n hx hb dX8_tellSource_28 rfl (lv_at hl 1 rfl) ?_
    refine lv_iload_n hx hb dX8_tellSource_29 rfl (lv_at hl 2 rfl) ?_
    obtain ⟨hPc, hDc, hFc⟩ := nv_sub3 (wc := []) hP hD hS hA [] (by decide) rfl
    have hKc := hK.sub (tys' := []) [] rfl
    refine va_calli (va_runS (As := [.int x0, .int x1]) (rest := []) ⟨hx, hb, hml, hown, hG⟩ (cX2_isConstant_1 l dC dI s.heap.size x0 x1) (va_cwS 2 hG (gS wd_1215 wd_1021 wd_6 wd_1022) rfl rfl rfl (by decide +kernel) ⟨Nat.le_of_ble_eq_true rfl, Nat.le_of_ble_eq_true rfl⟩) ⟨fun a U g mk q => by obtain ⟨q0, q1, qP, qK, qD⟩ := q; exact ⟨q0, q1, qP, va_K.moved (u := U) (U := U.calling g mk a) (Vm.Alike.refl U.vm) qK, qD⟩, fun U hU hW => ⟨rfl, by rw [hU], by rw [hU]; exact hPc, va_K.moved hW.alike hKc, hDc.weaken (fun _ _ _ _ => trivial)⟩⟩ rfl rfl hl.1 rfl (lv_room (Nat.le_of_ble_eq_true rfl)) dX8_tellSource_30 ⟨by decide, by decide⟩) hS (fun q _ h => hFc q h) hFc (fun r2 u3 t H1 locs ht hvm hw hB hz1 hk1 hS => ?_)
    have hw : iv r2 0 1 ∧ True := hw
    obtain ⟨ir2, -⟩ := hw
    obtain ⟨hP1, hK1, hD1⟩ := hB
    rw [ht] at hP1
    have hK1 := va_K.moved hvm.symm hK1
    obtain ⟨hP, hD⟩ := nv_join (wf := [(h0, .inr (8, [.ref h1, .ref h2, .int x3, .int x4, .int x5])), (h1, .inl (y0, 64, .inl f0)), (h2, .inr (1, [.ref h3, .ref h4, .ref h5, .ref h6])), (h3, .inl (y1, 32768, .inl f1)), (h6, .inr (9, [.ref h7, .ref h8, .int x6, .int x7, .int x8, .int x9])), (h8, .inl (y2, 3, .inl f2)), (h7, .inl (y3, 3, .inl f3)), (h5, .inr (5, [.int x10, .int x11, .int x12, .int x13, .int x14, .int x15])), (h4, .inr (7, [.int x16, .int x17, .int x18, .int x19, .int x20]))]) hP hD [] [0, 1, 2, 3, 4, 5, 6, 7, 8] rfl rfl (by decide) (by decide) hk1 hFc hP1 hD1 rfl
    have hK := (hK.sub (tys' := [(y0, .int), (y1, .int), (y2, .int), (y3, .int)]) [0, 1, 2, 3] rfl).app hK1
    generalize H1 = H at hP hS ⊢
    have hK : va_K (dC, dI) vwCl [(y0, .int), (y1, .int), (y2, .int), (y3, .int)] s := hK
    refine lv_if_eq (tgt := 47) hx hb dX8_tellSource_33 (by decide) (fun c4 => ?_) (fun c4 => ?_)
    · skip
      subst c4
      refine lv_iload_n hx hb dX8_tellSource_47 rfl (lv_at hl 1 rfl) ?_
      refine lv_iconst (v := 1) hx hb dX8_tellSource_48 (by decide) ?_
      refine lv_icmp_ne (tgt := 58) hx hb dX8_tellSource_49 (by decide) (fun c5 => ?_) (fun c5 => ?_)
      · skip
        refine lv_iload_n hx hb dX8_tellSource_58 rfl (lv_at hl 2 rfl) ?_
        refine lv_if_ne (tgt := 81) hx hb dX8_tellSource_59 (by decide) (fun c6 => ?_) (fun c6 => ?_)
        · skip
          refine lv_aload_n hx hb dX8_tellSource_81 rfl (lv_at hl 0 rfl) ?_
          refine lv_bipush (v := 64) hx hb dX8_tellSource_82 (by decide) ?_
          obtain ⟨hPc, hDc, hFc⟩ := nv_sub3 (wc := [(h0, .inr (8, [.ref h1, .ref h2, .int x3, .int x4, .int x5])), (h1, .inl (y0, 64, .inl f0))]) hP hD hS hA [0, 1] (by decide) rfl
          have hKc := hK.sub (tys' := [(y0, .int)]) [0] rfl
          refine va_callv (va_runV (As := [.int 64]) (rest := []) ⟨hx, hb, hml, hown, hG⟩ (cX8_put_1 l dC dI h0 h1 h2 y0 H.size 64 x3 x4 x5 f0 ix3) (cwV 1 hG (gV wd_1194 wd_1196 wp_57 wd_16 wd_1197) rfl rfl rfl (by decide +kernel) ⟨Nat.le_of_ble_eq_true rfl, Nat.le_of_ble_eq_true rfl⟩) ⟨fun a U g mk q => by obtain ⟨q0, q1, qP, qK, qD⟩ := q; exact ⟨q0, q1, qP, va_K.moved (u := U) (U := U.calling g mk a) (Vm.Alike.refl U.vm) qK, qD⟩, va_recv hKc hPc (ci := 8) (q0 := 0) rfl rfl, fun U hU hW => ⟨rfl, by rw [hU], by rw [hU]; exact hPc, va_K.moved hW.alike hKc, hDc.weaken (fun _ _ _ _ => trivial)⟩⟩ rfl rfl hl.1 rfl (lv_room (Nat.le_of_ble_eq_true rfl)) dX8_tellSource_84 ⟨by decide, by decide⟩) hS (fun q _ h => hFc q h) hFc (fun u8 t H1 locs ht hvm hw hB hz1 hk1 hS => ?_)
          obtain ⟨u8_0, u8_1⟩ := u8
          have hw : iv u8_0 1 64 ∧ True := hw
          obtain ⟨iu8_0, -⟩ := hw
          obtain ⟨hP1, hK1, hD1⟩ := hB
          rw [ht] at hP1
          have hK1 := va_K.moved hvm.symm hK1
          obtain ⟨hP, hD⟩ := nv_join (wf := [(h2, .inr (1, [.ref h3, .ref h4, .ref h5, .ref h6])), (h3, .inl (y1, 32768, .inl f1)), (h6, .inr (9, [.ref h7, .ref h8, .int x6, .int x7, .int x8, .int x9])), (h8, .inl (y2, 3, .inl f2)), (h7, .inl (y3, 3, .inl f3)), (h5, .inr (5, [.int x10, .int x11, .int x12, .int x13, .int x14, .int x15])), (h4, .inr (7, [.int x16, .int x17, .int x18, .int x19, .int x20])), (h0, .inr (8, [.ref h1, .ref h2, .int u8_0, .int x4, .int x5])), (h1, .inl (y0, 64, .inl u8_1))]) hP hD [0, 1] [2, 3, 4, 5, 6, 7, 8] rfl rfl (by decide) (by decide) hk1 hFc hP1 hD1 rfl
          have hK := (hK.sub (tys' := [(y1, .int), (y2, .int), (y3, .int)]) [1, 2, 3] rfl).app hK1
          generalize H1 = H at hP hS ⊢
          have hK : va_K (dC, dI) vwCl [(y1, .int), (y2, .int), (y3, .int), (y0, .int)] s := hK
          refine lv_aload_n hx hb dX8_tellSource_87 rfl (lv_at hl 0 rfl) ?_
          refine lv_iload_n hx hb dX8_tellSource_88 rfl (lv_at hl 2 rfl) ?_
          obtain ⟨hPc, hDc, hFc⟩ := nv_sub3 (wc := [(h0, .inr (8, [.ref h1, .ref h2, .int u8_0, .int x4, .int x5])), (h1, .inl (y0, 64, .inl u8_1))]) hP hD hS hA [7, 8] (by decide) rfl
          have hKc := hK.sub (tys' := [(y0, .int)]) [3] rfl
          refine va_callv (va_runV (As := [.int x1]) (rest := []) ⟨hx, hb, hml, hown, hG⟩ (cX8_putRegister_1 l dC dI h0 h1 h2 y0 H.size x1 u8_0 x4 x5 u8_1 (iv_w iu8_0 (by decide) (by decide))) (cwV 1 hG (gV wd_1211 wd_1213 wp_61 wd_16 wd_1214) rfl rfl rfl (by decide +kernel) ⟨Nat.le_of_ble_eq_true rfl, Nat.le_of_ble_eq_true rfl⟩) ⟨fun a U g mk q => by obtain ⟨q0, q1, qP, qK, qD⟩ := q; exact ⟨q0, q1, qP, va_K.moved (u := U) (U := U.calling g mk a) (Vm.Alike.refl U.vm) qK, qD⟩, va_recv hKc hPc (ci := 8) (q0 := 0) rfl rfl, fun U hU hW => ⟨rfl, by rw [hU], by rw [hU]; exact hPc, va_K.moved hW.alike hKc, hDc.weaken (fun _ _ _ _ => trivial)⟩⟩ rfl rfl hl.1 rfl (lv_room (Nat.le_of_ble_eq_true rfl)) dX8_tellSource_89 ⟨by decide, by decide⟩) hS (fun q _ h => hFc q h) hFc (fun u10 t H1 locs ht hvm hw hB hz1 hk1 hS => ?_)
          obtain ⟨u10_0, u10_1⟩ := u10
          have hw : iv u10_0 1 64 ∧ True := hw
          obtain ⟨iu10_0, -⟩ := hw
          obtain ⟨hP1, hK1, hD1⟩ := hB
          rw [ht] at hP1
          have hK1 := va_K.moved hvm.symm hK1
          obtain ⟨hP, hD⟩ := nv_join (wf := [(h2, .inr (1, [.ref h3, .ref h4, .ref h5, .ref h6])), (h3, .inl (y1, 32768, .inl f1)), (h6, .inr (9, [.ref h7, .ref h8, .int x6, .int x7, .int x8, .int x9])), (h8, .inl (y2, 3, .inl f2)), (h7, .inl (y3, 3, .inl f3)), (h5, .inr (5, [.int x10, .int x11, .int x12, .int x13, .int x14, .int x15])), (h4, .inr (7, [.int x16, .int x17, .int x18, .int x19, .int x20])), (h0, .inr (8, [.ref h1, .ref h2, .int u10_0, .int x4, .int x5])), (h1, .inl (y0, 64, .inl u10_1))]) hP hD [7, 8] [0, 1, 2, 3, 4, 5, 6] rfl rfl (by decide) (by decide) hk1 hFc hP1 hD1 rfl
          have hK := (hK.sub (tys' := [(y1, .int), (y2, .int), (y3, .int)]) [0, 1, 2] rfl).app hK1
          generalize H1 = H at hP hS ⊢
          have hK : va_K (dC, dI) vwCl [(y1, .int), (y2, .int), (y3, .int), (y0, .int)] s := hK
          refine lv_iload_n hx hb dX8_tellSource_92 rfl (lv_at hl 1 rfl) ?_
          refine lv_iconst (v := 3) hx hb dX8_tellSource_93 (by decide) ?_
          refine jcut (a := ∀ (b14 : Int32) (b15 : Nat → Int32) (ib14 : iv b14 1 64) (H : Heap) (locs : List Loc) (hK : va_K (dC, dI) vwCl [(y1, .int), (y2, .int), (y3, .int), (y0, .int)] s) (hP : va_P (dC, dI) vwCl [(h2, .inr (1, [.ref h3, .ref h4, .ref h5, .ref h6])), (h3, .inl (y1, 32768, .inl f1)), (h6, .inr (9, [.ref h7, .ref h8, .int x6, .int x7, .int x8, .int x9])), (h8, .inl (y2, 3, .inl f2)), (h7, .inl (y3, 3, .inl f3)), (h5, .inr (5, [.int x10, .int x11, .int x12, .int x13, .int x14, .int x15])), (h4, .inr (7, [.int x16, .int x17, .int x18, .int x19, .int x20])), (h0, .inr (8, [.ref h1, .ref h2, .int b14, .int x4, .int x5])), (h1, .inl (y0, 64, .inl b15))] H) (hD : va_D A [(h2, .inr (1, [.ref h3, .ref h4, .ref h5, .ref h6])), (h3, .inl (y1, 32768, .inl f1)), (h6, .inr (9, [.ref h7, .ref h8, .int x6, .int x7, .int x8, .int x9])), (h8, .inl (y2, 3, .inl f2)), (h7, .inl (y3, 3, .inl f3)), (h5, .inr (5, [.int x10, .int x11, .int x12, .int x13, .int x14, .int x15])), (h4, .inr (7, [.int x16, .int x17, .int x18, .int x19, .int x20])), (h0, .inr (8, [.ref h1, .ref h2, .int b14, .int x4, .int x5])), (h1, .inl (y0, 64, .inl b15))]) (hS : va_S A s.heap H locs) (ls : Array Slot) (hl : lv_has ls 4 []), W p l e (headSpec (Cond.code yX8_tellSource cX8_tellSource 4 (some .boolean) :: lw_G) ({ frames := 4, cells := 0, slots := 0, locals := 87 })).room s m ar below meth c H locs 0 0 Q (F0 m 103 ls [])) ?_ (fun j16 => ?_)
          · skip
            intro b14 b15 ib14 H locs hK hP hD hS ls hl
            refine lv_iconst (v := 1) hx hb dX8_tellSource_103 (by decide) ?_
            rw [hQ]
            obtain ⟨hP9, hD9⟩ := nv_sub2 (wc := [(h0, .inr (8, [.ref h1, .ref h2, .int b14, .int x4, .int x5])), (h1, .inl (y0, 64, .inl b15)), (h2, .inr (1, [.ref h3, .ref h4, .ref h5, .ref h6])), (h3, .inl (y1, 32768, .inl f1)), (h6, .inr (9, [.ref h7, .ref h8, .int x6, .int x7, .int x8, .int x9])), (h8, .inl (y2, 3, .inl f2)), (h7, .inl (y3, 3, .inl f3)), (h5, .inr (5, [.int x10, .int x11, .int x12, .int x13, .int x14, .int x15])), (h4, .inr (7, [.int x16, .int x17, .int x18, .int x19, .int x20]))]) hP hD [7, 8, 0, 1, 2, 3, 4, 5, 6] (by decide) rfl
            have hK9 := hK.sub (tys' := [(y0, .int), (y1, .int), (y2, .int), (y3, .int)]) [3, 0, 1, 2] rfl
            exact W.zret (v := 1) hx hb hr rfl (fun t ht hW => ⟨⟨1, (b14, x5, b15), rfl, ⟨iv_w (by decide : iv 1 1 1) (by decide) (by decide), iv_w ib14 (by decide) (by decide), trivial⟩, by rw [ht]; exact hP9, va_K.moved hW.alike hK9, hD9⟩, hS.F ht⟩) hS.2.2 dX8_tellSource_104
          refine lv_icmp_ne (tgt := 103) hx hb dX8_tellSource_94 (by decide) (fun c11 => ?_) (fun c11 => ?_)
          · skip
            exact j16 u10_0 u10_1 iu10_0 _ _ hK hP hD hS ls (lv_sub hl [] rfl)
          · skip
            subst c11
            refine lv_aload_n hx hb dX8_tellSource_97 rfl (lv_at hl 0 rfl) ?_
            refine lv_bipush (v := 43) hx hb dX8_tellSource_98 (by decide) ?_
            obtain ⟨hPc, hDc, hFc⟩ := nv_sub3 (wc := [(h0, .inr (8, [.ref h1, .ref h2, .int u10_0, .int x4, .int x5])), (h1, .inl (y0, 64, .inl u10_1))]) hP hD hS hA [7, 8] (by decide) rfl
            have hKc := hK.sub (tys' := [(y0, .int)]) [3] rfl
            refine va_callv (va_runV (As := [.int 43]) (rest := []) ⟨hx, hb, hml, hown, hG⟩ (cX8_put_1 l dC dI h0 h1 h2 y0 H.size 43 u10_0 x4 x5 u10_1 (iv_w iu10_0 (by decide) (by decide))) (cwV 1 hG (gV wd_1194 wd_1196 wp_57 wd_16 wd_1197) rfl rfl rfl (by decide +kernel) ⟨Nat.le_of_ble_eq_true rfl, Nat.le_of_ble_eq_true rfl⟩) ⟨fun a U g mk q => by obtain ⟨q0, q1, qP, qK, qD⟩ := q; exact ⟨q0, q1, qP, va_K.moved (u := U) (U := U.calling g mk a) (Vm.Alike.refl U.vm) qK, qD⟩, va_recv hKc hPc (ci := 8) (q0 := 0) rfl rfl, fun U hU hW => ⟨rfl, by rw [hU], by rw [hU]; exact hPc, va_K.moved hW.alike hKc, hDc.weaken (fun _ _ _ _ => trivial)⟩⟩ rfl rfl hl.1 rfl (lv_room (Nat.le_of_ble_eq_true rfl)) dX8_tellSource_100 ⟨by decide, by decide⟩) hS (fun q _ h => hFc q h) hFc (fun u18 t H1 locs ht hvm hw hB hz1 hk1 hS => ?_)
            obtain ⟨u18_0, u18_1⟩ := u18
            have hw : iv u18_0 1 64 ∧ True := hw
            obtain ⟨iu18_0, -⟩ := hw
            obtain ⟨hP1, hK1, hD1⟩ := hB
            rw [ht] at hP1
            have hK1 := va_K.moved hvm.symm hK1
            obtain ⟨hP, hD⟩ := nv_join (wf := [(h2, .inr (1, [.ref h3, .ref h4, .ref h5, .ref h6])), (h3, .inl (y1, 32768, .inl f1)), (h6, .inr (9, [.ref h7, .ref h8, .int x6, .int x7, .int x8, .int x9])), (h8, .inl (y2, 3, .inl f2)), (h7, .inl (y3, 3, .inl f3)), (h5, .inr (5, [.int x10, .int x11, .int x12, .int x13, .int x14, .int x15])), (h4, .inr (7, [.int x16, .int x17, .int x18, .int x19, .int x20])), (h0, .inr (8, [.ref h1, .ref h2, .int u18_0, .int x4, .int x5])), (h1, .inl (y0, 64, .inl u18_1))]) hP hD [7, 8] [0, 1, 2, 3, 4, 5, 6] rfl rfl (by decide) (by decide) hk1 hFc hP1 hD1 rfl
            have hK := (hK.sub (tys' := [(y1, .int), (y2, .int), (y3, .int)]) [0, 1, 2] rfl).app hK1
            generalize H1 = H at hP hS ⊢
            have hK : va_K (dC, dI) vwCl [(y1, .int), (y2, .int), (y3, .int), (y0, .int)] s := hK
            exact j16 u18_0 u18_1 iu18_0 _ _ hK hP hD hS ls (lv_sub hl [] rfl)
        · skip
          subst c6
          refine lv_iload_n hx hb dX8_tellSource_62 rfl (lv_at hl 1 rfl) ?_
          refine lv_iconst (v := 3) hx hb dX8_tellSource_63 (by decide) ?_
          refine jcut (a := ∀ (b24 : Int32) (b25 : Int32) (b26 : Int32) (b27 : Nat → Int32) (ib24 : iv b24 0 1) (ib25 : iv b25 0 64) (H : Heap) (locs : List Loc) (hK : va_K (dC, dI) vwCl [(y0, .int), (y1, .int), (y2, .int), (y3, .int)] s) (hP : va_P (dC, dI) vwCl [(h0, .inr (8, [.ref h1, .ref h2, .int b25, .int x4, .int b26])), (h1, .inl (y0, 64, .inl b27)), (h2, .inr (1, [.ref h3, .ref h4, .ref h5, .ref h6])), (h3, .inl (y1, 32768, .inl f1)), (h6, .inr (9, [.ref h7, .ref h8, .int x6, .int x7, .int x8, .int x9])), (h8, .inl (y2, 3, .inl f2)), (h7, .inl (y3, 3, .inl f3)), (h5, .inr (5, [.int x10, .int x11, .int x12, .int x13, .int x14, .int x15])), (h4, .inr (7, [.int x16, .int x17, .int x18, .int x19, .int x20]))] H) (hD : va_D A [(h0, .inr (8, [.ref h1, .ref h2, .int b25, .int x4, .int b26])), (h1, .inl (y0, 64, .inl b27)), (h2, .inr (1, [.ref h3, .ref h4, .ref h5, .ref h6])), (h3, .inl (y1, 32768, .inl f1)), (h6, .inr (9, [.ref h7, .ref h8, .int x6, .int x7, .int x8, .int x9])), (h8, .inl (y2, 3, .inl f2)), (h7, .inl (y3, 3, .inl f3)), (h5, .inr (5, [.int x10, .int x11, .int x12, .int x13, .int x14, .int x15])), (h4, .inr (7, [.int x16, .int x17, .int x18, .int x19, .int x20]))]) (hS : va_S A s.heap H locs) (ls : Array Slot) (hl : lv_has ls 4 []), W p l e (headSpec (Cond.code yX8_tellSource cX8_tellSource 4 (some .boolean) :: lw_G) ({ frames := 4, cells := 0, slots := 0, locals := 87 })).room s m ar below meth c H locs 0 0 Q (F0 m 80 ls [.int b24])) ?_ (fun j28 => ?_)
          · skip
            intro b24 b25 b26 b27 ib24 ib25 H locs hK hP hD hS ls hl
            rw [hQ]
            obtain ⟨hP9, hD9⟩ := nv_sub2 (wc := [(h0, .inr (8, [.ref h1, .ref h2, .int b25, .int x4, .int b26])), (h1, .inl (y0, 64, .inl b27)), (h2, .inr (1, [.ref h3, .ref h4, .ref h5, .ref h6])), (h3, .inl (y1, 32768, .inl f1)), (h6, .inr (9, [.ref h7, .ref h8, .int x6, .int x7, .int x8, .int x9])), (h8, .inl (y2, 3, .inl f2)), (h7, .inl (y3, 3, .inl f3)), (h5, .inr (5, [.int x10, .int x11, .int x12, .int x13, .int x14, .int x15])), (h4, .inr (7, [.int x16, .int x17, .int x18, .int x19, .int x20]))]) hP hD [0, 1, 2, 3, 4, 5, 6, 7, 8] (by decide) rfl
            have hK9 := hK.sub (tys' := [(y0, .int), (y1, .int), (y2, .int), (y3, .int)]) [0, 1, 2, 3] rfl
            exact W.zret (v := b24) hx hb hr (iv_z (iv_w ib24 (by decide) (by decide))).1 (fun t ht hW => ⟨⟨b24, (b25, b26, b27), rfl, ⟨iv_w ib24 (by decide) (by decide), iv_w ib25 (by decide) (by decide), trivial⟩, by rw [ht]; exact hP9, va_K.moved hW.alike hK9, hD9⟩, hS.F ht⟩) hS.2.2 dX8_tellSource_80
          refine lv_icmp_ne (tgt := 79) hx hb dX8_tellSource_64 (by decide) (fun c19 => ?_) (fun c19 => ?_)
          · skip
            refine lv_iconst (v := 0) hx hb dX8_tellSource_79 (by decide) ?_
            exact j28 0 x3 x5 f0 (iv_w (by decide : iv 0 0 0) (by decide) (by decide)) ix3 _ _ hK hP hD hS ls (lv_sub hl [] rfl)
          · skip
            subst c19
            refine lv_aload_n hx hb dX8_tellSource_67 rfl (lv_at hl 0 rfl) ?_
            refine lv_iload_n hx hb dX8_tellSource_68 rfl (lv_at hl 3 rfl) ?_
            obtain ⟨hPc, hDc, hFc⟩ := nv_sub3 (wc := [(h0, .inr (8, [.ref h1, .ref h2, .int x3, .int x4, .int x5])), (h2, .inr (1, [.ref h3, .ref h4, .ref h5, .ref h6])), (h3, .inl (y1, 32768, .inl f1)), (h6, .inr (9, [.ref h7, .ref h8, .int x6, .int x7, .int x8, .int x9])), (h8, .inl (y2, 3, .inl f2)), (h7, .inl (y3, 3, .inl f3)), (h5, .inr (5, [.int x10, .int x11, .int x12, .int x13, .int x14, .int x15])), (h4, .inr (7, [.int x16, .int x17, .int x18, .int x19, .int x20])), (h1, .inl (y0, 64, .inl f0))]) hP hD hS hA [0, 2, 3, 4, 5, 6, 7, 8, 1] (by decide) rfl
            have hKc := hK.sub (tys' := [(y1, .int), (y2, .int), (y3, .int), (y0, .int)]) [1, 2, 3, 0] rfl
            refine va_calli (va_runV (As := [.int x2]) (rest := []) ⟨hx, hb, hml, hown, hG⟩ (cX8_tellNextNumber_1 l dC dI h0 h1 h2 h3 h4 h5 h6 h7 h8 y1 y2 y3 y0 H.size x2 x3 x4 x5 x6 x7 x8 x9 x10 x11 x12 x13 x14 x15 x16 x17 x18 x19 x20 f1 f2 f3 f0 ix2 ix3 ix9) (cwV 1 hG (gV wd_1222 wd_1224 wp_63 wd_16 wd_1225) rfl rfl rfl (by decide +kernel) ⟨Nat.le_of_ble_eq_true rfl, Nat.le_of_ble_eq_true rfl⟩) ⟨fun a U g mk q => by obtain ⟨q0, q1, qP, qK, qD⟩ := q; exact ⟨q0, q1, qP, va_K.moved (u := U) (U := U.calling g mk a) (Vm.Alike.refl U.vm) qK, qD⟩, va_recv hKc hPc (ci := 8) (q0 := 0) rfl rfl, fun U hU hW => ⟨rfl, by rw [hU], by rw [hU]; exact hPc, va_K.moved hW.alike hKc, hDc.weaken (fun _ _ _ _ => trivial)⟩⟩ rfl rfl hl.1 rfl (lv_room (Nat.le_of_ble_eq_true rfl)) dX8_tellSource_69 ⟨by decide, by decide⟩) hS (fun q _ h => hFc q h) hFc (fun r29 u30 t H1 locs ht hvm hw hB hz1 hk1 hS => ?_)
            obtain ⟨u30_0, u30_1, u30_2⟩ := u30
            have hw : iv r29 0 1 ∧ iv u30_0 0 64 ∧ iv u30_1 (-2147483646) 2147483647 ∧ True := hw
            obtain ⟨ir29, iu30_0, iu30_1, -⟩ := hw
            obtain ⟨hP1, hK1, hD1⟩ := hB
            rw [ht] at hP1
            have hK1 := va_K.moved hvm.symm hK1
            obtain ⟨hP, hD⟩ := nv_join (wf := [(h0, .inr (8, [.ref h1, .ref h2, .int u30_0, .int x4, .int u30_1])), (h2, .inr (1, [.ref h3, .ref h4, .ref h5, .ref h6])), (h3, .inl (y1, 32768, .inl f1)), (h6, .inr (9, [.ref h7, .ref h8, .int x6, .int x7, .int x8, .int x9])), (h8, .inl (y2, 3, .inl f2)), (h7, .inl (y3, 3, .inl f3)), (h5, .inr (5, [.int x10, .int x11, .int x12, .int x13, .int x14, .int x15])), (h4, .inr (7, [.int x16, .int x17, .int x18, .int x19, .int x20])), (h1, .inl (y0, 64, .inl u30_2))]) hP hD [0, 2, 3, 4, 5, 6, 7, 8, 1] [] rfl rfl (by decide) (by decide) hk1 hFc hP1 hD1 rfl
            have hK := (hK.sub (tys' := []) [] rfl).app hK1
            generalize H1 = H at hP hS ⊢
            have hK : va_K (dC, dI) vwCl [(y1, .int), (y2, .int), (y3, .int), (y0, .int)] s := hK
            refine lv_if_eq (tgt := 79) hx hb dX8_tellSource_72 (by decide) (fun c31 => ?_) (fun c31 => ?_)
            · skip
              subst c31
              refine lv_iconst (v := 0) hx hb dX8_tellSource_79 (by decide) ?_
              exact j28 0 u30_0 u30_1 u30_2 (iv_w (by decide : iv 0 0 0) (by decide) (by decide)) iu30_0 _ _ (hK.sub (tys' := _) [3, 0, 1, 2] rfl) (hP.sub (ws' := _) [0, 8, 1, 2, 3, 4, 5, 6, 7] rfl) (hD.sub (ws' := _) [0, 8, 1, 2, 3, 4, 5, 6, 7] (by decide) rfl) hS ls (lv_sub hl [] rfl)
            · skip
              have j32 : iv r29 1 1 := iv_neLo ir29 (by decide : iv 0 0 0) c31 (by decide)
              refine lv_iconst (v := 1) hx hb dX8_tellSource_75 (by decide) ?_
              refine lv_goto (tgt := 80) hx hb dX8_tellSource_76 (by decide) ?_
              exact j28 1 u30_0 u30_1 u30_2 (iv_w (by decide : iv 1 1 1) (by decide) (by decide)) iu30_0 _ _ (hK.sub (tys' := _) [3, 0, 1, 2] rfl) (hP.sub (ws' := _) [0, 8, 1, 2, 3, 4, 5, 6, 7] rfl) (hD.sub (ws' := _) [0, 8, 1, 2, 3, 4, 5, 6, 7] (by decide) rfl) hS ls (lv_sub hl [] rfl)
      · skip
        subst c5
        refine lv_aload_n hx hb dX8_tellSource_52 rfl (lv_at hl 0 rfl) ?_
        refine lv_iload_n hx hb dX8_tellSource_53 rfl (lv_at hl 2 rfl) ?_
        obtain ⟨hPc, hDc, hFc⟩ := nv_sub3 (wc := [(h0, .inr (8, [.ref h1, .ref h2, .int x3, .int x4, .int x5])), (h2, .inr (1, [.ref h3, .ref h4, .ref h5, .ref h6])), (h3, .inl (y1, 32768, .inl f1)), (h6, .inr (9, [.ref h7, .ref h8, .int x6, .int x7, .int x8, .int x9])), (h8, .inl (y2, 3, .inl f2)), (h7, .inl (y3, 3, .inl f3)), (h5, .inr (5, [.int x10, .int x11, .int x12, .int x13, .int x14, .int x15])), (h4, .inr (7, [.int x16, .int x17, .int x18, .int x19, .int x20])), (h1, .inl (y0, 64, .inl f0))]) hP hD hS hA [0, 2, 3, 4, 5, 6, 7, 8, 1] (by decide) rfl
        have hKc := hK.sub (tys' := [(y1, .int), (y2, .int), (y3, .int), (y0, .int)]) [1, 2, 3, 0] rfl
        refine va_calli (va_runV (As := [.int x1]) (rest := []) ⟨hx, hb, hml, hown, hG⟩ (cX8_tellIndexed_1 l dC dI h0 h1 h2 h3 h4 h5 h6 h7 h8 y1 y2 y3 y0 H.size x1 x3 x4 x5 x6 x7 x8 x9 x10 x11 x12 x13 x14 x15 x16 x17 x18 x19 x20 f1 f2 f3 f0 ix3 ix9) (cwV 1 hG (gV wd_1217 wd_1219 wp_62 wd_16 wd_1220) rfl rfl rfl (by decide +kernel) ⟨Nat.le_of_ble_eq_true rfl, Nat.le_of_ble_eq_true rfl⟩) ⟨fun a U g mk q => by obtain ⟨q0, q1, qP, qK, qD⟩ := q; exact ⟨q0, q1, qP, va_K.moved (u := U) (U := U.calling g mk a) (Vm.Alike.refl U.vm) qK, qD⟩, va_recv hKc hPc (ci := 8) (q0 := 0) rfl rfl, fun U hU hW => ⟨rfl, by rw [hU], by rw [hU]; exact hPc, va_K.moved hW.alike hKc, hDc.weaken (fun _ _ _ _ => trivial)⟩⟩ rfl rfl hl.1 rfl (lv_room (Nat.le_of_ble_eq_true rfl)) dX8_tellSource_54 ⟨by decide, by decide⟩) hS (fun q _ h => hFc q h) hFc (fun r33 u34 t H1 locs ht hvm hw hB hz1 hk1 hS => ?_)
        obtain ⟨u34_0, u34_1, u34_2⟩ := u34
        have hw : iv r33 0 1 ∧ iv u34_0 0 64 ∧ True := hw
        obtain ⟨ir33, iu34_0, -⟩ := hw
        obtain ⟨hP1, hK1, hD1⟩ := hB
        rw [ht] at hP1
        have hK1 := va_K.moved hvm.symm hK1
        obtain ⟨hP, hD⟩ := nv_join (wf := [(h0, .inr (8, [.ref h1, .ref h2, .int u34_0, .int x4, .int u34_1])), (h2, .inr (1, [.ref h3, .ref h4, .ref h5, .ref h6])), (h3, .inl (y1, 32768, .inl f1)), (h6, .inr (9, [.ref h7, .ref h8, .int x6, .int x7, .int x8, .int x9])), (h8, .inl (y2, 3, .inl f2)), (h7, .inl (y3, 3, .inl f3)), (h5, .inr (5, [.int x10, .int x11, .int x12, .int x13, .int x14, .int x15])), (h4, .inr (7, [.int x16, .int x17, .int x18, .int x19, .int x20])), (h1, .inl (y0, 64, .inl u34_2))]) hP hD [0, 2, 3, 4, 5, 6, 7, 8, 1] [] rfl rfl (by decide) (by decide) hk1 hFc hP1 hD1 rfl
        have hK := (hK.sub (tys' := []) [] rfl).app hK1
        generalize H1 = H at hP hS ⊢
        have hK : va_K (dC, dI) vwCl [(y1, .int), (y2, .int), (y3, .int), (y0, .int)] s := hK
        rw [hQ]
        obtain ⟨hP9, hD9⟩ := nv_sub2 (wc := [(h0, .inr (8, [.ref h1, .ref h2, .int u34_0, .int x4, .int u34_1])), (h1, .inl (y0, 64, .inl u34_2)), (h2, .inr (1, [.ref h3, .ref h4, .ref h5, .ref h6])), (h3, .inl (y1, 32768, .inl f1)), (h6, .inr (9, [.ref h7, .ref h8, .int x6, .int x7, .int x8, .int x9])), (h8, .inl (y2, 3, .inl f2)), (h7, .inl (y3, 3, .inl f3)), (h5, .inr (5, [.int x10, .int x11, .int x12, .int x13, .int x14, .int x15])), (h4, .inr (7, [.int x16, .int x17, .int x18, .int x19, .int x20]))]) hP hD [0, 8, 1, 2, 3, 4, 5, 6, 7] (by decide) rfl
        have hK9 := hK.sub (tys' := [(y0, .int), (y1, .int), (y2, .int), (y3, .int)]) [3, 0, 1, 2] rfl
        exact W.zret (v := r33) hx hb hr (iv_z (iv_w ir33 (by decide) (by decide))).1 (fun t ht hW => ⟨⟨r33, (u34_0, u34_1, u34_2), rfl, ⟨iv_w ir33 (by decide) (by decide), iv_w iu34_0 (by decide) (by decide), trivial⟩, by rw [ht]; exact hP9, va_K.moved hW.alike hK9, hD9⟩, hS.F ht⟩) hS.2.2 dX8_tellSource_57
    · skip
      have j35 : iv r2 1 1 := iv_neLo ir2 (by decide : iv 0 0 0) c4 (by decide)
      refine lv_aload_n hx hb dX8_tellSource_36 rfl (lv_at hl 0 rfl) ?_
      refine lv_iload_n hx hb dX8_tellSource_37 rfl (lv_at hl 1 rfl) ?_
      refine lv_iload_n hx hb dX8_tellSource_38 rfl (lv_at hl 2 rfl) ?_
      obtain ⟨hPc, hDc, hFc⟩ := nv_sub3 (wc := []) hP hD hS hA [] (by decide) rfl
      have hKc := hK.sub (tys' := []) [] rfl
      refine va_calli (va_runS (As := [.int x0, .int x1]) (rest := [.ref h0]) ⟨hx, hb, hml, hown, hG⟩ (cX2_constant_1 l dC dI H.size x0 x1) (va_cwS 2 hG (gS wd_1216 wd_1024 wd_6 wd_1025) rfl rfl rfl (by decide +kernel) ⟨Nat.le_of_ble_eq_true rfl, Nat.le_of_ble_eq_true rfl⟩) ⟨fun a U g mk q => by obtain ⟨q0, q1, qP, qK, qD⟩ := q; exact ⟨q0, q1, qP, va_K.moved (u := U) (U := U.calling g mk a) (Vm.Alike.refl U.vm) qK, qD⟩, fun U hU hW => ⟨rfl, by rw [hU], by rw [hU]; exact hPc, va_K.moved hW.alike hKc, hDc.weaken (fun _ _ _ _ => trivial)⟩⟩ rfl rfl hl.1 rfl (lv_room (Nat.le_of_ble_eq_true rfl)) dX8_tellSource_39 ⟨by decide, by decide⟩) hS (fun q _ h => hFc q h) hFc (fun r36 u37 t H1 locs ht hvm hw hB hz1 hk1 hS => ?_)
      obtain ⟨hP1, hK1, hD1⟩ := hB
      rw [ht] at hP1
      have hK1 := va_K.moved hvm.symm hK1
      obtain ⟨hP, hD⟩ := nv_join (wf := [(h0, .inr (8, [.ref h1, .ref h2, .int x3, .int x4, .int x5])), (h1, .inl (y0, 64, .inl f0)), (h2, .inr (1, [.ref h3, .ref h4, .ref h5, .ref h6])), (h3, .inl (y1, 32768, .inl f1)), (h6, .inr (9, [.ref h7, .ref h8, .int x6, .int x7, .int x8, .int x9])), (h8, .inl (y2, 3, .inl f2)), (h7, .inl (y3, 3, .inl f3)), (h5, .inr (5, [.int x10, .int x11, .int x12, .int x13, .int x14, .int x15])), (h4, .inr (7, [.int x16, .int x17, .int x18, .int x19, .int x20]))]) hP hD [] [0, 1, 2, 3, 4, 5, 6, 7, 8] rfl rfl (by decide) (by decide) hk1 hFc hP1 hD1 rfl
      have hK := (hK.sub (tys' := [(y0, .int), (y1, .int), (y2, .int), (y3, .int)]) [0, 1, 2, 3] rfl).app hK1
      generalize H1 = H at hP hS ⊢
      have hK : va_K (dC, dI) vwCl [(y0, .int), (y1, .int), (y2, .int), (y3, .int)] s := hK
      obtain ⟨hPc, hDc, hFc⟩ := nv_sub3 (wc := [(h0, .inr (8, [.ref h1, .ref h2, .int x3, .int x4, .int x5])), (h1, .inl (y0, 64, .inl f0))]) hP hD hS hA [0, 1] (by decide) rfl
      have hKc := hK.sub (tys' := [(y0, .int)]) [0] rfl
      refine va_callv (va_runV (As := [.int r36]) (rest := []) ⟨hx, hb, hml, hown, hG⟩ (cX8_putBehindHash_1 l dC dI h0 h1 h2 y0 H.size r36 x3 x4 x5 f0 ix3) (cwV 1 hG (gV wd_1202 wd_1204 wp_59 wd_16 wd_1205) rfl rfl rfl (by decide +kernel) ⟨Nat.le_of_ble_eq_true rfl, Nat.le_of_ble_eq_true rfl⟩) ⟨fun a U g mk q => by obtain ⟨q0, q1, qP, qK, qD⟩ := q; exact ⟨q0, q1, qP, va_K.moved (u := U) (U := U.calling g mk a) (Vm.Alike.refl U.vm) qK, qD⟩, va_recv hKc hPc (ci := 8) (q0 := 0) rfl rfl, fun U hU hW => ⟨rfl, by rw [hU], by rw [hU]; exact hPc, va_K.moved hW.alike hKc, hDc.weaken (fun _ _ _ _ => trivial)⟩⟩ rfl rfl hl.1 rfl (lv_room (Nat.le_of_ble_eq_true rfl)) dX8_tellSource_42 ⟨by decide, by decide⟩) hS (fun q _ h => hFc q h) hFc (fun u39 t H1 locs ht hvm hw hB hz1 hk1 hS => ?_)
      obtain ⟨u39_0, u39_1⟩ := u39
      have hw : iv u39_0 1 64 ∧ True := hw
      obtain ⟨iu39_0, -⟩ := hw
      obtain ⟨hP1, hK1, hD1⟩ := hB
      rw [ht] at hP1
      have hK1 := va_K.moved hvm.symm hK1
      obtain ⟨hP, hD⟩ := nv_join (wf := [(h2, .inr (1, [.ref h3, .ref h4, .ref h5, .ref h6])), (h3, .inl (y1, 32768, .inl f1)), (h6, .inr (9, [.ref h7, .ref h8, .int x6, .int x7, .int x8, .int x9])), (h8, .inl (y2, 3, .inl f2)), (h7, .inl (y3, 3, .inl f3)), (h5, .inr (5, [.int x10, .int x11, .int x12, .int x13, .int x14, .int x15])), (h4, .inr (7, [.int x16, .int x17, .int x18, .int x19, .int x20])), (h0, .inr (8, [.ref h1, .ref h2, .int u39_0, .int x4, .int x5])), (h1, .inl (y0, 64, .inl u39_1))]) hP hD [0, 1] [2, 3, 4, 5, 6, 7, 8] rfl rfl (by decide) (by decide) hk1 hFc hP1 hD1 rfl
      have hK := (hK.sub (tys' := [(y1, .int), (y2, .int), (y3, .int)]) [1, 2, 3] rfl).app hK1
      generalize H1 = H at hP hS ⊢
      have hK : va_K (dC, dI) vwCl [(y1, .int), (y2, .int), (y3, .int), (y0, .int)] s := hK
      refine lv_iload_n hx hb dX8_tellSource_45 rfl (lv_at hl 3 rfl) ?_
      rw [hQ]
      obtain ⟨hP9, hD9⟩ := nv_sub2 (wc := [(h0, .inr (8, [.ref h1, .ref h2, .int u39_0, .int x4, .int x5])), (h1, .inl (y0, 64, .inl u39_1)), (h2, .inr (1, [.ref h3, .ref h4, .ref h5, .ref h6])), (h3, .inl (y1, 32768, .inl f1)), (h6, .inr (9, [.ref h7, .ref h8, .int x6, .int x7, .int x8, .int x9])), (h8, .inl (y2, 3, .inl f2)), (h7, .inl (y3, 3, .inl f3)), (h5, .inr (5, [.int x10, .int x11, .int x12, .int x13, .int x14, .int x15])), (h4, .inr (7, [.int x16, .int x17, .int x18, .int x19, .int x20]))]) hP hD [7, 8, 0, 1, 2, 3, 4, 5, 6] (by decide) rfl
      have hK9 := hK.sub (tys' := [(y0, .int), (y1, .int), (y2, .int), (y3, .int)]) [3, 0, 1, 2] rfl
      exact W.zret (v := x2) hx hb hr (iv_z (iv_w ix2 (by decide) (by decide))).1 (fun t ht hW => ⟨⟨x2, (u39_0, x5, u39_1), rfl, ⟨iv_w ix2 (by decide) (by decide), iv_w iu39_0 (by decide) (by decide), trivial⟩, by rw [ht]; exact hP9, va_K.moved hW.alike hK9, hD9⟩, hS.F ht⟩) hS.2.2 dX8_tellSource_46
  · skip
    subst c1
    refine lv_iload_n hx hb dX8_tellSource_4 rfl (lv_at hl 2 rfl) ?_
    refine lv_iconst (v := 3) hx hb dX8_tellSource_5 (by decide) ?_
    refine jcut (a := ∀ (b49 : Int32) (b50 : Nat → Int32) (ib49 : iv b49 1 64) (H : Heap) (locs : List Loc) (hK : va_K (dC, dI) vwCl [(y1, .int), (y2, .int), (y3, .int), (y0, .int)] s) (hP : va_P (dC, dI) vwCl [(h2, .inr (1, [.ref h3, .ref h4, .ref h5, .ref h6])), (h3, .inl (y1, 32768, .inl f1)), (h6, .inr (9, [.ref h7, .ref h8, .int x6, .int x7, .int x8, .int x9])), (h8, .inl (y2, 3, .inl f2)), (h7, .inl (y3, 3, .inl f3)), (h5, .inr (5, [.int x10, .int x11, .int x12, .int x13, .int x14, .int x15])), (h4, .inr (7, [.int x16, .int x17, .int x18, .int x19, .int x20])), (h0, .inr (8, [.ref h1, .ref h2, .int b49, .int x4, .int x5])), (h1, .inl (y0, 64, .inl b50))] H) (hD : va_D A [(h2, .inr (1, [.ref h3, .ref h4, .ref h5, .ref h6])), (h3, .inl (y1, 32768, .inl f1)), (h6, .inr (9, [.ref h7, .ref h8, .int x6, .int x7, .int x8, .int x9])), (h8, .inl (y2, 3, .inl f2)), (h7, .inl (y3, 3, .inl f3)), (h5, .inr (5, [.int x10, .int x11, .int x12, .int x13, .int x14, .int x15])), (h4, .inr (7, [.int x16, .int x17, .int x18, .int x19, .int x20])), (h0, .inr (8, [.ref h1, .ref h2, .int b49, .int x4, .int x5])), (h1, .inl (y0, 64, .inl b50))]) (hS : va_S A s.heap H locs) (ls : Array Slot) (hl : lv_has ls 4 []), W p l e (headSpec (Cond.code yX8_tellSource cX8_tellSource 4 (some .boolean) :: lw_G) ({ frames := 4, cells := 0, slots := 0, locals := 87 })).room s m ar below meth c H locs 0 0 Q (F0 m 26 ls [])) ?_ (fun j51 => ?_)
    · skip
      intro b49 b50 ib49 H locs hK hP hD hS ls hl
      refine lv_iconst (v := 1) hx hb dX8_tellSource_26 (by decide) ?_
      rw [hQ]
      obtain ⟨hP9, hD9⟩ := nv_sub2 (wc := [(h0, .inr (8, [.ref h1, .ref h2, .int b49, .int x4, .int x5])), (h1, .inl (y0, 64, .inl b50)), (h2, .inr (1, [.ref h3, .ref h4, .ref h5, .ref h6])), (h3, .inl (y1, 32768, .inl f1)), (h6, .inr (9, [.ref h7, .ref h8, .int x6, .int x7, .int x8, .int x9])), (h8, .inl (y2, 3, .inl f2)), (h7, .inl (y3, 3, .inl f3)), (h5, .inr (5, [.int x10, .int x11, .int x12, .int x13, .int x14, .int x15])), (h4, .inr (7, [.int x16, .int x17, .int x18, .int x19, .int x20]))]) hP hD [7, 8, 0, 1, 2, 3, 4, 5, 6] (by decide) rfl
      have hK9 := hK.sub (tys' := [(y0, .int), (y1, .int), (y2, .int), (y3, .int)]) [3, 0, 1, 2] rfl
      exact W.zret (v := 1) hx hb hr rfl (fun t ht hW => ⟨⟨1, (b49, x5, b50), rfl, ⟨iv_w (by decide : iv 1 1 1) (by decide) (by decide), iv_w ib49 (by decide) (by decide), trivial⟩, by rw [ht]; exact hP9, va_K.moved hW.alike hK9, hD9⟩, hS.F ht⟩) hS.2.2 dX8_tellSource_27
    refine lv_icmp_ne (tgt := 21) hx hb dX8_tellSource_6 (by decide) (fun c40 => ?_) (fun c40 => ?_)
    · skip
      refine lv_aload_n hx hb dX8_tellSource_21 rfl (lv_at hl 0 rfl) ?_
      refine lv_iload_n hx hb dX8_tellSource_22 rfl (lv_at hl 2 rfl) ?_
      obtain ⟨hPc, hDc, hFc⟩ := nv_sub3 (wc := [(h0, .inr (8, [.ref h1, .ref h2, .int x3, .int x4, .int x5])), (h1, .inl (y0, 64, .inl f0))]) hP hD hS hA [0, 1] (by decide) rfl
      have hKc := hK.sub (tys' := [(y0, .int)]) [0] rfl
      refine va_callv (va_runV (As := [.int x1]) (rest := []) ⟨hx, hb, hml, hown, hG⟩ (cX8_putRegister_1 l dC dI h0 h1 h2 y0 s.heap.size x1 x3 x4 x5 f0 ix3) (cwV 1 hG (gV wd_1211 wd_1213 wp_61 wd_16 wd_1214) rfl rfl rfl (by decide +kernel) ⟨Nat.le_of_ble_eq_true rfl, Nat.le_of_ble_eq_true rfl⟩) ⟨fun a U g mk q => by obtain ⟨q0, q1, qP, qK, qD⟩ := q; exact ⟨q0, q1, qP, va_K.moved (u := U) (U := U.calling g mk a) (Vm.Alike.refl U.vm) qK, qD⟩, va_recv hKc hPc (ci := 8) (q0 := 0) rfl rfl, fun U hU hW => ⟨rfl, by rw [hU], by rw [hU]; exact hPc, va_K.moved hW.alike hKc, hDc.weaken (fun _ _ _ _ => trivial)⟩⟩ rfl rfl hl.1 rfl (lv_room (Nat.le_of_ble_eq_true rfl)) dX8_tellSource_23 ⟨by decide, by decide⟩) hS (fun q _ h => hFc q h) hFc (fun u53 t H1 locs ht hvm hw hB hz1 hk1 hS => ?_)
      obtain ⟨u53_0, u53_1⟩ := u53
      have hw : iv u53_0 1 64 ∧ True := hw
      obtain ⟨iu53_0, -⟩ := hw
      obtain ⟨hP1, hK1, hD1⟩ := hB
      rw [ht] at hP1
      have hK1 := va_K.moved hvm.symm hK1
      obtain ⟨hP, hD⟩ := nv_join (wf := [(h2, .inr (1, [.ref h3, .ref h4, .ref h5, .ref h6])), (h3, .inl (y1, 32768, .inl f1)), (h6, .inr (9, [.ref h7, .ref h8, .int x6, .int x7, .int x8, .int x9])), (h8, .inl (y2, 3, .inl f2)), (h7, .inl (y3, 3, .inl f3)), (h5, .inr (5, [.int x10, .int x11, .int x12, .int x13, .int x14, .int x15])), (h4, .inr (7, [.int x16, .int x17, .int x18, .int x19, .int x20])), (h0, .inr (8, [.ref h1, .ref h2, .int u53_0, .int x4, .int x5])), (h1, .inl (y0, 64, .inl u53_1))]) hP hD [0, 1] [2, 3, 4, 5, 6, 7, 8] rfl rfl (by decide) (by decide) hk1 hFc hP1 hD1 rfl
      have hK := (hK.sub (tys' := [(y1, .int), (y2, .int), (y3, .int)]) [1, 2, 3] rfl).app hK1
      generalize H1 = H at hP hS ⊢
      have hK : va_K (dC, dI) vwCl [(y1, .int), (y2, .int), (y3, .int), (y0, .int)] s := hK
      exact j51 u53_0 u53_1 iu53_0 _ _ hK hP hD hS ls (lv_sub hl [] rfl)
    · skip
      subst c40
      refine lv_iload_n hx hb dX8_tellSource_9 rfl (lv_at hl 3 rfl) ?_
      refine lv_if_eq (tgt := 21) hx hb dX8_tellSource_10 (by decide) (fun c54 => ?_) (fun c54 => ?_)
      · skip
        subst c54
        refine lv_aload_n hx hb dX8_tellSource_21 rfl (lv_at hl 0 rfl) ?_
        refine lv_iload_n hx hb dX8_tellSource_22 rfl (lv_at hl 2 rfl) ?_
        obtain ⟨hPc, hDc, hFc⟩ := nv_sub3 (wc := [(h0, .inr (8, [.ref h1, .ref h2, .int x3, .int x4, .int x5])), (h1, .inl (y0, 64, .inl f0))]) hP hD hS hA [0, 1] (by decide) rfl
        have hKc := hK.sub (tys' := [(y0, .int)]) [0] rfl
        refine va_callv (va_runV (As := [.int 3]) (rest := []) ⟨hx, hb, hml, hown, hG⟩ (cX8_putRegister_1 l dC dI h0 h1 h2 y0 s.heap.size 3 x3 x4 x5 f0 ix3) (cwV 1 hG (gV wd_1211 wd_1213 wp_61 wd_16 wd_1214) rfl rfl rfl (by decide +kernel) ⟨Nat.le_of_ble_eq_true rfl, Nat.le_of_ble_eq_true rfl⟩) ⟨fun a U g mk q => by obtain ⟨q0, q1, qP, qK, qD⟩ := q; exact ⟨q0, q1, qP, va_K.moved (u := U) (U := U.calling g mk a) (Vm.Alike.refl U.vm) qK, qD⟩, va_recv hKc hPc (ci := 8) (q0 := 0) rfl rfl, fun U hU hW => ⟨rfl, by rw [hU], by rw [hU]; exact hPc, va_K.moved hW.alike hKc, hDc.weaken (fun _ _ _ _ => trivial)⟩⟩ rfl rfl hl.1 rfl (lv_room (Nat.le_of_ble_eq_true rfl)) dX8_tellSource_23 ⟨by decide, by decide⟩) hS (fun q _ h => hFc q h) hFc (fun u56 t H1 locs ht hvm hw hB hz1 hk1 hS => ?_)
        obtain ⟨u56_0, u56_1⟩ := u56
        have hw : iv u56_0 1 64 ∧ True := hw
        obtain ⟨iu56_0, -⟩ := hw
        obtain ⟨hP1, hK1, hD1⟩ := hB
        rw [ht] at hP1
        have hK1 := va_K.moved hvm.symm hK1
        obtain ⟨hP, hD⟩ := nv_join (wf := [(h2, .inr (1, [.ref h3, .ref h4, .ref h5, .ref h6])), (h3, .inl (y1, 32768, .inl f1)), (h6, .inr (9, [.ref h7, .ref h8, .int x6, .int x7, .int x8, .int x9])), (h8, .inl (y2, 3, .inl f2)), (h7, .inl (y3, 3, .inl f3)), (h5, .inr (5, [.int x10, .int x11, .int x12, .int x13, .int x14, .int x15])), (h4, .inr (7, [.int x16, .int x17, .int x18, .int x19, .int x20])), (h0, .inr (8, [.ref h1, .ref h2, .int u56_0, .int x4, .int x5])), (h1, .inl (y0, 64, .inl u56_1))]) hP hD [0, 1] [2, 3, 4, 5, 6, 7, 8] rfl rfl (by decide) (by decide) hk1 hFc hP1 hD1 rfl
        have hK := (hK.sub (tys' := [(y1, .int), (y2, .int), (y3, .int)]) [1, 2, 3] rfl).app hK1
        generalize H1 = H at hP hS ⊢
        have hK : va_K (dC, dI) vwCl [(y1, .int), (y2, .int), (y3, .int), (y0, .int)] s := hK
        exact j51 u56_0 u56_1 iu56_0 _ _ hK hP hD hS ls (lv_sub hl [] rfl)
      · skip
        have j57 : iv x2 1 1 := iv_neLo ix2 (by decide : iv 0 0 0) c54 (by decide)
        refine lv_aload_n hx hb dX8_tellSource_13 rfl (lv_at hl 0 rfl) ?_
        refine lv_iconst (v := 0) hx hb dX8_tellSource_14 (by decide) ?_
        obtain ⟨hPc, hDc, hFc⟩ := nv_sub3 (wc := [(h0, .inr (8, [.ref h1, .ref h2, .int x3, .int x4, .int x5])), (h1, .inl (y0, 64, .inl f0))]) hP hD hS hA [0, 1] (by decide) rfl
        have hKc := hK.sub (tys' := [(y0, .int)]) [0] rfl
        refine va_callv (va_runV (As := [.int 0]) (rest := []) ⟨hx, hb, hml, hown, hG⟩ (cX8_putBehindHash_1 l dC dI h0 h1 h2 y0 s.heap.size 0 x3 x4 x5 f0 ix3) (cwV 1 hG (gV wd_1202 wd_1204 wp_59 wd_16 wd_1205) rfl rfl rfl (by decide +kernel) ⟨Nat.le_of_ble_eq_true rfl, Nat.le_of_ble_eq_true rfl⟩) ⟨fun a U g mk q => by obtain ⟨q0, q1, qP, qK, qD⟩ := q; exact ⟨q0, q1, qP, va_K.moved (u := U) (U := U.calling g mk a) (Vm.Alike.refl U.vm) qK, qD⟩, va_recv hKc hPc (ci := 8) (q0 := 0) rfl rfl, fun U hU hW => ⟨rfl, by rw [hU], by rw [hU]; exact hPc, va_K.moved hW.alike hKc, hDc.weaken (fun _ _ _ _ => trivial)⟩⟩ rfl rfl hl.1 rfl (lv_room (Nat.le_of_ble_eq_true rfl)) dX8_tellSource_15 ⟨by decide, by decide⟩) hS (fun q _ h => hFc q h) hFc (fun u59 t H1 locs ht hvm hw hB hz1 hk1 hS => ?_)
        obtain ⟨u59_0, u59_1⟩ := u59
        have hw : iv u59_0 1 64 ∧ True := hw
        obtain ⟨iu59_0, -⟩ := hw
        obtain ⟨hP1, hK1, hD1⟩ := hB
        rw [ht] at hP1
        have hK1 := va_K.moved hvm.symm hK1
        obtain ⟨hP, hD⟩ := nv_join (wf := [(h2, .inr (1, [.ref h3, .ref h4, .ref h5, .ref h6])), (h3, .inl (y1, 32768, .inl f1)), (h6, .inr (9, [.ref h7, .ref h8, .int x6, .int x7, .int x8, .int x9])), (h8, .inl (y2, 3, .inl f2)), (h7, .inl (y3, 3, .inl f3)), (h5, .inr (5, [.int x10, .int x11, .int x12, .int x13, .int x14, .int x15])), (h4, .inr (7, [.int x16, .int x17, .int x18, .int x19, .int x20])), (h0, .inr (8, [.ref h1, .ref h2, .int u59_0, .int x4, .int x5])), (h1, .inl (y0, 64, .inl u59_1))]) hP hD [0, 1] [2, 3, 4, 5, 6, 7, 8] rfl rfl (by decide) (by decide) hk1 hFc hP1 hD1 rfl
        have hK := (hK.sub (tys' := [(y1, .int), (y2, .int), (y3, .int)]) [1, 2, 3] rfl).app hK1
        generalize H1 = H at hP hS ⊢
        have hK : va_K (dC, dI) vwCl [(y1, .int), (y2, .int), (y3, .int), (y0, .int)] s := hK
        refine lv_goto (tgt := 26) hx hb dX8_tellSource_18 (by decide) ?_
        exact j51 u59_0 u59_1 iu59_0 _ _ hK hP hD hS ls (lv_sub hl [] rfl)
