set_option maxHeartbeats 4000000 in
set_option maxRecDepth 100000 in
theorem cX11_poke_9 (l : Launch) (dC : Nat → ClassId) (dI : Nat → Nat → Nat) (h0 h1 h2 h3 h4 h5 h6 h7 h8 h9 h10 h11 : Nat) (y0 y1 y2 : ClassId) (sz : Nat) (x0 x1 : Int32) (ix0 : iv x0 0 65535) (ix1 : iv x1 0 255) : Met l yX11_poke (Cond.code yX11_poke cX11_poke 3 (some .boolean) :: lw_G) ({ frames := 4, cells := 0, slots := 0, locals := 92 }) (va_Pc [.ref h0, .int x0, .int x1] (fun U => U.heap.size = sz ∧ va_P (dC, dI) vwCl [(h0, .inr (11, [.ref h1, .ref h2, .ref h3, .ref h4, .ref h5, .int 0, .int 0])), (h2, .inr (1, [.ref h6, .ref h7, .ref h8, .ref h9])), (h6, .inl (y0, 32768, .inl (fun _ => 0))), (h9, .inr (9, [.ref h10, .ref h11, .int 0, .int 0, .int 0, .int 0])), (h11, .inl (y1, 3, .inl (fun _ => 0))), (h10, .inl (y2, 3, .inl (fun _ => 0))), (h8, .inr (5, [.int 304, .int 0, .int 0, .int 0, .int 0, .int 0])), (h7, .inr (7, [.int 0, .int 0, .int 0, .int 0, .int 0]))] U.heap ∧ va_K (dC, dI) vwCl [(y0, .int), (y1, .int), (y2, .int)] U ∧ va_D (fun _ => True) [(h0, .inr (11, [.ref h1, .ref h2, .ref h3, .ref h4, .ref h5, .int 0, .int 0])), (h2, .inr (1, [.ref h6, .ref h7, .ref h8, .ref h9])), (h6, .inl (y0, 32768, .inl (fun _ => 0))), (h9, .inr (9, [.ref h10, .ref h11, .int 0, .int 0, .int 0, .int 0])), (h11, .inl (y1, 3, .inl (fun _ => 0))), (h10, .inl (y2, 3, .inl (fun _ => 0))), (h8, .inr (5, [.int 304, .int 0, .int 0, .int 0, .int 0, .int 0])), (h7, .inr (7, [.int 0, .int 0, .int 0, .int 0, .int 0]))])) (va_Qi (fun (r : Int32) (u : (Nat → Int32) × Int32 × Int32 × (Nat → Int32) × (Nat → Int32) × Int32 × Int32 × Int32 × Int32 × Int32 × Int32 × Int32 × Int32 × Int32) => r = 1 ∧ iv u.2.1 0 65531 ∧ (∀ j, iv (u.2.2.2.2.1 j) 0 17) ∧ iv u.2.2.2.2.2.1 304 308 ∧ iv u.2.2.2.2.2.2.2.2.2.2.1 0 255 ∧ iv u.2.2.2.2.2.2.2.2.2.2.2.1 0 255 ∧ iv u.2.2.2.2.2.2.2.2.2.2.2.2.1 0 255 ∧ iv u.2.2.2.2.2.2.2.2.2.2.2.2.2 0 255 ∧ True) (fun (u : (Nat → Int32) × Int32 × Int32 × (Nat → Int32) × (Nat → Int32) × Int32 × Int32 × Int32 × Int32 × Int32 × Int32 × Int32 × Int32 × Int32) (t : State) => va_P (dC, dI) vwCl [(h0, .inr (11, [.ref h1, .ref h2, .ref h3, .ref h4, .ref h5, .int 0, .int 0])), (h2, .inr (1, [.ref h6, .ref h7, .ref h8, .ref h9])), (h6, .inl (y0, 32768, .inl u.1)), (h9, .inr (9, [.ref h10, .ref h11, .int u.2.1, .int u.2.2.1, .int 0, .int 0])), (h11, .inl (y1, 3, .inl u.2.2.2.1)), (h10, .inl (y2, 3, .inl u.2.2.2.2.1)), (h8, .inr (5, [.int u.2.2.2.2.2.1, .int u.2.2.2.2.2.2.1, .int u.2.2.2.2.2.2.2.1, .int u.2.2.2.2.2.2.2.2.1, .int u.2.2.2.2.2.2.2.2.2.1, .int 0])), (h7, .inr (7, [.int 0, .int u.2.2.2.2.2.2.2.2.2.2.1, .int u.2.2.2.2.2.2.2.2.2.2.2.1, .int u.2.2.2.2.2.2.2.2.2.2.2.2.1, .int u.2.2.2.2.2.2.2.2.2.2.2.2.2]))] t.heap ∧ va_K (dC, dI) vwCl [(y0, .int), (y1, .int), (y2, .int)] t ∧ va_D (va_A [(h0, .inr (11, [.ref h1, .ref h2, .ref h3, .ref h4, .ref h5, .int 0, .int 0])), (h2, .inr (1, [.ref h6, .ref h7, .ref h8, .ref h9])), (h6, .inl (y0, 32768, .inl (fun _ => 0))), (h9, .inr (9, [.ref h10, .ref h11, .int 0, .int 0, .int 0, .int 0])), (h11, .inl (y1, 3, .inl (fun _ => 0))), (h10, .inl (y2, 3, .inl (fun _ => 0))), (h8, .inr (5, [.int 304, .int 0, .int 0, .int 0, .int 0, .int 0])), (h7, .inr (7, [.int 0, .int 0, .int 0, .int 0, .int 0]))] sz) [(h0, .inr (11, [.ref h1, .ref h2, .ref h3, .ref h4, .ref h5, .int 0, .int 0])), (h2, .inr (1, [.ref h6, .ref h7, .ref h8, .ref h9])), (h6, .inl (y0, 32768, .inl u.1)), (h9, .inr (9, [.ref h10, .ref h11, .int u.2.1, .int u.2.2.1, .int 0, .int 0])), (h11, .inl (y1, 3, .inl u.2.2.2.1)), (h10, .inl (y2, 3, .inl u.2.2.2.2.1)), (h8, .inr (5, [.int u.2.2.2.2.2.1, .int u.2.2.2.2.2.2.1, .int u.2.2.2.2.2.2.2.1, .int u.2.2.2.2.2.2.2.2.1, .int u.2.2.2.2.2.2.2.2.2.1, .int 0])), (h7, .inr (7, [.int 0, .int u.2.2.2.2.2.2.2.2.2.2.1, .int u.2.2.2.2.2.2.2.2.2.2.2.1, .int u.2.2.2.2.2.2.2.2.2.2.2.2.1, .int u.2.2.2.2.2.2.2.2.2.2.2.2.2]))]) (va_A [(h0, .inr (11, [.ref h1, .ref h2, .ref h3, .ref h4, .ref h5, .int 0, .int 0])), (h2, .inr (1, [.ref h6, .ref h7, .ref h8, .ref h9])), (h6, .inl (y0, 32768, .inl (fun _ => 0))), (h9, .inr (9, [.ref h10, .ref h11, .int 0, .int 0, .int 0, .int 0])), (h11, .inl (y1, 3, .inl (fun _ => 0))), (h10, .inl (y2, 3, .inl (fun _ => 0))), (h8, .inr (5, [.int 304, .int 0, .int 0, .int 0, .int 0, .int 0])), (h7, .inr (7, [.int 0, .int 0, .int 0, .int 0, .int 0]))] sz)) 0 0 (va_A [(h0, .inr (11, [.ref h1, .ref h2, .ref h3, .ref h4, .ref h5, .int 0, .int 0])), (h2, .inr (1, [.ref h6, .ref h7, .ref h8, .ref h9])), (h6, .inl (y0, 32768, .inl (fun _ => 0))), (h9, .inr (9, [.ref h10, .ref h11, .int 0, .int 0, .int 0, .int 0])), (h11, .inl (y1, 3, .inl (fun _ => 0))), (h10, .inl (y2, 3, .inl (fun _ => 0))), (h8, .inr (5, [.int 304, .int 0, .int 0, .int 0, .int 0, .int 0])), (h7, .inr (7, [.int 0, .int 0, .int 0, .int 0, .int 0]))] sz) := by
  refine Met.ofW (cc := cX11_poke) (maxL := 3) (ret := (some .boolean)) (by decide) rfl ?_
  intro p e s m args below meth c s₁ B hml hv
  obtain ⟨rfl, hsz, hP, hK, hD0⟩ := hv
  have hx := B.exec
  have hb := B.bytes
  have hr := B.returns
  have hts0 := atoms_spec (ws := Cond.code yX11_poke cX11_poke 3 (some .boolean) :: lw_G) B.pre
  have hG : ∀ w ∈ lw_G, w.before _ s = true := fun w h => hts0 w (List.mem_cons_of_mem _ h)
  have hown : s.vm.findClass RX11 = some m.cls := findClass_of_methodNamed B.named
  have hlocks := B.notSynchronized
  subst hsz
  have hD := hD0.self (sz := s.heap.size)
  generalize hAe : va_A [(h0, .inr (11, [.ref h1, .ref h2, .ref h3, .ref h4, .ref h5, .int 0, .int 0])), (h2, .inr (1, [.ref h6, .ref h7, .ref h8, .ref h9])), (h6, .inl (y0, 32768, .inl (fun _ => 0))), (h9, .inr (9, [.ref h10, .ref h11, .int 0, .int 0, .int 0, .int 0])), (h11, .inl (y1, 3, .inl (fun _ => 0))), (h10, .inl (y2, 3, .inl (fun _ => 0))), (h8, .inr (5, [.int 304, .int 0, .int 0, .int 0, .int 0, .int 0])), (h7, .inr (7, [.int 0, .int 0, .int 0, .int 0, .int 0]))] s.heap.size = A at hD ⊢
  have hA : ∀ q : Nat, s.heap.size ≤ q → A q := fun q h => by rw [← hAe]; exact Or.inr h
  have hS : va_S A s.heap s.heap [] := va_S.rf
  have hP : va_P (dC, dI) vwCl [(h0, .inr (11, [.ref h1, .ref h2, .ref h3, .ref h4, .ref h5, .int 0, .int 0])), (h2, .inr (1, [.ref h6, .ref h7, .ref h8, .ref h9])), (h6, .inl (y0, 32768, .inl (fun _ => 0))), (h9, .inr (9, [.ref h10, .ref h11, .int 0, .int 0, .int 0, .int 0])), (h11, .inl (y1, 3, .inl (fun _ => 0))), (h10, .inl (y2, 3, .inl (fun _ => 0))), (h8, .inr (5, [.int 304, .int 0, .int 0, .int 0, .int 0, .int 0])), (h7, .inr (7, [.int 0, .int 0, .int 0, .int 0, .int 0]))] s.heap := hP
  have hl := lv_entry ([.ref h0, .int x0, .int x1]) (n := 3) (Nat.le_of_ble_eq_true rfl)
  rw [lg_entry_eq]
  generalize (lg_sl ([.ref h0, .int x0, .int x1]) ++ List.replicate (3 - (lg_sl ([.ref h0, .int x0, .int x1])).length) Slot.unset).toArray = ls at hl ⊢
  have hl : lv_has ls 3 [(0, .ref h0), (1, .int x0), (2, .int x1)] := hl
  refine lv_iload_n hx hb dX11_poke_0 rfl (lv_at hl 1 rfl) ?_
  refine lv_if_lt (tgt := 10) hx hb dX11_poke_1 (by decide) (fun c => absurd c (iv_nlt ix0 (by decide : iv 0 0 0) (by decide))) (fun _ => ?_)
  refine lv_iload_n hx hb dX11_poke_4 rfl (lv_at hl 1 rfl) ?_
  refine lv_ldc hx hb hown (hG _ wd_1157) dX11_poke_5 ?_
  refine lv_icmp_lt (tgt := 20) hx hb dX11_poke_7 (by decide) (fun _ => ?_) (fun c => absurd (iv_lt ix0 (by decide : iv 65536 65536 65536) (by decide)) c)
  refine lv_iload_n hx hb dX11_poke_20 rfl (lv_at hl 2 rfl) ?_
  refine lv_if_lt (tgt := 31) hx hb dX11_poke_21 (by decide) (fun c => absurd c (iv_nlt ix1 (by decide : iv 0 0 0) (by decide))) (fun _ => ?_)
  refine lv_iload_n hx hb dX11_poke_24 rfl (lv_at hl 2 rfl) ?_
  refine lv_sipush (v := 255) hx hb dX11_poke_25 (by decide) ?_
  refine lv_icmp_le (tgt := 33) hx hb dX11_poke_28 (by decide) (fun _ => ?_) (fun c => absurd (iv_le ix1 (by decide : iv 255 255 255) (by decide)) c)
  refine lv_aload_n hx hb dX11_poke_33 rfl (lv_at hl 0 rfl) ?_
  refine va_get (D := (dC, dI)) (ci := 11) (v := .ref h2) (C := RX11) (T := TX11) (N := 7) hx hb hG inGX11 hown hK hP 0 rfl rfl 1 (by decide) (hG _ wd_396) (fun _ h9 => h9) rfl dX11_poke_34 ?_
  refine lv_iload_n hx hb dX11_poke_37 rfl (lv_at hl 1 rfl) ?_
  refine lv_iload_n hx hb dX11_poke_38 rfl (lv_at hl 2 rfl) ?_
  have hPc := hP.sub (ws' := [(h2, .inr (1, [.ref h6, .ref h7, .ref h8, .ref h9])), (h6, .inl (y0, 32768, .inl (fun _ => 0))), (h9, .inr (9, [.ref h10, .ref h11, .int 0, .int 0, .int 0, .int 0])), (h11, .inl (y1, 3, .inl (fun _ => 0))), (h10, .inl (y2, 3, .inl (fun _ => 0))), (h8, .inr (5, [.int 304, .int 0, .int 0, .int 0, .int 0, .int 0])), (h7, .inr (7, [.int 0, .int 0, .int 0, .int 0, .int 0]))]) [1, 2, 3, 4, 5, 6, 7] rfl
  have hDc := hD.sub (ws' := [(h2, .inr (1, [.ref h6, .ref h7, .ref h8, .ref h9])), (h6, .inl (y0, 32768, .inl (fun _ => 0))), (h9, .inr (9, [.ref h10, .ref h11, .int 0, .int 0, .int 0, .int 0])), (h11, .inl (y1, 3, .inl (fun _ => 0))), (h10, .inl (y2, 3, .inl (fun _ => 0))), (h8, .inr (5, [.int 304, .int 0, .int 0, .int 0, .int 0, .int 0])), (h7, .inr (7, [.int 0, .int 0, .int 0, .int 0, .int 0]))]) [1, 2, 3, 4, 5, 6, 7] (by decide) rfl
  have hKc := hK.sub (tys' := [(y0, .int), (y1, .int), (y2, .int)]) [0, 1, 2] rfl
  have hFc := va_free (wc := [(h2, .inr (1, [.ref h6, .ref h7, .ref h8, .ref h9])), (h6, .inl (y0, 32768, .inl (fun _ => 0))), (h9, .inr (9, [.ref h10, .ref h11, .int 0, .int 0, .int 0, .int 0])), (h11, .inl (y1, 3, .inl (fun _ => 0))), (h10, .inl (y2, 3, .inl (fun _ => 0))), (h8, .inr (5, [.int 304, .int 0, .int 0, .int 0, .int 0, .int 0])), (h7, .inr (7, [.int 0, .int 0, .int 0, .int 0, .int 0]))]) hD hS hA [1, 2, 3, 4, 5, 6, 7] rfl
  refine va_callv (va_runV (As := [.int x0, .int x1]) (rest := []) ⟨hx, hb, hml, hown, hG⟩ (cX1_writeByte_1 l dC dI h2 h6 h7 h8 h9 h10 h11 y0 y1 y2 s.heap.size x0 x1 ix0 ix1) (cwV 2 hG (gV wd_1170 wd_711 wd_712 wd_2 wd_713) rfl rfl rfl (by decide +kernel) ⟨Nat.le_of_ble_eq_true rfl, Nat.le_of_ble_eq_true rfl⟩) ⟨fun a U g mk q => by obtain ⟨q0, q1, qP, qK, qD⟩ := q; exact ⟨q0, q1, qP, va_K.moved (u := U) (U := U.calling g mk a) (Vm.Alike.refl U.vm) qK, qD⟩, va_recv hKc hPc (ci := 1) (q0 := 0) rfl rfl, fun U hU hW => ⟨rfl, by rw [hU], by rw [hU]; exact hPc, va_K.moved hW.alike hKc, hDc.weaken (fun _ _ _ _ => trivial)⟩⟩ rfl rfl hl.1 rfl (lv_room (Nat.le_of_ble_eq_true rfl)) dX11_poke_39 ⟨by decide, by decide⟩) hS (fun q _ h => hFc q h) hFc (fun u2 t H1 locs ht hvm hw hB hz1 hk1 hS => ?_)
  obtain ⟨u2_0, u2_1, u2_2, u2_3, u2_4, u2_5, u2_6, u2_7, u2_8, u2_9, u2_10, u2_11, u2_12, u2_13⟩ := u2
  have hw : iv u2_1 0 65531 ∧ (∀ j, iv (u2_4 j) 0 17) ∧ iv u2_5 304 308 ∧ iv u2_10 0 255 ∧ iv u2_11 0 255 ∧ iv u2_12 0 255 ∧ iv u2_13 0 255 ∧ True := hw
  obtain ⟨iu2_1, iu2_4, iu2_5, iu2_10, iu2_11, iu2_12, iu2_13, -⟩ := hw
  obtain ⟨hP1, hK1, hD1⟩ := hB
  rw [ht] at hP1
  have hK1 := va_K.moved hvm.symm hK1
  obtain ⟨hP, hD⟩ := va_join (wr := [(h0, .inr (11, [.ref h1, .ref h2, .ref h3, .ref h4, .ref h5, .int 0, .int 0]))]) (w1 := [(h2, .inr (1, [.ref h6, .ref h7, .ref h8, .ref h9])), (h6, .inl (y0, 32768, .inl u2_0)), (h9, .inr (9, [.ref h10, .ref h11, .int u2_1, .int u2_2, .int 0, .int 0])), (h11, .inl (y1, 3, .inl u2_3)), (h10, .inl (y2, 3, .inl u2_4)), (h8, .inr (5, [.int u2_5, .int u2_6, .int u2_7, .int u2_8, .int u2_9, .int 0])), (h7, .inr (7, [.int 0, .int u2_10, .int u2_11, .int u2_12, .int u2_13]))]) hP hD [1, 2, 3, 4, 5, 6, 7] [0] rfl rfl (by decide) (by decide) hk1 hFc hP1 hD1
  have hK := (hK.sub (tys' := []) [] rfl).app hK1
  generalize H1 = H at hP hS ⊢
  have hP : va_P (dC, dI) vwCl [(h0, .inr (11, [.ref h1, .ref h2, .ref h3, .ref h4, .ref h5, .int 0, .int 0])), (h2, .inr (1, [.ref h6, .ref h7, .ref h8, .ref h9])), (h6, .inl (y0, 32768, .inl u2_0)), (h9, .inr (9, [.ref h10, .ref h11, .int u2_1, .int u2_2, .int 0, .int 0])), (h11, .inl (y1, 3, .inl u2_3)), (h10, .inl (y2, 3, .inl u2_4)), (h8, .inr (5, [.int u2_5, .int u2_6, .int u2_7, .int u2_8, .int u2_9, .int 0])), (h7, .inr (7, [.int 0, .int u2_10, .int u2_11, .int u2_12, .int u2_13]))] H := hP
  have hD : va_D A [(h0, .inr (11, [.ref h1, .ref h2, .ref h3, .ref h4, .ref h5, .int 0, .int 0])), (h2, .inr (1, [.ref h6, .ref h7, .ref h8, .ref h9])), (h6, .inl (y0, 32768, .inl u2_0)), (h9, .inr (9, [.ref h10, .ref h11, .int u2_1, .int u2_2, .int 0, .int 0])), (h11, .inl (y1, 3, .inl u2_3)), (h10, .inl (y2, 3, .inl u2_4)), (h8, .inr (5, [.int u2_5, .int u2_6, .int u2_7, .int u2_8, .int u2_9, .int 0])), (h7, .inr (7, [.int 0, .int u2_10, .int u2_11, .int u2_12, .int u2_13]))] := hD
  have hK : va_K (dC, dI) vwCl [(y0, .int), (y1, .int), (y2, .int)] s := hK
  refine lv_iconst (v := 1) hx hb dX11_poke_42 (by decide) ?_
  have hP9 := hP.sub (ws' := [(h0, .inr (11, [.ref h1, .ref h2, .ref h3, .ref h4, .ref h5, .int 0, .int 0])), (h2, .inr (1, [.ref h6, .ref h7, .ref h8, .ref h9])), (h6, .inl (y0, 32768, .inl u2_0)), (h9, .inr (9, [.ref h10, .ref h11, .int u2_1, .int u2_2, .int 0, .int 0])), (h11, .inl (y1, 3, .inl u2_3)), (h10, .inl (y2, 3, .inl u2_4)), (h8, .inr (5, [.int u2_5, .int u2_6, .int u2_7, .int u2_8, .int u2_9, .int 0])), (h7, .inr (7, [.int 0, .int u2_10, .int u2_11, .int u2_12, .int u2_13]))]) [0, 1, 2, 3, 4, 5, 6, 7] rfl
  have hD9 := hD.sub (ws' := [(h0, .inr (11, [.ref h1, .ref h2, .ref h3, .ref h4, .ref h5, .int 0, .int 0])), (h2, .inr (1, [.ref h6, .ref h7, .ref h8, .ref h9])), (h6, .inl (y0, 32768, .inl u2_0)), (h9, .inr (9, [.ref h10, .ref h11, .int u2_1, .int u2_2, .int 0, .int 0])), (h11, .inl (y1, 3, .inl u2_3)), (h10, .inl (y2, 3, .inl u2_4)), (h8, .inr (5, [.int u2_5, .int u2_6, .int u2_7, .int u2_8, .int u2_9, .int 0])), (h7, .inr (7, [.int 0, .int u2_10, .int u2_11, .int u2_12, .int u2_13]))]) [0, 1, 2, 3, 4, 5, 6, 7] (by decide) rfl
  have hK9 := hK.sub (tys' := [(y0, .int), (y1, .int), (y2, .int)]) [0, 1, 2] rfl
  exact W.zret (v := 1) hx hb hr rfl (fun t ht hW => ⟨⟨1, (u2_0, u2_1, u2_2, u2_3, u2_4, u2_5, u2_6, u2_7, u2_8, u2_9, u2_10, u2_11, u2_12, u2_13), rfl, ⟨rfl, iv_w iu2_1 (by decide) (by decide), (fun j => iv_w (iu2_4 j) (by decide) (by decide)), iv_w iu2_5 (by decide) (by decide), iv_w iu2_10 (by decide) (by decide), iv_w iu2_11 (by decide) (by decide), iv_w iu2_12 (by decide) (by decide), iv_w iu2_13 (by decide) (by decide), trivial⟩, by rw [ht]; exact hP9, va_K.moved hW.alike hK9, hD9⟩, hS.F ht⟩) hS.2.2 dX11_poke_43
set_option maxHeartbeats 4000000 in
set_option maxRecDepth 100000 in
theorem cL_poke_9 (l : Launch) (dC : Nat → ClassId) (dI : Nat → Nat → Nat) (h0 h1 h2 h3 h4 h5 h6 h7 h8 h9 h10 h11 h12 : Nat) (y0 y1 y2 y3 : ClassId) (sz : Nat) (x0 x1 : Int32) (ix0 : iv x0 0 65535) (ix1 : iv x1 0 255) : Met l yL_poke (Cond.codeWith yL_poke cL_poke 5 (some .int) [(0, 17, 20, 19)] :: lw_G) ({ frames := 5, cells := 0, slots := 0, locals := 114 }) (va_Pc [.ref h0, .int x0, .int x1, .ref h1] (fun U => U.heap.size = sz ∧ va_P (dC, dI) vwCl [(h0, .inr (11, [.ref h2, .ref h3, .ref h4, .ref h5, .ref h6, .int 0, .int 0])), (h3, .inr (1, [.ref h7, .ref h8, .ref h9, .ref h10])), (h7, .inl (y0, 32768, .inl (fun _ => 0))), (h10, .inr (9, [.ref h11, .ref h12, .int 0, .int 0, .int 0, .int 0])), (h12, .inl (y1, 3, .inl (fun _ => 0))), (h11, .inl (y2, 3, .inl (fun _ => 0))), (h9, .inr (5, [.int 304, .int 0, .int 0, .int 0, .int 0, .int 0])), (h8, .inr (7, [.int 0, .int 0, .int 0, .int 0, .int 0])), (h1, .inl (y3, 1, .inr (.inl (fun _ => 0))))] U.heap ∧ va_K (dC, dI) vwCl [(y0, .int), (y1, .int), (y2, .int), (y3, .long)] U ∧ va_D (fun _ => True) [(h0, .inr (11, [.ref h2, .ref h3, .ref h4, .ref h5, .ref h6, .int 0, .int 0])), (h3, .inr (1, [.ref h7, .ref h8, .ref h9, .ref h10])), (h7, .inl (y0, 32768, .inl (fun _ => 0))), (h10, .inr (9, [.ref h11, .ref h12, .int 0, .int 0, .int 0, .int 0])), (h12, .inl (y1, 3, .inl (fun _ => 0))), (h11, .inl (y2, 3, .inl (fun _ => 0))), (h9, .inr (5, [.int 304, .int 0, .int 0, .int 0, .int 0, .int 0])), (h8, .inr (7, [.int 0, .int 0, .int 0, .int 0, .int 0])), (h1, .inl (y3, 1, .inr (.inl (fun _ => 0))))])) (va_Qi (fun (r : Int32) (u : (Nat → Int32) × Int32 × Int32 × (Nat → Int32) × (Nat → Int32) × Int32 × Int32 × Int32 × Int32 × Int32 × Int32 × Int32 × Int32 × Int32 × (Nat → Int64)) => r = 0 ∧ iv u.2.1 0 65531 ∧ (∀ j, iv (u.2.2.2.2.1 j) 0 17) ∧ iv u.2.2.2.2.2.1 304 308 ∧ iv u.2.2.2.2.2.2.2.2.2.2.1 0 255 ∧ iv u.2.2.2.2.2.2.2.2.2.2.2.1 0 255 ∧ iv u.2.2.2.2.2.2.2.2.2.2.2.2.1 0 255 ∧ iv u.2.2.2.2.2.2.2.2.2.2.2.2.2.1 0 255 ∧ u.2.2.2.2.2.2.2.2.2.2.2.2.2.2 0 = 1 ∧ True) (fun (u : (Nat → Int32) × Int32 × Int32 × (Nat → Int32) × (Nat → Int32) × Int32 × Int32 × Int32 × Int32 × Int32 × Int32 × Int32 × Int32 × Int32 × (Nat → Int64)) (t : State) => va_P (dC, dI) vwCl [(h0, .inr (11, [.ref h2, .ref h3, .ref h4, .ref h5, .ref h6, .int 0, .int 0])), (h3, .inr (1, [.ref h7, .ref h8, .ref h9, .ref h10])), (h7, .inl (y0, 32768, .inl u.1)), (h10, .inr (9, [.ref h11, .ref h12, .int u.2.1, .int u.2.2.1, .int 0, .int 0])), (h12, .inl (y1, 3, .inl u.2.2.2.1)), (h11, .inl (y2, 3, .inl u.2.2.2.2.1)), (h9, .inr (5, [.int u.2.2.2.2.2.1, .int u.2.2.2.2.2.2.1, .int u.2.2.2.2.2.2.2.1, .int u.2.2.2.2.2.2.2.2.1, .int u.2.2.2.2.2.2.2.2.2.1, .int 0])), (h8, .inr (7, [.int 0, .int u.2.2.2.2.2.2.2.2.2.2.1, .int u.2.2.2.2.2.2.2.2.2.2.2.1, .int u.2.2.2.2.2.2.2.2.2.2.2.2.1, .int u.2.2.2.2.2.2.2.2.2.2.2.2.2.1])), (h1, .inl (y3, 1, .inr (.inl u.2.2.2.2.2.2.2.2.2.2.2.2.2.2)))] t.heap ∧ va_K (dC, dI) vwCl [(y0, .int), (y1, .int), (y2, .int), (y3, .long)] t ∧ va_D (va_A [(h0, .inr (11, [.ref h2, .ref h3, .ref h4, .ref h5, .ref h6, .int 0, .int 0])), (h3, .inr (1, [.ref h7, .ref h8, .ref h9, .ref h10])), (h7, .inl (y0, 32768, .inl (fun _ => 0))), (h10, .inr (9, [.ref h11, .ref h12, .int 0, .int 0, .int 0, .int 0])), (h12, .inl (y1, 3, .inl (fun _ => 0))), (h11, .inl (y2, 3, .inl (fun _ => 0))), (h9, .inr (5, [.int 304, .int 0, .int 0, .int 0, .int 0, .int 0])), (h8, .inr (7, [.int 0, .int 0, .int 0, .int 0, .int 0])), (h1, .inl (y3, 1, .inr (.inl (fun _ => 0))))] sz) [(h0, .inr (11, [.ref h2, .ref h3, .ref h4, .ref h5, .ref h6, .int 0, .int 0])), (h3, .inr (1, [.ref h7, .ref h8, .ref h9, .ref h10])), (h7, .inl (y0, 32768, .inl u.1)), (h10, .inr (9, [.ref h11, .ref h12, .int u.2.1, .int u.2.2.1, .int 0, .int 0])), (h12, .inl (y1, 3, .inl u.2.2.2.1)), (h11, .inl (y2, 3, .inl u.2.2.2.2.1)), (h9, .inr (5, [.int u.2.2.2.2.2.1, .int u.2.2.2.2.2.2.1, .int u.2.2.2.2.2.2.2.1, .int u.2.2.2.2.2.2.2.2.1, .int u.2.2.2.2.2.2.2.2.2.1, .int 0])), (h8, .inr (7, [.int 0, .int u.2.2.2.2.2.2.2.2.2.2.1, .int u.2.2.2.2.2.2.2.2.2.2.2.1, .int u.2.2.2.2.2.2.2.2.2.2.2.2.1, .int u.2.2.2.2.2.2.2.2.2.2.2.2.2.1])), (h1, .inl (y3, 1, .inr (.inl u.2.2.2.2.2.2.2.2.2.2.2.2.2.2)))]) (va_A [(h0, .inr (11, [.ref h2, .ref h3, .ref h4, .ref h5, .ref h6, .int 0, .int 0])), (h3, .inr (1, [.ref h7, .ref h8, .ref h9, .ref h10])), (h7, .inl (y0, 32768, .inl (fun _ => 0))), (h10, .inr (9, [.ref h11, .ref h12, .int 0, .int 0, .int 0, .int 0])), (h12, .inl (y1, 3, .inl (fun _ => 0))), (h11, .inl (y2, 3, .inl (fun _ => 0))), (h9, .inr (5, [.int 304, .int 0, .int 0, .int 0, .int 0, .int 0])), (h8, .inr (7, [.int 0, .int 0, .int 0, .int 0, .int 0])), (h1, .inl (y3, 1, .inr (.inl (fun _ => 0))))] sz)) 0 0 (va_A [(h0, .inr (11, [.ref h2, .ref h3, .ref h4, .ref h5, .ref h6, .int 0, .int 0])), (h3, .inr (1, [.ref h7, .ref h8, .ref h9, .ref h10])), (h7, .inl (y0, 32768, .inl (fun _ => 0))), (h10, .inr (9, [.ref h11, .ref h12, .int 0, .int 0, .int 0, .int 0])), (h12, .inl (y1, 3, .inl (fun _ => 0))), (h11, .inl (y2, 3, .inl (fun _ => 0))), (h9, .inr (5, [.int 304, .int 0, .int 0, .int 0, .int 0, .int 0])), (h8, .inr (7, [.int 0, .int 0, .int 0, .int 0, .int 0])), (h1, .inl (y3, 1, .inr (.inl (fun _ => 0))))] sz) := by
  refine va_MetW (cc := cL_poke) (maxL := 5) (ret := (some .int)) (by decide) rfl ?_
  intro p e s m args below meth c s₁ B hml hv
  obtain ⟨rfl, hsz, hP, hK, hD0⟩ := hv
  have hx := B.exec
  have hb := B.bytes
  have hr := B.returns
  have hts0 := atoms_spec (ws := Cond.codeWith yL_poke cL_poke 5 (some .int) [(0, 17, 20, 19)] :: lw_G) B.pre
  have htab := vx_table (x := x) B (hts0 _ List.mem_cons_self)
  have hG : ∀ w ∈ lw_G, w.before _ s = true := fun w h => hts0 w (List.mem_cons_of_mem _ h)
  have hown : s.vm.findClass RL = some m.cls := findClass_of_methodNamed B.named
  have hlocks := B.notSynchronized
  subst hsz
  have hD := hD0.self (sz := s.heap.size)
  generalize hAe : va_A [(h0, .inr (11, [.ref h2, .ref h3, .ref h4, .ref h5, .ref h6, .int 0, .int 0])), (h3, .inr (1, [.ref h7, .ref h8, .ref h9, .ref h10])), (h7, .inl (y0, 32768, .inl (fun _ => 0))), (h10, .inr (9, [.ref h11, .ref h12, .int 0, .int 0, .int 0, .int 0])), (h12, .inl (y1, 3, .inl (fun _ => 0))), (h11, .inl (y2, 3, .inl (fun _ => 0))), (h9, .inr (5, [.int 304, .int 0, .int 0, .int 0, .int 0, .int 0])), (h8, .inr (7, [.int 0, .int 0, .int 0, .int 0, .int 0])), (h1, .inl (y3, 1, .inr (.inl (fun _ => 0))))] s.heap.size = A at hD ⊢
  have hA : ∀ q : Nat, s.heap.size ≤ q → A q := fun q h => by rw [← hAe]; exact Or.inr h
  have hS : va_S A s.heap s.heap [] := va_S.rf
  have hP : va_P (dC, dI) vwCl [(h0, .inr (11, [.ref h2, .ref h3, .ref h4, .ref h5, .ref h6, .int 0, .int 0])), (h3, .inr (1, [.ref h7, .ref h8, .ref h9, .ref h10])), (h7, .inl (y0, 32768, .inl (fun _ => 0))), (h10, .inr (9, [.ref h11, .ref h12, .int 0, .int 0, .int 0, .int 0])), (h12, .inl (y1, 3, .inl (fun _ => 0))), (h11, .inl (y2, 3, .inl (fun _ => 0))), (h9, .inr (5, [.int 304, .int 0, .int 0, .int 0, .int 0, .int 0])), (h8, .inr (7, [.int 0, .int 0, .int 0, .int 0, .int 0])), (h1, .inl (y3, 1, .inr (.inl (fun _ => 0))))] s.heap := hP
  have hl := lv_entry ([.ref h0, .int x0, .int x1, .ref h1]) (n := 5) (Nat.le_of_ble_eq_true rfl)
  rw [lg_entry_eq]
  generalize (lg_sl ([.ref h0, .int x0, .int x1, .ref h1]) ++ List.replicate (5 - (lg_sl ([.ref h0, .int x0, .int x1, .ref h1])).length) Slot.unset).toArray = ls at hl ⊢
  have hl : lv_has ls 5 [(0, .ref h0), (1, .int x0), (2, .int x1), (3, .ref h1)] := hl
  refine lv_aload_n hx hb dL_poke_0 rfl (lv_at hl 3 rfl) ?_
  refine lv_iconst (v := 0) hx hb dL_poke_1 (by decide) ?_
  refine lv_aload_n hx hb dL_poke_2 rfl (lv_at hl 0 rfl) ?_
  refine lv_iload_n hx hb dL_poke_3 rfl (lv_at hl 1 rfl) ?_
  refine lv_iload_n hx hb dL_poke_4 rfl (lv_at hl 2 rfl) ?_
  have hPc := hP.sub (ws' := [(h0, .inr (11, [.ref h2, .ref h3, .ref h4, .ref h5, .ref h6, .int 0, .int 0])), (h3, .inr (1, [.ref h7, .ref h8, .ref h9, .ref h10])), (h7, .inl (y0, 32768, .inl (fun _ => 0))), (h10, .inr (9, [.ref h11, .ref h12, .int 0, .int 0, .int 0, .int 0])), (h12, .inl (y1, 3, .inl (fun _ => 0))), (h11, .inl (y2, 3, .inl (fun _ => 0))), (h9, .inr (5, [.int 304, .int 0, .int 0, .int 0, .int 0, .int 0])), (h8, .inr (7, [.int 0, .int 0, .int 0, .int 0, .int 0]))]) [0, 1, 2, 3, 4, 5, 6, 7] rfl
  have hDc := hD.sub (ws' := [(h0, .inr (11, [.ref h2, .ref h3, .ref h4, .ref h5, .ref h6, .int 0, .int 0])), (h3, .inr (1, [.ref h7, .ref h8, .ref h9, .ref h10])), (h7, .inl (y0, 32768, .inl (fun _ => 0))), (h10, .inr (9, [.ref h11, .ref h12, .int 0, .int 0, .int 0, .int 0])), (h12, .inl (y1, 3, .inl (fun _ => 0))), (h11, .inl (y2, 3, .inl (fun _ => 0))), (h9, .inr (5, [.int 304, .int 0, .int 0, .int 0, .int 0, .int 0])), (h8, .inr (7, [.int 0, .int 0, .int 0, .int 0, .int 0]))]) [0, 1, 2, 3, 4, 5, 6, 7] (by decide) rfl
  have hKc := hK.sub (tys' := [(y0, .int), (y1, .int), (y2, .int)]) [0, 1, 2] rfl
  have hFc := va_free (wc := [(h0, .inr (11, [.ref h2, .ref h3, .ref h4, .ref h5, .ref h6, .int 0, .int 0])), (h3, .inr (1, [.ref h7, .ref h8, .ref h9, .ref h10])), (h7, .inl (y0, 32768, .inl (fun _ => 0))), (h10, .inr (9, [.ref h11, .ref h12, .int 0, .int 0, .int 0, .int 0])), (h12, .inl (y1, 3, .inl (fun _ => 0))), (h11, .inl (y2, 3, .inl (fun _ => 0))), (h9, .inr (5, [.int 304, .int 0, .int 0, .int 0, .int 0, .int 0])), (h8, .inr (7, [.int 0, .int 0, .int 0, .int 0, .int 0]))]) hD hS hA [0, 1, 2, 3, 4, 5, 6, 7] rfl
  refine va_calli (va_runV (As := [.int x0, .int x1]) (rest := [.int 0, .ref h1]) ⟨hx, hb, hml, hown, hG⟩ (cX11_poke_9 l dC dI h0 h2 h3 h4 h5 h6 h7 h8 h9 h10 h11 h12 y0 y1 y2 s.heap.size x0 x1 ix0 ix1) (cwV 2 hG (gV wd_1166 wd_1167 wd_1168 wd_1 wd_1169) rfl rfl rfl (by decide +kernel) ⟨Nat.le_of_ble_eq_true rfl, Nat.le_of_ble_eq_true rfl⟩) ⟨fun a U g mk q => by obtain ⟨q0, q1, qP, qK, qD⟩ := q; exact ⟨q0, q1, qP, va_K.moved (u := U) (U := U.calling g mk a) (Vm.Alike.refl U.vm) qK, qD⟩, va_recv hKc hPc (ci := 11) (q0 := 0) rfl rfl, fun U hU hW => ⟨rfl, by rw [hU], by rw [hU]; exact hPc, va_K.moved hW.alike hKc, hDc.weaken (fun _ _ _ _ => trivial)⟩⟩ rfl rfl hl.1 rfl (lv_room (Nat.le_of_ble_eq_true rfl)) dL_poke_5 ⟨by decide, by decide⟩) hS (fun q _ h => hFc q h) hFc (fun r1 u2 t H1 locs ht hvm hw hB hz1 hk1 hS => ?_)
  obtain ⟨u2_0, u2_1, u2_2, u2_3, u2_4, u2_5, u2_6, u2_7, u2_8, u2_9, u2_10, u2_11, u2_12, u2_13⟩ := u2
  have hw : r1 = 1 ∧ iv u2_1 0 65531 ∧ (∀ j, iv (u2_4 j) 0 17) ∧ iv u2_5 304 308 ∧ iv u2_10 0 255 ∧ iv u2_11 0 255 ∧ iv u2_12 0 255 ∧ iv u2_13 0 255 ∧ True := hw
  obtain ⟨er1, iu2_1, iu2_4, iu2_5, iu2_10, iu2_11, iu2_12, iu2_13, -⟩ := hw
  obtain ⟨hP1, hK1, hD1⟩ := hB
  rw [ht] at hP1
  have hK1 := va_K.moved hvm.symm hK1
  obtain ⟨hP, hD⟩ := va_join (wr := [(h1, .inl (y3, 1, .inr (.inl (fun _ => 0))))]) (w1 := [(h0, .inr (11, [.ref h2, .ref h3, .ref h4, .ref h5, .ref h6, .int 0, .int 0])), (h3, .inr (1, [.ref h7, .ref h8, .ref h9, .ref h10])), (h7, .inl (y0, 32768, .inl u2_0)), (h10, .inr (9, [.ref h11, .ref h12, .int u2_1, .int u2_2, .int 0, .int 0])), (h12, .inl (y1, 3, .inl u2_3)), (h11, .inl (y2, 3, .inl u2_4)), (h9, .inr (5, [.int u2_5, .int u2_6, .int u2_7, .int u2_8, .int u2_9, .int 0])), (h8, .inr (7, [.int 0, .int u2_10, .int u2_11, .int u2_12, .int u2_13]))]) hP hD [0, 1, 2, 3, 4, 5, 6, 7] [8] rfl rfl (by decide) (by decide) hk1 hFc hP1 hD1
  have hK := (hK.sub (tys' := [(y3, .long)]) [3] rfl).app hK1
  generalize H1 = H at hP hS ⊢
  have hP : va_P (dC, dI) vwCl [(h1, .inl (y3, 1, .inr (.inl (fun _ => 0)))), (h0, .inr (11, [.ref h2, .ref h3, .ref h4, .ref h5, .ref h6, .int 0, .int 0])), (h3, .inr (1, [.ref h7, .ref h8, .ref h9, .ref h10])), (h7, .inl (y0, 32768, .inl u2_0)), (h10, .inr (9, [.ref h11, .ref h12, .int u2_1, .int u2_2, .int 0, .int 0])), (h12, .inl (y1, 3, .inl u2_3)), (h11, .inl (y2, 3, .inl u2_4)), (h9, .inr (5, [.int u2_5, .int u2_6, .int u2_7, .int u2_8, .int u2_9, .int 0])), (h8, .inr (7, [.int 0, .int u2_10, .int u2_11, .int u2_12, .int u2_13]))] H := hP
  have hD : va_D A [(h1, .inl (y3, 1, .inr (.inl (fun _ => 0)))), (h0, .inr (11, [.ref h2, .ref h3, .ref h4, .ref h5, .ref h6, .int 0, .int 0])), (h3, .inr (1, [.ref h7, .ref h8, .ref h9, .ref h10])), (h7, .inl (y0, 32768, .inl u2_0)), (h10, .inr (9, [.ref h11, .ref h12, .int u2_1, .int u2_2, .int 0, .int 0])), (h12, .inl (y1, 3, .inl u2_3)), (h11, .inl (y2, 3, .inl u2_4)), (h9, .inr (5, [.int u2_5, .int u2_6, .int u2_7, .int u2_8, .int u2_9, .int 0])), (h8, .inr (7, [.int 0, .int u2_10, .int u2_11, .int u2_12, .int u2_13]))] := hD
  have hK : va_K (dC, dI) vwCl [(y3, .long), (y0, .int), (y1, .int), (y2, .int)] s := hK
  subst er1
  refine lv_if_eq (tgt := 15) hx hb dL_poke_8 (by decide) (fun c => absurd c (by decide)) (fun _ => ?_)
  refine lv_lconst (v := 1) hx hb dL_poke_11 (by decide) ?_
  refine lv_goto (tgt := 16) hx hb dL_poke_12 (by decide) ?_
  refine va_last hx hb hK hP hD hS 0 0 rfl rfl (iv_in (by decide : iv 0 0 0) (by decide) (by decide) : vp_in 0 1) dL_poke_16 (fun H locs hP hD hS => ?_)
  have hP : va_P (dC, dI) vwCl [(h1, .inl (y3, 1, .inr (.inl (vp_updL (fun _ => 0) (0 : Int32).toNatClampNeg 1)))), (h0, .inr (11, [.ref h2, .ref h3, .ref h4, .ref h5, .ref h6, .int 0, .int 0])), (h3, .inr (1, [.ref h7, .ref h8, .ref h9, .ref h10])), (h7, .inl (y0, 32768, .inl u2_0)), (h10, .inr (9, [.ref h11, .ref h12, .int u2_1, .int u2_2, .int 0, .int 0])), (h12, .inl (y1, 3, .inl u2_3)), (h11, .inl (y2, 3, .inl u2_4)), (h9, .inr (5, [.int u2_5, .int u2_6, .int u2_7, .int u2_8, .int u2_9, .int 0])), (h8, .inr (7, [.int 0, .int u2_10, .int u2_11, .int u2_12, .int u2_13]))] H := hP
  have hD : va_D A [(h1, .inl (y3, 1, .inr (.inl (vp_updL (fun _ => 0) (0 : Int32).toNatClampNeg 1)))), (h0, .inr (11, [.ref h2, .ref h3, .ref h4, .ref h5, .ref h6, .int 0, .int 0])), (h3, .inr (1, [.ref h7, .ref h8, .ref h9, .ref h10])), (h7, .inl (y0, 32768, .inl u2_0)), (h10, .inr (9, [.ref h11, .ref h12, .int u2_1, .int u2_2, .int 0, .int 0])), (h12, .inl (y1, 3, .inl u2_3)), (h11, .inl (y2, 3, .inl u2_4)), (h9, .inr (5, [.int u2_5, .int u2_6, .int u2_7, .int u2_8, .int u2_9, .int 0])), (h8, .inr (7, [.int 0, .int u2_10, .int u2_11, .int u2_12, .int u2_13]))] := hD
  obtain ⟨f3, ef3⟩ : ∃ z, z = vp_updL (fun _ => 0) (0 : Int32).toNatClampNeg 1 := ⟨_, rfl⟩
  rw [← ef3] at hP hD
  refine lv_goto (tgt := 24) hx hb dL_poke_17 (by decide) ?_
  refine lv_iconst (v := 0) hx hb dL_poke_24 (by decide) ?_
  have hP9 := hP.sub (ws' := [(h0, .inr (11, [.ref h2, .ref h3, .ref h4, .ref h5, .ref h6, .int 0, .int 0])), (h3, .inr (1, [.ref h7, .ref h8, .ref h9, .ref h10])), (h7, .inl (y0, 32768, .inl u2_0)), (h10, .inr (9, [.ref h11, .ref h12, .int u2_1, .int u2_2, .int 0, .int 0])), (h12, .inl (y1, 3, .inl u2_3)), (h11, .inl (y2, 3, .inl u2_4)), (h9, .inr (5, [.int u2_5, .int u2_6, .int u2_7, .int u2_8, .int u2_9, .int 0])), (h8, .inr (7, [.int 0, .int u2_10, .int u2_11, .int u2_12, .int u2_13])), (h1, .inl (y3, 1, .inr (.inl f3)))]) [1, 2, 3, 4, 5, 6, 7, 8, 0] rfl
  have hD9 := hD.sub (ws' := [(h0, .inr (11, [.ref h2, .ref h3, .ref h4, .ref h5, .ref h6, .int 0, .int 0])), (h3, .inr (1, [.ref h7, .ref h8, .ref h9, .ref h10])), (h7, .inl (y0, 32768, .inl u2_0)), (h10, .inr (9, [.ref h11, .ref h12, .int u2_1, .int u2_2, .int 0, .int 0])), (h12, .inl (y1, 3, .inl u2_3)), (h11, .inl (y2, 3, .inl u2_4)), (h9, .inr (5, [.int u2_5, .int u2_6, .int u2_7, .int u2_8, .int u2_9, .int 0])), (h8, .inr (7, [.int 0, .int u2_10, .int u2_11, .int u2_12, .int u2_13])), (h1, .inl (y3, 1, .inr (.inl f3)))]) [1, 2, 3, 4, 5, 6, 7, 8, 0] (by decide) rfl
  have hK9 := hK.sub (tys' := [(y0, .int), (y1, .int), (y2, .int), (y3, .long)]) [1, 2, 3, 0] rfl
  exact W.iret (v := 0) hx hb hr (fun t ht hW => ⟨⟨0, (u2_0, u2_1, u2_2, u2_3, u2_4, u2_5, u2_6, u2_7, u2_8, u2_9, u2_10, u2_11, u2_12, u2_13, f3), rfl, ⟨rfl, iv_w iu2_1 (by decide) (by decide), (fun j => iv_w (iu2_4 j) (by decide) (by decide)), iv_w iu2_5 (by decide) (by decide), iv_w iu2_10 (by decide) (by decide), iv_w iu2_11 (by decide) (by decide), iv_w iu2_12 (by decide) (by decide), iv_w iu2_13 (by decide) (by decide), (kuL ef3 (by decide)), trivial⟩, by rw [ht]; exact hP9, va_K.moved hW.alike hK9, hD9⟩, hS.F ht⟩) hS.2.2 dL_poke_25
set_option maxHeartbeats 4000000 in
set_option maxRecDepth 100000 in
theorem cX11_count_1 (l : Launch) (dC : Nat → ClassId) (dI : Nat → Nat → Nat) (h0 h1 h2 h3 h4 h5 : Nat) (sz : Nat) (x0 : Int32) (ix0 : iv x0 (-2147483648) (-1)) : Met l yX11_count (Cond.code yX11_count cX11_count 2 (some .int) :: lw_G) ({ frames := 0, cells := 0, slots := 0, locals := 0 }) (va_Pc [.ref h0, .int x0] (fun U => U.heap.size = sz ∧ va_P (dC, dI) vwCl [(h0, .inr (11, [.ref h1, .ref h2, .ref h3, .ref h4, .ref h5, .int 0, .int 0]))] U.heap ∧ va_K (dC, dI) vwCl [] U ∧ va_D (fun _ => True) [(h0, .inr (11, [.ref h1, .ref h2, .ref h3, .ref h4, .ref h5, .int 0, .int 0]))])) (va_Qi (fun (r : Int32) (u : Unit) => r = (-1) ∧ True) (fun (u : Unit) (t : State) => va_P (dC, dI) vwCl [(h0, .inr (11, [.ref h1, .ref h2, .ref h3, .ref h4, .ref h5, .int 0, .int 0]))] t.heap ∧ va_K (dC, dI) vwCl [] t ∧ va_D (va_A [(h0, .inr (11, [.ref h1, .ref h2, .ref h3, .ref h4, .ref h5, .int 0, .int 0]))] sz) [(h0, .inr (11, [.ref h1, .ref h2, .ref h3, .ref h4, .ref h5, .int 0, .int 0]))]) (va_A [(h0, .inr (11, [.ref h1, .ref h2, .ref h3, .ref h4, .ref h5, .int 0, .int 0]))] sz)) 0 0 (va_A [(h0, .inr (11, [.ref h1, .ref h2, .ref h3, .ref h4, .ref h5, .int 0, .int 0]))] sz) := by
  refine Met.ofW (cc := cX11_count) (maxL := 2) (ret := (some .int)) (by decide) rfl ?_
  intro p e s m args below meth c s₁ B hml hv
  obtain ⟨rfl, hsz, hP, hK, hD0⟩ := hv
  have hx := B.exec
  have hb := B.bytes
  have hr := B.returns
  have hts0 := atoms_spec (ws := Cond.code yX11_count cX11_count 2 (some .int) :: lw_G) B.pre
  have hG : ∀ w ∈ lw_G, w.before _ s = true := fun w h => hts0 w (List.mem_cons_of_mem _ h)
  have hown : s.vm.findClass RX11 = some m.cls := findClass_of_methodNamed B.named
  have hlocks := B.notSynchronized
  subst hsz
  have hD := hD0.self (sz := s.heap.size)
  generalize hAe : va_A [(h0, .inr (11, [.ref h1, .ref h2, .ref h3, .ref h4, .ref h5, .int 0, .int 0]))] s.heap.size = A at hD ⊢
  have hA : ∀ q : Nat, s.heap.size ≤ q → A q := fun q h => by rw [← hAe]; exact Or.inr h
  have hS : va_S A s.heap s.heap [] := va_S.rf
  have hP : va_P (dC, dI) vwCl [(h0, .inr (11, [.ref h1, .ref h2, .ref h3, .ref h4, .ref h5, .int 0, .int 0]))] s.heap := hP
  have hl := lv_entry ([.ref h0, .int x0]) (n := 2) (Nat.le_of_ble_eq_true rfl)
  rw [lg_entry_eq]
  generalize (lg_sl ([.ref h0, .int x0]) ++ List.replicate (2 - (lg_sl ([.ref h0, .int x0])).length) Slot.unset).toArray = ls at hl ⊢
  have hl : lv_has ls 2 [(0, .ref h0), (1, .int x0)] := hl
  refine lv_iload_n hx hb dX11_count_0 rfl (lv_at hl 1 rfl) ?_
  refine lv_tableOut (tgt := 106) hx hb dX11_count_1 (by have := ix0; omega) (by decide) ?_
  refine lv_iconst (v := (-1)) hx hb dX11_count_106 (by decide) ?_
  have hP9 := hP.sub (ws' := [(h0, .inr (11, [.ref h1, .ref h2, .ref h3, .ref h4, .ref h5, .int 0, .int 0]))]) [0] rfl
  have hD9 := hD.sub (ws' := [(h0, .inr (11, [.ref h1, .ref h2, .ref h3, .ref h4, .ref h5, .int 0, .int 0]))]) [0] (by decide) rfl
  have hK9 := hK.sub (tys' := []) [] rfl
  exact W.iret (v := (-1)) hx hb hr (fun t ht hW => ⟨⟨(-1), (), rfl, ⟨rfl, trivial⟩, by rw [ht]; exact hP9, va_K.moved hW.alike hK9, hD9⟩, hS.F ht⟩) hS.2.2 dX11_count_107
set_option maxHeartbeats 4000000 in
set_option maxRecDepth 100000 in
theorem cX11_count_2 (l : Launch) (dC : Nat → ClassId) (dI : Nat → Nat → Nat) (h0 h1 h2 h3 h4 h5 : Nat) (sz : Nat) (x0 : Int32) (ix0 : iv x0 8 2147483647) : Met l yX11_count (Cond.code yX11_count cX11_count 2 (some .int) :: lw_G) ({ frames := 0, cells := 0, slots := 0, locals := 0 }) (va_Pc [.ref h0, .int x0] (fun U => U.heap.size = sz ∧ va_P (dC, dI) vwCl [(h0, .inr (11, [.ref h1, .ref h2, .ref h3, .ref h4, .ref h5, .int 0, .int 0]))] U.heap ∧ va_K (dC, dI) vwCl [] U ∧ va_D (fun _ => True) [(h0, .inr (11, [.ref h1, .ref h2, .ref h3, .ref h4, .ref h5, .int 0, .int 0]))])) (va_Qi (fun (r : Int32) (u : Unit) => r = (-1) ∧ True) (fun (u : Unit) (t : State) => va_P (dC, dI) vwCl [(h0, .inr (11, [.ref h1, .ref h2, .ref h3, .ref h4, .ref h5, .int 0, .int 0]))] t.heap ∧ va_K (dC, dI) vwCl [] t ∧ va_D (va_A [(h0, .inr (11, [.ref h1, .ref h2, .ref h3, .ref h4, .ref h5, .int 0, .int 0]))] sz) [(h0, .inr (11, [.ref h1, .ref h2, .ref h3, .ref h4, .ref h5, .int 0, .int 0]))]) (va_A [(h0, .inr (11, [.ref h1, .ref h2, .ref h3, .ref h4, .ref h5, .int 0, .int 0]))] sz)) 0 0 (va_A [(h0, .inr (11, [.ref h1, .ref h2, .ref h3, .ref h4, .ref h5, .int 0, .int 0]))] sz) := by
  refine Met.ofW (cc := cX11_count) (maxL := 2) (ret := (some .int)) (by decide) rfl ?_
  intro p e s m args below meth c s₁ B hml hv
  obtain ⟨rfl, hsz, hP, hK, hD0⟩ := hv
  have hx := B.exec
  have hb := B.bytes
  have hr := B.returns
  have hts0 := atoms_spec (ws := Cond.code yX11_count cX11_count 2 (some .int) :: lw_G) B.pre
  have hG : ∀ w ∈ lw_G, w.before _ s = true := fun w h => hts0 w (List.mem_cons_of_mem _ h)
  have hown : s.vm.findClass RX11 = some m.cls := findClass_of_methodNamed B.named
  have hlocks := B.notSynchronized
  subst hsz
  have hD := hD0.self (sz := s.heap.size)
  generalize hAe : va_A [(h0, .inr (11, [.ref h1, .ref h2, .ref h3, .ref h4, .ref h5, .int 0, .int 0]))] s.heap.size = A at hD ⊢
  have hA : ∀ q : Nat, s.heap.size ≤ q → A q := fun q h => by rw [← hAe]; exact Or.inr h
  have hS : va_S A s.heap s.heap [] := va_S.rf
  have hP : va_P (dC, dI) vwCl [(h0, .inr (11, [.ref h1, .ref h2, .ref h3, .ref h4, .ref h5, .int 0, .int 0]))] s.heap := hP
  have hl := lv_entry ([.ref h0, .int x0]) (n := 2) (Nat.le_of_ble_eq_true rfl)
  rw [lg_entry_eq]
  generalize (lg_sl ([.ref h0, .int x0]) ++ List.replicate (2 - (lg_sl ([.ref h0, .int x0])).length) Slot.unset).toArray = ls at hl ⊢
  have hl : lv_has ls 2 [(0, .ref h0), (1, .int x0)] := hl
  refine lv_iload_n hx hb dX11_count_0 rfl (lv_at hl 1 rfl) ?_
  refine lv_tableOut (tgt := 106) hx hb dX11_count_1 (by have := ix0; omega) (by decide) ?_
  refine lv_iconst (v := (-1)) hx hb dX11_count_106 (by decide) ?_
  have hP9 := hP.sub (ws' := [(h0, .inr (11, [.ref h1, .ref h2, .ref h3, .ref h4, .ref h5, .int 0, .int 0]))]) [0] rfl
  have hD9 := hD.sub (ws' := [(h0, .inr (11, [.ref h1, .ref h2, .ref h3, .ref h4, .ref h5, .int 0, .int 0]))]) [0] (by decide) rfl
  have hK9 := hK.sub (tys' := []) [] rfl
  exact W.iret (v := (-1)) hx hb hr (fun t ht hW => ⟨⟨(-1), (), rfl, ⟨rfl, trivial⟩, by rw [ht]; exact hP9, va_K.moved hW.alike hK9, hD9⟩, hS.F ht⟩) hS.2.2 dX11_count_107
set_option maxHeartbeats 4000000 in
set_option maxRecDepth 100000 in
theorem cX2_time_1 (l : Launch) (dC : Nat → ClassId) (dI : Nat → Nat → Nat) (h0 h1 h2 h3 : Nat) (sz : Nat) : Met l yX2_time (Cond.code yX2_time cX2_time 1 (some .int) :: lw_G) ({ frames := 0, cells := 0, slots := 0, locals := 0 }) (va_Pc [.ref h0] (fun U => U.heap.size = sz ∧ va_P (dC, dI) vwCl [(h0, .inr (2, [.ref h1, .ref h2, .ref h3, .int 0, .int 0, .int 0, .int 0, .int 0]))] U.heap ∧ va_K (dC, dI) vwCl [] U ∧ va_D (fun _ => True) [(h0, .inr (2, [.ref h1, .ref h2, .ref h3, .int 0, .int 0, .int 0, .int 0, .int 0]))])) (va_Qi (fun (r : Int32) (u : Unit) => r = 0 ∧ True) (fun (u : Unit) (t : State) => va_P (dC, dI) vwCl [(h0, .inr (2, [.ref h1, .ref h2, .ref h3, .int 0, .int 0, .int 0, .int 0, .int 0]))] t.heap ∧ va_K (dC, dI) vwCl [] t ∧ va_D (va_A [(h0, .inr (2, [.ref h1, .ref h2, .ref h3, .int 0, .int 0, .int 0, .int 0, .int 0]))] sz) [(h0, .inr (2, [.ref h1, .ref h2, .ref h3, .int 0, .int 0, .int 0, .int 0, .int 0]))]) (va_A [(h0, .inr (2, [.ref h1, .ref h2, .ref h3, .int 0, .int 0, .int 0, .int 0, .int 0]))] sz)) 0 0 (va_A [(h0, .inr (2, [.ref h1, .ref h2, .ref h3, .int 0, .int 0, .int 0, .int 0, .int 0]))] sz) := by
  refine Met.ofW (cc := cX2_time) (maxL := 1) (ret := (some .int)) (by decide) rfl ?_
  intro p e s m args below meth c s₁ B hml hv
  obtain ⟨rfl, hsz, hP, hK, hD0⟩ := hv
  have hx := B.exec
  have hb := B.bytes
  have hr := B.returns
  have hts0 := atoms_spec (ws := Cond.code yX2_time cX2_time 1 (some .int) :: lw_G) B.pre
  have hG : ∀ w ∈ lw_G, w.before _ s = true := fun w h => hts0 w (List.mem_cons_of_mem _ h)
  have hown : s.vm.findClass RX2 = some m.cls := findClass_of_methodNamed B.named
  have hlocks := B.notSynchronized
  subst hsz
  have hD := hD0.self (sz := s.heap.size)
  generalize hAe : va_A [(h0, .inr (2, [.ref h1, .ref h2, .ref h3, .int 0, .int 0, .int 0, .int 0, .int 0]))] s.heap.size = A at hD ⊢
  have hA : ∀ q : Nat, s.heap.size ≤ q → A q := fun q h => by rw [← hAe]; exact Or.inr h
  have hS : va_S A s.heap s.heap [] := va_S.rf
  have hP : va_P (dC, dI) vwCl [(h0, .inr (2, [.ref h1, .ref h2, .ref h3, .int 0, .int 0, .int 0, .int 0, .int 0]))] s.heap := hP
  have hl := lv_entry ([.ref h0]) (n := 1) (Nat.le_of_ble_eq_true rfl)
  rw [lg_entry_eq]
  generalize (lg_sl ([.ref h0]) ++ List.replicate (1 - (lg_sl ([.ref h0])).length) Slot.unset).toArray = ls at hl ⊢
  have hl : lv_has ls 1 [(0, .ref h0)] := hl
  refine lv_aload_n hx hb dX2_time_0 rfl (lv_at hl 0 rfl) ?_
  refine va_get (D := (dC, dI)) (ci := 2) (v := .int 0) (C := RX2) (T := TX2) (N := 8) hx hb hG inGX2 hown hK hP 0 rfl rfl 3 (by decide) (hG _ wd_152) (fun _ h9 => h9) rfl dX2_time_1 ?_
  have hP9 := hP.sub (ws' := [(h0, .inr (2, [.ref h1, .ref h2, .ref h3, .int 0, .int 0, .int 0, .int 0, .int 0]))]) [0] rfl
  have hD9 := hD.sub (ws' := [(h0, .inr (2, [.ref h1, .ref h2, .ref h3, .int 0, .int 0, .int 0, .int 0, .int 0]))]) [0] (by decide) rfl
  have hK9 := hK.sub (tys' := []) [] rfl
  exact W.iret (v := 0) hx hb hr (fun t ht hW => ⟨⟨0, (), rfl, ⟨rfl, trivial⟩, by rw [ht]; exact hP9, va_K.moved hW.alike hK9, hD9⟩, hS.F ht⟩) hS.2.2 dX2_time_4
set_option maxHeartbeats 4000000 in
set_option maxRecDepth 100000 in
theorem cX2_interrupts_1 (l : Launch) (dC : Nat → ClassId) (dI : Nat → Nat → Nat) (h0 h1 h2 h3 : Nat) (sz : Nat) : Met l yX2_interrupts (Cond.code yX2_interrupts cX2_interrupts 1 (some .int) :: lw_G) ({ frames := 0, cells := 0, slots := 0, locals := 0 }) (va_Pc [.ref h0] (fun U => U.heap.size = sz ∧ va_P (dC, dI) vwCl [(h0, .inr (2, [.ref h1, .ref h2, .ref h3, .int 0, .int 0, .int 0, .int 0, .int 0]))] U.heap ∧ va_K (dC, dI) vwCl [] U ∧ va_D (fun _ => True) [(h0, .inr (2, [.ref h1, .ref h2, .ref h3, .int 0, .int 0, .int 0, .int 0, .int 0]))])) (va_Qi (fun (r : Int32) (u : Unit) => r = 0 ∧ True) (fun (u : Unit) (t : State) => va_P (dC, dI) vwCl [(h0, .inr (2, [.ref h1, .ref h2, .ref h3, .int 0, .int 0, .int 0, .int 0, .int 0]))] t.heap ∧ va_K (dC, dI) vwCl [] t ∧ va_D (va_A [(h0, .inr (2, [.ref h1, .ref h2, .ref h3, .int 0, .int 0, .int 0, .int 0, .int 0]))] sz) [(h0, .inr (2, [.ref h1, .ref h2, .ref h3, .int 0, .int 0, .int 0, .int 0, .int 0]))]) (va_A [(h0, .inr (2, [.ref h1, .ref h2, .ref h3, .int 0, .int 0, .int 0, .int 0, .int 0]))] sz)) 0 0 (va_A [(h0, .inr (2, [.ref h1, .ref h2, .ref h3, .int 0, .int 0, .int 0, .int 0, .int 0]))] sz) := by
  refine Met.ofW (cc := cX2_interrupts) (maxL := 1) (ret := (some .int)) (by decide) rfl ?_
  intro p e s m args below meth c s₁ B hml hv
  obtain ⟨rfl, hsz, hP, hK, hD0⟩ := hv
  have hx := B.exec
  have hb := B.bytes
  have hr := B.returns
  have hts0 := atoms_spec (ws := Cond.code yX2_interrupts cX2_interrupts 1 (some .int) :: lw_G) B.pre
  have hG : ∀ w ∈ lw_G, w.before _ s = true := fun w h => hts0 w (List.mem_cons_of_mem _ h)
  have hown : s.vm.findClass RX2 = some m.cls := findClass_of_methodNamed B.named
  have hlocks := B.notSynchronized
  subst hsz
  have hD := hD0.self (sz := s.heap.size)
  generalize hAe : va_A [(h0, .inr (2, [.ref h1, .ref h2, .ref h3, .int 0, .int 0, .int 0, .int 0, .int 0]))] s.heap.size = A at hD ⊢
  have hA : ∀ q : Nat, s.heap.size ≤ q → A q := fun q h => by rw [← hAe]; exact Or.inr h
  have hS : va_S A s.heap s.heap [] := va_S.rf
  have hP : va_P (dC, dI) vwCl [(h0, .inr (2, [.ref h1, .ref h2, .ref h3, .int 0, .int 0, .int 0, .int 0, .int 0]))] s.heap := hP
  have hl := lv_entry ([.ref h0]) (n := 1) (Nat.le_of_ble_eq_true rfl)
  rw [lg_entry_eq]
  generalize (lg_sl ([.ref h0]) ++ List.replicate (1 - (lg_sl ([.ref h0])).length) Slot.unset).toArray = ls at hl ⊢
  have hl : lv_has ls 1 [(0, .ref h0)] := hl
  refine lv_aload_n hx hb dX2_interrupts_0 rfl (lv_at hl 0 rfl) ?_
  refine va_get (D := (dC, dI)) (ci := 2) (v := .int 0) (C := RX2) (T := TX2) (N := 8) hx hb hG inGX2 hown hK hP 0 rfl rfl 4 (by decide) (hG _ wd_153) (fun _ h9 => h9) rfl dX2_interrupts_1 ?_
  have hP9 := hP.sub (ws' := [(h0, .inr (2, [.ref h1, .ref h2, .ref h3, .int 0, .int 0, .int 0, .int 0, .int 0]))]) [0] rfl
  have hD9 := hD.sub (ws' := [(h0, .inr (2, [.ref h1, .ref h2, .ref h3, .int 0, .int 0, .int 0, .int 0, .int 0]))]) [0] (by decide) rfl
  have hK9 := hK.sub (tys' := []) [] rfl
  exact W.iret (v := 0) hx hb hr (fun t ht hW => ⟨⟨0, (), rfl, ⟨rfl, trivial⟩, by rw [ht]; exact hP9, va_K.moved hW.alike hK9, hD9⟩, hS.F ht⟩) hS.2.2 dX2_interrupts_4
set_option maxHeartbeats 4000000 in
set_option maxRecDepth 100000 in
theorem cX2_naps_1 (l : Launch) (dC : Nat → ClassId) (dI : Nat → Nat → Nat) (h0 h1 h2 h3 : Nat) (sz : Nat) : Met l yX2_naps (Cond.code yX2_naps cX2_naps 1 (some .int) :: lw_G) ({ frames := 0, cells := 0, slots := 0, locals := 0 }) (va_Pc [.ref h0] (fun U => U.heap.size = sz ∧ va_P (dC, dI) vwCl [(h0, .inr (2, [.ref h1, .ref h2, .ref h3, .int 0, .int 0, .int 0, .int 0, .int 0]))] U.heap ∧ va_K (dC, dI) vwCl [] U ∧ va_D (fun _ => True) [(h0, .inr (2, [.ref h1, .ref h2, .ref h3, .int 0, .int 0, .int 0, .int 0, .int 0]))])) (va_Qi (fun (r : Int32) (u : Unit) => r = 0 ∧ True) (fun (u : Unit) (t : State) => va_P (dC, dI) vwCl [(h0, .inr (2, [.ref h1, .ref h2, .ref h3, .int 0, .int 0, .int 0, .int 0, .int 0]))] t.heap ∧ va_K (dC, dI) vwCl [] t ∧ va_D (va_A [(h0, .inr (2, [.ref h1, .ref h2, .ref h3, .int 0, .int 0, .int 0, .int 0, .int 0]))] sz) [(h0, .inr (2, [.ref h1, .ref h2, .ref h3, .int 0, .int 0, .int 0, .int 0, .int 0]))]) (va_A [(h0, .inr (2, [.ref h1, .ref h2, .ref h3, .int 0, .int 0, .int 0, .int 0, .int 0]))] sz)) 0 0 (va_A [(h0, .inr (2, [.ref h1, .ref h2, .ref h3, .int 0, .int 0, .int 0, .int 0, .int 0]))] sz) := by
  refine Met.ofW (cc := cX2_naps) (maxL := 1) (ret := (some .int)) (by decide) rfl ?_
  intro p e s m args below meth c s₁ B hml hv
  obtain ⟨rfl, hsz, hP, hK, hD0⟩ := hv
  have hx := B.exec
  have hb := B.bytes
  have hr := B.returns
  have hts0 := atoms_spec (ws := Cond.code yX2_naps cX2_naps 1 (some .int) :: lw_G) B.pre
  have hG : ∀ w ∈ lw_G, w.before _ s = true := fun w h => hts0 w (List.mem_cons_of_mem _ h)
  have hown : s.vm.findClass RX2 = some m.cls := findClass_of_methodNamed B.named
  have hlocks := B.notSynchronized
  subst hsz
  have hD := hD0.self (sz := s.heap.size)
  generalize hAe : va_A [(h0, .inr (2, [.ref h1, .ref h2, .ref h3, .int 0, .int 0, .int 0, .int 0, .int 0]))] s.heap.size = A at hD ⊢
  have hA : ∀ q : Nat, s.heap.size ≤ q → A q := fun q h => by rw [← hAe]; exact Or.inr h
  have hS : va_S A s.heap s.heap [] := va_S.rf
  have hP : va_P (dC, dI) vwCl [(h0, .inr (2, [.ref h1, .ref h2, .ref h3, .int 0, .int 0, .int 0, .int 0, .int 0]))] s.heap := hP
  have hl := lv_entry ([.ref h0]) (n := 1) (Nat.le_of_ble_eq_true rfl)
  rw [lg_entry_eq]
  generalize (lg_sl ([.ref h0]) ++ List.replicate (1 - (lg_sl ([.ref h0])).length) Slot.unset).toArray = ls at hl ⊢
  have hl : lv_has ls 1 [(0, .ref h0)] := hl
  refine lv_aload_n hx hb dX2_naps_0 rfl (lv_at hl 0 rfl) ?_
  refine va_get (D := (dC, dI)) (ci := 2) (v := .int 0) (C := RX2) (T := TX2) (N := 8) hx hb hG inGX2 hown hK hP 0 rfl rfl 5 (by decide) (hG _ wd_154) (fun _ h9 => h9) rfl dX2_naps_1 ?_
  have hP9 := hP.sub (ws' := [(h0, .inr (2, [.ref h1, .ref h2, .ref h3, .int 0, .int 0, .int 0, .int 0, .int 0]))]) [0] rfl
  have hD9 := hD.sub (ws' := [(h0, .inr (2, [.ref h1, .ref h2, .ref h3, .int 0, .int 0, .int 0, .int 0, .int 0]))]) [0] (by decide) rfl
  have hK9 := hK.sub (tys' := []) [] rfl
  exact W.iret (v := 0) hx hb hr (fun t ht hW => ⟨⟨0, (), rfl, ⟨rfl, trivial⟩, by rw [ht]; exact hP9, va_K.moved hW.alike hK9, hD9⟩, hS.F ht⟩) hS.2.2 dX2_naps_4
set_option maxHeartbeats 4000000 in
set_option maxRecDepth 100000 in
theorem cX3_waiting_2 (l : Launch) (dC : Nat → ClassId) (dI : Nat → Nat → Nat) (h0 h1 h2 : Nat) (sz : Nat) : Met l yX3_waiting (Cond.code yX3_waiting cX3_waiting 1 (some .int) :: lw_G) ({ frames := 0, cells := 0, slots := 0, locals := 0 }) (va_Pc [.ref h0] (fun U => U.heap.size = sz ∧ va_P (dC, dI) vwCl [(h0, .inr (3, [.ref h1, .ref h2, .int 0]))] U.heap ∧ va_K (dC, dI) vwCl [] U ∧ va_D (fun _ => True) [(h0, .inr (3, [.ref h1, .ref h2, .int 0]))])) (va_Qi (fun (r : Int32) (u : Unit) => r = 0 ∧ True) (fun (u : Unit) (t : State) => va_P (dC, dI) vwCl [(h0, .inr (3, [.ref h1, .ref h2, .int 0]))] t.heap ∧ va_K (dC, dI) vwCl [] t ∧ va_D (va_A [(h0, .inr (3, [.ref h1, .ref h2, .int 0]))] sz) [(h0, .inr (3, [.ref h1, .ref h2, .int 0]))]) (va_A [(h0, .inr (3, [.ref h1, .ref h2, .int 0]))] sz)) 0 0 (va_A [(h0, .inr (3, [.ref h1, .ref h2, .int 0]))] sz) := by
  refine Met.ofW (cc := cX3_waiting) (maxL := 1) (ret := (some .int)) (by decide) rfl ?_
  intro p e s m args below meth c s₁ B hml hv
  obtain ⟨rfl, hsz, hP, hK, hD0⟩ := hv
  have hx := B.exec
  have hb := B.bytes
  have hr := B.returns
  have hts0 := atoms_spec (ws := Cond.code yX3_waiting cX3_waiting 1 (some .int) :: lw_G) B.pre
  have hG : ∀ w ∈ lw_G, w.before _ s = true := fun w h => hts0 w (List.mem_cons_of_mem _ h)
  have hown : s.vm.findClass RX3 = some m.cls := findClass_of_methodNamed B.named
  have hlocks := B.notSynchronized
  subst hsz
  have hD := hD0.self (sz := s.heap.size)
  generalize hAe : va_A [(h0, .inr (3, [.ref h1, .ref h2, .int 0]))] s.heap.size = A at hD ⊢
  have hA : ∀ q : Nat, s.heap.size ≤ q → A q := fun q h => by rw [← hAe]; exact Or.inr h
  have hS : va_S A s.heap s.heap [] := va_S.rf
  have hP : va_P (dC, dI) vwCl [(h0, .inr (3, [.ref h1, .ref h2, .int 0]))] s.heap := hP
  have hl := lv_entry ([.ref h0]) (n := 1) (Nat.le_of_ble_eq_true rfl)
  rw [lg_entry_eq]
  generalize (lg_sl ([.ref h0]) ++ List.replicate (1 - (lg_sl ([.ref h0])).length) Slot.unset).toArray = ls at hl ⊢
  have hl : lv_has ls 1 [(0, .ref h0)] := hl
  refine lv_aload_n hx hb dX3_waiting_0 rfl (lv_at hl 0 rfl) ?_
  refine va_get (D := (dC, dI)) (ci := 3) (v := .int 0) (C := RX3) (T := TX3) (N := 3) hx hb hG inGX3 hown hK hP 0 rfl rfl 2 (by decide) (hG _ wd_141) (fun _ h9 => h9) rfl dX3_waiting_1 ?_
  have hP9 := hP.sub (ws' := [(h0, .inr (3, [.ref h1, .ref h2, .int 0]))]) [0] rfl
  have hD9 := hD.sub (ws' := [(h0, .inr (3, [.ref h1, .ref h2, .int 0]))]) [0] (by decide) rfl
  have hK9 := hK.sub (tys' := []) [] rfl
  exact W.iret (v := 0) hx hb hr (fun t ht hW => ⟨⟨0, (), rfl, ⟨rfl, trivial⟩, by rw [ht]; exact hP9, va_K.moved hW.alike hK9, hD9⟩, hS.F ht⟩) hS.2.2 dX3_waiting_4
set_option maxHeartbeats 4000000 in
set_option maxRecDepth 100000 in
theorem cX2_waitingEvents_1 (l : Launch) (dC : Nat → ClassId) (dI : Nat → Nat → Nat) (h0 h1 h2 h3 h4 h5 : Nat) (sz : Nat) : Met l yX2_waitingEvents (Cond.code yX2_waitingEvents cX2_waitingEvents 1 (some .int) :: lw_G) ({ frames := 1, cells := 0, slots := 0, locals := 20 }) (va_Pc [.ref h0] (fun U => U.heap.size = sz ∧ va_P (dC, dI) vwCl [(h0, .inr (2, [.ref h1, .ref h2, .ref h3, .int 0, .int 0, .int 0, .int 0, .int 0])), (h2, .inr (3, [.ref h4, .ref h5, .int 0]))] U.heap ∧ va_K (dC, dI) vwCl [] U ∧ va_D (fun _ => True) [(h0, .inr (2, [.ref h1, .ref h2, .ref h3, .int 0, .int 0, .int 0, .int 0, .int 0])), (h2, .inr (3, [.ref h4, .ref h5, .int 0]))])) (va_Qi (fun (r : Int32) (u : Unit) => r = 0 ∧ True) (fun (u : Unit) (t : State) => va_P (dC, dI) vwCl [(h0, .inr (2, [.ref h1, .ref h2, .ref h3, .int 0, .int 0, .int 0, .int 0, .int 0])), (h2, .inr (3, [.ref h4, .ref h5, .int 0]))] t.heap ∧ va_K (dC, dI) vwCl [] t ∧ va_D (va_A [(h0, .inr (2, [.ref h1, .ref h2, .ref h3, .int 0, .int 0, .int 0, .int 0, .int 0])), (h2, .inr (3, [.ref h4, .ref h5, .int 0]))] sz) [(h0, .inr (2, [.ref h1, .ref h2, .ref h3, .int 0, .int 0, .int 0, .int 0, .int 0])), (h2, .inr (3, [.ref h4, .ref h5, .int 0]))]) (va_A [(h0, .inr (2, [.ref h1, .ref h2, .ref h3, .int 0, .int 0, .int 0, .int 0, .int 0])), (h2, .inr (3, [.ref h4, .ref h5, .int 0]))] sz)) 0 0 (va_A [(h0, .inr (2, [.ref h1, .ref h2, .ref h3, .int 0, .int 0, .int 0, .int 0, .int 0])), (h2, .inr (3, [.ref h4, .ref h5, .int 0]))] sz) := by
  refine Met.ofW (cc := cX2_waitingEvents) (maxL := 1) (ret := (some .int)) (by decide) rfl ?_
  intro p e s m args below meth c s₁ B hml hv
  obtain ⟨rfl, hsz, hP, hK, hD0⟩ := hv
  have hx := B.exec
  have hb := B.bytes
  have hr := B.returns
  have hts0 := atoms_spec (ws := Cond.code yX2_waitingEvents cX2_waitingEvents 1 (some .int) :: lw_G) B.pre
  have hG : ∀ w ∈ lw_G, w.before _ s = true := fun w h => hts0 w (List.mem_cons_of_mem _ h)
  have hown : s.vm.findClass RX2 = some m.cls := findClass_of_methodNamed B.named
  have hlocks := B.notSynchronized
  subst hsz
  have hD := hD0.self (sz := s.heap.size)
  generalize hAe : va_A [(h0, .inr (2, [.ref h1, .ref h2, .ref h3, .int 0, .int 0, .int 0, .int 0, .int 0])), (h2, .inr (3, [.ref h4, .ref h5, .int 0]))] s.heap.size = A at hD ⊢
  have hA : ∀ q : Nat, s.heap.size ≤ q → A q := fun q h => by rw [← hAe]; exact Or.inr h
  have hS : va_S A s.heap s.heap [] := va_S.rf
  have hP : va_P (dC, dI) vwCl [(h0, .inr (2, [.ref h1, .ref h2, .ref h3, .int 0, .int 0, .int 0, .int 0, .int 0])), (h2, .inr (3, [.ref h4, .ref h5, .int 0]))] s.heap := hP
  have hl := lv_entry ([.ref h0]) (n := 1) (Nat.le_of_ble_eq_true rfl)
  rw [lg_entry_eq]
  generalize (lg_sl ([.ref h0]) ++ List.replicate (1 - (lg_sl ([.ref h0])).length) Slot.unset).toArray = ls at hl ⊢
  have hl : lv_has ls 1 [(0, .ref h0)] := hl
  refine lv_aload_n hx hb dX2_waitingEvents_0 rfl (lv_at hl 0 rfl) ?_
  refine va_get (D := (dC, dI)) (ci := 2) (v := .ref h2) (C := RX2) (T := TX2) (N := 8) hx hb hG inGX2 hown hK hP 0 rfl rfl 1 (by decide) (hG _ wd_150) (fun _ h9 => h9) rfl dX2_waitingEvents_1 ?_
  have hPc := hP.sub (ws' := [(h2, .inr (3, [.ref h4, .ref h5, .int 0]))]) [1] rfl
  have hDc := hD.sub (ws' := [(h2, .inr (3, [.ref h4, .ref h5, .int 0]))]) [1] (by decide) rfl
  have hKc := hK.sub (tys' := []) [] rfl
  have hFc := va_free (wc := [(h2, .inr (3, [.ref h4, .ref h5, .int 0]))]) hD hS hA [1] rfl
  refine va_calli (va_runV (As := []) (rest := []) ⟨hx, hb, hml, hown, hG⟩ (cX3_waiting_2 l dC dI h2 h4 h5 s.heap.size) (cwV 0 hG (gV wd_846 wd_847 wd_848 wd_7 wd_849) rfl rfl rfl (by decide +kernel) ⟨Nat.le_of_ble_eq_true rfl, Nat.le_of_ble_eq_true rfl⟩) ⟨fun a U g mk q => by obtain ⟨q0, q1, qP, qK, qD⟩ := q; exact ⟨q0, q1, qP, va_K.moved (u := U) (U := U.calling g mk a) (Vm.Alike.refl U.vm) qK, qD⟩, va_recv hKc hPc (ci := 3) (q0 := 0) rfl rfl, fun U hU hW => ⟨rfl, by rw [hU], by rw [hU]; exact hPc, va_K.moved hW.alike hKc, hDc.weaken (fun _ _ _ _ => trivial)⟩⟩ rfl rfl hl.1 rfl (lv_room (Nat.le_of_ble_eq_true rfl)) dX2_waitingEvents_4 ⟨by decide, by decide⟩) hS (fun q _ h => hFc q h) hFc (fun r1 u2 t H1 locs ht hvm hw hB hz1 hk1 hS => ?_)
  have hw : r1 = 0 ∧ True := hw
  obtain ⟨er1, -⟩ := hw
  obtain ⟨hP1, hK1, hD1⟩ := hB
  rw [ht] at hP1
  have hK1 := va_K.moved hvm.symm hK1
  obtain ⟨hP, hD⟩ := va_join (wr := [(h0, .inr (2, [.ref h1, .ref h2, .ref h3, .int 0, .int 0, .int 0, .int 0, .int 0]))]) (w1 := [(h2, .inr (3, [.ref h4, .ref h5, .int 0]))]) hP hD [1] [0] rfl rfl (by decide) (by decide) hk1 hFc hP1 hD1
  have hK := (hK.sub (tys' := []) [] rfl).app hK1
  generalize H1 = H at hP hS ⊢
  have hP : va_P (dC, dI) vwCl [(h0, .inr (2, [.ref h1, .ref h2, .ref h3, .int 0, .int 0, .int 0, .int 0, .int 0])), (h2, .inr (3, [.ref h4, .ref h5, .int 0]))] H := hP
  have hD : va_D A [(h0, .inr (2, [.ref h1, .ref h2, .ref h3, .int 0, .int 0, .int 0, .int 0, .int 0])), (h2, .inr (3, [.ref h4, .ref h5, .int 0]))] := hD
  have hK : va_K (dC, dI) vwCl [] s := hK
  subst er1
  have hP9 := hP.sub (ws' := [(h0, .inr (2, [.ref h1, .ref h2, .ref h3, .int 0, .int 0, .int 0, .int 0, .int 0])), (h2, .inr (3, [.ref h4, .ref h5, .int 0]))]) [0, 1] rfl
  have hD9 := hD.sub (ws' := [(h0, .inr (2, [.ref h1, .ref h2, .ref h3, .int 0, .int 0, .int 0, .int 0, .int 0])), (h2, .inr (3, [.ref h4, .ref h5, .int 0]))]) [0, 1] (by decide) rfl
  have hK9 := hK.sub (tys' := []) [] rfl
  exact W.iret (v := 0) hx hb hr (fun t ht hW => ⟨⟨0, (), rfl, ⟨rfl, trivial⟩, by rw [ht]; exact hP9, va_K.moved hW.alike hK9, hD9⟩, hS.F ht⟩) hS.2.2 dX2_waitingEvents_7
set_option maxHeartbeats 4000000 in
set_option maxRecDepth 100000 in
theorem cX8_length_1 (l : Launch) (dC : Nat → ClassId) (dI : Nat → Nat → Nat) (h0 h1 h2 : Nat) (sz : Nat) : Met l yX8_length (Cond.code yX8_length cX8_length 1 (some .int) :: lw_G) ({ frames := 0, cells := 0, slots := 0, locals := 0 }) (va_Pc [.ref h0] (fun U => U.heap.size = sz ∧ va_P (dC, dI) vwCl [(h0, .inr (8, [.ref h1, .ref h2, .int 0, .int 0, .int 0]))] U.heap ∧ va_K (dC, dI) vwCl [] U ∧ va_D (fun _ => True) [(h0, .inr (8, [.ref h1, .ref h2, .int 0, .int 0, .int 0]))])) (va_Qi (fun (r : Int32) (u : Unit) => r = 0 ∧ True) (fun (u : Unit) (t : State) => va_P (dC, dI) vwCl [(h0, .inr (8, [.ref h1, .ref h2, .int 0, .int 0, .int 0]))] t.heap ∧ va_K (dC, dI) vwCl [] t ∧ va_D (va_A [(h0, .inr (8, [.ref h1, .ref h2, .int 0, .int 0, .int 0]))] sz) [(h0, .inr (8, [.ref h1, .ref h2, .int 0, .int 0, .int 0]))]) (va_A [(h0, .inr (8, [.ref h1, .ref h2, .int 0, .int 0, .int 0]))] sz)) 0 0 (va_A [(h0, .inr (8, [.ref h1, .ref h2, .int 0, .int 0, .int 0]))] sz) := by
  refine Met.ofW (cc := cX8_length) (maxL := 1) (ret := (some .int)) (by decide) rfl ?_
  intro p e s m args below meth c s₁ B hml hv
  obtain ⟨rfl, hsz, hP, hK, hD0⟩ := hv
  have hx := B.exec
  have hb := B.bytes
  have hr := B.returns
  have hts0 := atoms_spec (ws := Cond.code yX8_length cX8_length 1 (some .int) :: lw_G) B.pre
  have hG : ∀ w ∈ lw_G, w.before _ s = true := fun w h => hts0 w (List.mem_cons_of_mem _ h)
  have hown : s.vm.findClass RX8 = some m.cls := findClass_of_methodNamed B.named
  have hlocks := B.notSynchronized
  subst hsz
  have hD := hD0.self (sz := s.heap.size)
  generalize hAe : va_A [(h0, .inr (8, [.ref h1, .ref h2, .int 0, .int 0, .int 0]))] s.heap.size = A at hD ⊢
  have hA : ∀ q : Nat, s.heap.size ≤ q → A q := fun q h => by rw [← hAe]; exact Or.inr h
  have hS : va_S A s.heap s.heap [] := va_S.rf
  have hP : va_P (dC, dI) vwCl [(h0, .inr (8, [.ref h1, .ref h2, .int 0, .int 0, .int 0]))] s.heap := hP
  have hl := lv_entry ([.ref h0]) (n := 1) (Nat.le_of_ble_eq_true rfl)
  rw [lg_entry_eq]
  generalize (lg_sl ([.ref h0]) ++ List.replicate (1 - (lg_sl ([.ref h0])).length) Slot.unset).toArray = ls at hl ⊢
  have hl : lv_has ls 1 [(0, .ref h0)] := hl
  refine lv_aload_n hx hb dX8_length_0 rfl (lv_at hl 0 rfl) ?_
  refine va_get (D := (dC, dI)) (ci := 8) (v := .int 0) (C := RX8) (T := TX8) (N := 5) hx hb hG inGX8 hown hK hP 0 rfl rfl 2 (by decide) (hG _ wd_381) (fun _ h9 => h9) rfl dX8_length_1 ?_
  have hP9 := hP.sub (ws' := [(h0, .inr (8, [.ref h1, .ref h2, .int 0, .int 0, .int 0]))]) [0] rfl
  have hD9 := hD.sub (ws' := [(h0, .inr (8, [.ref h1, .ref h2, .int 0, .int 0, .int 0]))]) [0] (by decide) rfl
  have hK9 := hK.sub (tys' := []) [] rfl
  exact W.iret (v := 0) hx hb hr (fun t ht hW => ⟨⟨0, (), rfl, ⟨rfl, trivial⟩, by rw [ht]; exact hP9, va_K.moved hW.alike hK9, hD9⟩, hS.F ht⟩) hS.2.2 dX8_length_4
set_option maxHeartbeats 4000000 in
set_option maxRecDepth 100000 in
theorem cX8_behind_1 (l : Launch) (dC : Nat → ClassId) (dI : Nat → Nat → Nat) (h0 h1 h2 : Nat) (sz : Nat) : Met l yX8_behind (Cond.code yX8_behind cX8_behind 1 (some .int) :: lw_G) ({ frames := 0, cells := 0, slots := 0, locals := 0 }) (va_Pc [.ref h0] (fun U => U.heap.size = sz ∧ va_P (dC, dI) vwCl [(h0, .inr (8, [.ref h1, .ref h2, .int 0, .int 0, .int 0]))] U.heap ∧ va_K (dC, dI) vwCl [] U ∧ va_D (fun _ => True) [(h0, .inr (8, [.ref h1, .ref h2, .int 0, .int 0, .int 0]))])) (va_Qi (fun (r : Int32) (u : Unit) => r = 0 ∧ True) (fun (u : Unit) (t : State) => va_P (dC, dI) vwCl [(h0, .inr (8, [.ref h1, .ref h2, .int 0, .int 0, .int 0]))] t.heap ∧ va_K (dC, dI) vwCl [] t ∧ va_D (va_A [(h0, .inr (8, [.ref h1, .ref h2, .int 0, .int 0, .int 0]))] sz) [(h0, .inr (8, [.ref h1, .ref h2, .int 0, .int 0, .int 0]))]) (va_A [(h0, .inr (8, [.ref h1, .ref h2, .int 0, .int 0, .int 0]))] sz)) 0 0 (va_A [(h0, .inr (8, [.ref h1, .ref h2, .int 0, .int 0, .int 0]))] sz) := by
  refine Met.ofW (cc := cX8_behind) (maxL := 1) (ret := (some .int)) (by decide) rfl ?_
  intro p e s m args below meth c s₁ B hml hv
  obtain ⟨rfl, hsz, hP, hK, hD0⟩ := hv
  have hx := B.exec
  have hb := B.bytes
  have hr := B.returns
  have hts0 := atoms_spec (ws := Cond.code yX8_behind cX8_behind 1 (some .int) :: lw_G) B.pre
  have hG : ∀ w ∈ lw_G, w.before _ s = true := fun w h => hts0 w (List.mem_cons_of_mem _ h)
  have hown : s.vm.findClass RX8 = some m.cls := findClass_of_methodNamed B.named
  have hlocks := B.notSynchronized
  subst hsz
  have hD := hD0.self (sz := s.heap.size)
  generalize hAe : va_A [(h0, .inr (8, [.ref h1, .ref h2, .int 0, .int 0, .int 0]))] s.heap.size = A at hD ⊢
  have hA : ∀ q : Nat, s.heap.size ≤ q → A q := fun q h => by rw [← hAe]; exact Or.inr h
  have hS : va_S A s.heap s.heap [] := va_S.rf
  have hP : va_P (dC, dI) vwCl [(h0, .inr (8, [.ref h1, .ref h2, .int 0, .int 0, .int 0]))] s.heap := hP
  have hl := lv_entry ([.ref h0]) (n := 1) (Nat.le_of_ble_eq_true rfl)
  rw [lg_entry_eq]
  generalize (lg_sl ([.ref h0]) ++ List.replicate (1 - (lg_sl ([.ref h0])).length) Slot.unset).toArray = ls at hl ⊢
  have hl : lv_has ls 1 [(0, .ref h0)] := hl
  refine lv_aload_n hx hb dX8_behind_0 rfl (lv_at hl 0 rfl) ?_
  refine va_get (D := (dC, dI)) (ci := 8) (v := .int 0) (C := RX8) (T := TX8) (N := 5) hx hb hG inGX8 hown hK hP 0 rfl rfl 3 (by decide) (hG _ wd_382) (fun _ h9 => h9) rfl dX8_behind_1 ?_
  have hP9 := hP.sub (ws' := [(h0, .inr (8, [.ref h1, .ref h2, .int 0, .int 0, .int 0]))]) [0] rfl
  have hD9 := hD.sub (ws' := [(h0, .inr (8, [.ref h1, .ref h2, .int 0, .int 0, .int 0]))]) [0] (by decide) rfl
  have hK9 := hK.sub (tys' := []) [] rfl
  exact W.iret (v := 0) hx hb hr (fun t ht hW => ⟨⟨0, (), rfl, ⟨rfl, trivial⟩, by rw [ht]; exact hP9, va_K.moved hW.alike hK9, hD9⟩, hS.F ht⟩) hS.2.2 dX8_behind_4
set_option maxHeartbeats 4000000 in
set_option maxRecDepth 100000 in
theorem cX11_count_3 (l : Launch) (dC : Nat → ClassId) (dI : Nat → Nat → Nat) (h0 h1 h2 h3 h4 h5 h6 h7 h8 h9 h10 : Nat) (sz : Nat) (x0 : Int32) (ix0 : iv x0 0 7) : Met l yX11_count (Cond.code yX11_count cX11_count 2 (some .int) :: lw_G) ({ frames := 2, cells := 0, slots := 0, locals := 40 }) (va_Pc [.ref h0, .int x0] (fun U => U.heap.size = sz ∧ va_P (dC, dI) vwCl [(h0, .inr (11, [.ref h1, .ref h2, .ref h3, .ref h4, .ref h5, .int 0, .int 0])), (h3, .inr (2, [.ref h6, .ref h7, .ref h2, .int 0, .int 0, .int 0, .int 0, .int 0])), (h7, .inr (3, [.ref h8, .ref h9, .int 0])), (h5, .inr (8, [.ref h10, .ref h2, .int 0, .int 0, .int 0]))] U.heap ∧ va_K (dC, dI) vwCl [] U ∧ va_D (fun _ => True) [(h0, .inr (11, [.ref h1, .ref h2, .ref h3, .ref h4, .ref h5, .int 0, .int 0])), (h3, .inr (2, [.ref h6, .ref h7, .ref h2, .int 0, .int 0, .int 0, .int 0, .int 0])), (h7, .inr (3, [.ref h8, .ref h9, .int 0])), (h5, .inr (8, [.ref h10, .ref h2, .int 0, .int 0, .int 0]))])) (va_Qi (fun (r : Int32) (u : Unit) => r = 0 ∧ True) (fun (u : Unit) (t : State) => va_P (dC, dI) vwCl [(h0, .inr (11, [.ref h1, .ref h2, .ref h3, .ref h4, .ref h5, .int 0, .int 0])), (h3, .inr (2, [.ref h6, .ref h7, .ref h2, .int 0, .int 0, .int 0, .int 0, .int 0])), (h7, .inr (3, [.ref h8, .ref h9, .int 0])), (h5, .inr (8, [.ref h10, .ref h2, .int 0, .int 0, .int 0]))] t.heap ∧ va_K (dC, dI) vwCl [] t ∧ va_D (va_A [(h0, .inr (11, [.ref h1, .ref h2, .ref h3, .ref h4, .ref h5, .int 0, .int 0])), (h3, .inr (2, [.ref h6, .ref h7, .ref h2, .int 0, .int 0, .int 0, .int 0, .int 0])), (h7, .inr (3, [.ref h8, .ref h9, .int 0])), (h5, .inr (8, [.ref h10, .ref h2, .int 0, .int 0, .int 0]))] sz) [(h0, .inr (11, [.ref h1, .ref h2, .ref h3, .ref h4, .ref h5, .int 0, .int 0])), (h3, .inr (2, [.ref h6, .ref h7, .ref h2, .int 0, .int 0, .int 0, .int 0, .int 0])), (h7, .inr (3, [.ref h8, .ref h9, .int 0])), (h5, .inr (8, [.ref h10, .ref h2, .int 0, .int 0, .int 0]))]) (va_A [(h0, .inr (11, [.ref h1, .ref h2, .ref h3, .ref h4, .ref h5, .int 0, .int 0])), (h3, .inr (2, [.ref h6, .ref h7, .ref h2, .int 0, .int 0, .int 0, .int 0, .int 0])), (h7, .inr (3, [.ref h8, .ref h9, .int 0])), (h5, .inr (8, [.ref h10, .ref h2, .int 0, .int 0, .int 0]))] sz)) 0 0 (va_A [(h0, .inr (11, [.ref h1, .ref h2, .ref h3, .ref h4, .ref h5, .int 0, .int 0])), (h3, .inr (2, [.ref h6, .ref h7, .ref h2, .int 0, .int 0, .int 0, .int 0, .int 0])), (h7, .inr (3, [.ref h8, .ref h9, .int 0])), (h5, .inr (8, [.ref h10, .ref h2, .int 0, .int 0, .int 0]))] sz) := by
  refine Met.ofW (cc := cX11_count) (maxL := 2) (ret := (some .int)) (by decide) rfl ?_
  intro p e s m args below meth c s₁ B hml hv
  obtain ⟨rfl, hsz, hP, hK, hD0⟩ := hv
  have hx := B.exec
  have hb := B.bytes
  have hr := B.returns
  have hts0 := atoms_spec (ws := Cond.code yX11_count cX11_count 2 (some .int) :: lw_G) B.pre
  have hG : ∀ w ∈ lw_G, w.before _ s = true := fun w h => hts0 w (List.mem_cons_of_mem _ h)
  have hown : s.vm.findClass RX11 = some m.cls := findClass_of_methodNamed B.named
  have hlocks := B.notSynchronized
  subst hsz
  have hD := hD0.self (sz := s.heap.size)
  generalize hAe : va_A [(h0, .inr (11, [.ref h1, .ref h2, .ref h3, .ref h4, .ref h5, .int 0, .int 0])), (h3, .inr (2, [.ref h6, .ref h7, .ref h2, .int 0, .int 0, .int 0, .int 0, .int 0])), (h7, .inr (3, [.ref h8, .ref h9, .int 0])), (h5, .inr (8, [.ref h10, .ref h2, .int 0, .int 0, .int 0]))] s.heap.size = A at hD ⊢
  have hA : ∀ q : Nat, s.heap.size ≤ q → A q := fun q h => by rw [← hAe]; exact Or.inr h
  have hS : va_S A s.heap s.heap [] := va_S.rf
  have hP : va_P (dC, dI) vwCl [(h0, .inr (11, [.ref h1, .ref h2, .ref h3, .ref h4, .ref h5, .int 0, .int 0])), (h3, .inr (2, [.ref h6, .ref h7, .ref h2, .int 0, .int 0, .int 0, .int 0, .int 0])), (h7, .inr (3, [.ref h8, .ref h9, .int 0])), (h5, .inr (8, [.ref h10, .ref h2, .int 0, .int 0, .int 0]))] s.heap := hP
  have hl := lv_entry ([.ref h0, .int x0]) (n := 2) (Nat.le_of_ble_eq_true rfl)
  rw [lg_entry_eq]
  generalize (lg_sl ([.ref h0, .int x0]) ++ List.replicate (2 - (lg_sl ([.ref h0, .int x0])).length) Slot.unset).toArray = ls at hl ⊢
  have hl : lv_has ls 2 [(0, .ref h0), (1, .int x0)] := hl
  refine lv_iload_n hx hb dX11_count_0 rfl (lv_at hl 1 rfl) ?_
  have s1x : x0 = 0 ∨ x0 = 1 ∨ x0 = 2 ∨ x0 = 3 ∨ x0 = 4 ∨ x0 = 5 ∨ x0 = 6 ∨ x0 = 7 := by
    have := ix0
    have : x0.toInt = 0 ∨ x0.toInt = 1 ∨ x0.toInt = 2 ∨ x0.toInt = 3 ∨ x0.toInt = 4 ∨ x0.toInt = 5 ∨ x0.toInt = 6 ∨ x0.toInt = 7 := by omega
    rcases this with q | q | q | q | q | q | q | q
    · exact Or.inl (Int32.toInt_inj.mp q)
    · exact Or.inr (Or.inl (Int32.toInt_inj.mp q))
    · exact Or.inr (Or.inr (Or.inl (Int32.toInt_inj.mp q)))
    · exact Or.inr (Or.inr (Or.inr (Or.inl (Int32.toInt_inj.mp q))))
    · exact Or.inr (Or.inr (Or.inr (Or.inr (Or.inl (Int32.toInt_inj.mp q)))))
    · exact Or.inr (Or.inr (Or.inr (Or.inr (Or.inr (Or.inl (Int32.toInt_inj.mp q))))))
    · exact Or.inr (Or.inr (Or.inr (Or.inr (Or.inr (Or.inr (Or.inl (Int32.toInt_inj.mp q)))))))
    · exact Or.inr (Or.inr (Or.inr (Or.inr (Or.inr (Or.inr (Or.inr ((Int32.toInt_inj.mp q))))))))
  rcases s1x with rfl | rfl | rfl | rfl | rfl | rfl | rfl | rfl
  · skip
    refine lv_tableIn (off := 47) (tgt := 48) hx hb dX11_count_1 (by decide) (by decide) (by decide) (by decide) ?_
    refine lv_aload_n hx hb dX11_count_48 rfl (lv_at hl 0 rfl) ?_
    refine va_get (D := (dC, dI)) (ci := 11) (v := .ref h3) (C := RX11) (T := TX11) (N := 7) hx hb hG inGX11 hown hK hP 0 rfl rfl 2 (by decide) (hG _ wd_397) (fun _ h9 => h9) rfl dX11_count_49 ?_
    have hPc := hP.sub (ws' := [(h3, .inr (2, [.ref h6, .ref h7, .ref h2, .int 0, .int 0, .int 0, .int 0, .int 0]))]) [1] rfl
    have hDc := hD.sub (ws' := [(h3, .inr (2, [.ref h6, .ref h7, .ref h2, .int 0, .int 0, .int 0, .int 0, .int 0]))]) [1] (by decide) rfl
    have hKc := hK.sub (tys' := []) [] rfl
    have hFc := va_free (wc := [(h3, .inr (2, [.ref h6, .ref h7, .ref h2, .int 0, .int 0, .int 0, .int 0, .int 0]))]) hD hS hA [1] rfl
    refine va_calli (va_runV (As := []) (rest := []) ⟨hx, hb, hml, hown, hG⟩ (cX2_time_1 l dC dI h3 h6 h7 h2 s.heap.size) (cwV 0 hG (gV wd_854 wd_855 wd_856 wd_6 wd_857) rfl rfl rfl (by decide +kernel) ⟨Nat.le_of_ble_eq_true rfl, Nat.le_of_ble_eq_true rfl⟩) ⟨fun a U g mk q => by obtain ⟨q0, q1, qP, qK, qD⟩ := q; exact ⟨q0, q1, qP, va_K.moved (u := U) (U := U.calling g mk a) (Vm.Alike.refl U.vm) qK, qD⟩, va_recv hKc hPc (ci := 2) (q0 := 0) rfl rfl, fun U hU hW => ⟨rfl, by rw [hU], by rw [hU]; exact hPc, va_K.moved hW.alike hKc, hDc.weaken (fun _ _ _ _ => trivial)⟩⟩ rfl rfl hl.1 rfl (lv_room (Nat.le_of_ble_eq_true rfl)) dX11_count_52 ⟨by decide, by decide⟩) hS (fun q _ h => hFc q h) hFc (fun r2 u3 t H1 locs ht hvm hw hB hz1 hk1 hS => ?_)
    have hw : r2 = 0 ∧ True := hw
    obtain ⟨er2, -⟩ := hw
    obtain ⟨hP1, hK1, hD1⟩ := hB
    rw [ht] at hP1
    have hK1 := va_K.moved hvm.symm hK1
    obtain ⟨hP, hD⟩ := va_join (wr := [(h0, .inr (11, [.ref h1, .ref h2, .ref h3, .ref h4, .ref h5, .int 0, .int 0])), (h7, .inr (3, [.ref h8, .ref h9, .int 0])), (h5, .inr (8, [.ref h10, .ref h2, .int 0, .int 0, .int 0]))]) (w1 := [(h3, .inr (2, [.ref h6, .ref h7, .ref h2, .int 0, .int 0, .int 0, .int 0, .int 0]))]) hP hD [1] [0, 2, 3] rfl rfl (by decide) (by decide) hk1 hFc hP1 hD1
    have hK := (hK.sub (tys' := []) [] rfl).app hK1
    generalize H1 = H at hP hS ⊢
    have hP : va_P (dC, dI) vwCl [(h0, .inr (11, [.ref h1, .ref h2, .ref h3, .ref h4, .ref h5, .int 0, .int 0])), (h7, .inr (3, [.ref h8, .ref h9, .int 0])), (h5, .inr (8, [.ref h10, .ref h2, .int 0, .int 0, .int 0])), (h3, .inr (2, [.ref h6, .ref h7, .ref h2, .int 0, .int 0, .int 0, .int 0, .int 0]))] H := hP
    have hD : va_D A [(h0, .inr (11, [.ref h1, .ref h2, .ref h3, .ref h4, .ref h5, .int 0, .int 0])), (h7, .inr (3, [.ref h8, .ref h9, .int 0])), (h5, .inr (8, [.ref h10, .ref h2, .int 0, .int 0, .int 0])), (h3, .inr (2, [.ref h6, .ref h7, .ref h2, .int 0, .int 0, .int 0, .int 0, .int 0]))] := hD
    have hK : va_K (dC, dI) vwCl [] s := hK
    subst er2
    have hP9 := hP.sub (ws' := [(h0, .inr (11, [.ref h1, .ref h2, .ref h3, .ref h4, .ref h5, .int 0, .int 0])), (h3, .inr (2, [.ref h6, .ref h7, .ref h2, .int 0, .int 0, .int 0, .int 0, .int 0])), (h7, .inr (3, [.ref h8, .ref h9, .int 0])), (h5, .inr (8, [.ref h10, .ref h2, .int 0, .int 0, .int 0]))]) [0, 3, 1, 2] rfl
    have hD9 := hD.sub (ws' := [(h0, .inr (11, [.ref h1, .ref h2, .ref h3, .ref h4, .ref h5, .int 0, .int 0])), (h3, .inr (2, [.ref h6, .ref h7, .ref h2, .int 0, .int 0, .int 0, .int 0, .int 0])), (h7, .inr (3, [.ref h8, .ref h9, .int 0])), (h5, .inr (8, [.ref h10, .ref h2, .int 0, .int 0, .int 0]))]) [0, 3, 1, 2] (by decide) rfl
    have hK9 := hK.sub (tys' := []) [] rfl
    exact W.iret (v := 0) hx hb hr (fun t ht hW => ⟨⟨0, (), rfl, ⟨rfl, trivial⟩, by rw [ht]; exact hP9, va_K.moved hW.alike hK9, hD9⟩, hS.F ht⟩) hS.2.2 dX11_count_55
  · skip
    refine lv_tableIn (off := 55) (tgt := 56) hx hb dX11_count_1 (by decide) (by decide) (by decide) (by decide) ?_
    refine lv_aload_n hx hb dX11_count_56 rfl (lv_at hl 0 rfl) ?_
    refine va_get (D := (dC, dI)) (ci := 11) (v := .int 0) (C := RX11) (T := TX11) (N := 7) hx hb hG inGX11 hown hK hP 0 rfl rfl 6 (by decide) (hG _ wd_401) (fun _ h9 => h9) rfl dX11_count_57 ?_
    have hP9 := hP.sub (ws' := [(h0, .inr (11, [.ref h1, .ref h2, .ref h3, .ref h4, .ref h5, .int 0, .int 0])), (h3, .inr (2, [.ref h6, .ref h7, .ref h2, .int 0, .int 0, .int 0, .int 0, .int 0])), (h7, .inr (3, [.ref h8, .ref h9, .int 0])), (h5, .inr (8, [.ref h10, .ref h2, .int 0, .int 0, .int 0]))]) [0, 1, 2, 3] rfl
    have hD9 := hD.sub (ws' := [(h0, .inr (11, [.ref h1, .ref h2, .ref h3, .ref h4, .ref h5, .int 0, .int 0])), (h3, .inr (2, [.ref h6, .ref h7, .ref h2, .int 0, .int 0, .int 0, .int 0, .int 0])), (h7, .inr (3, [.ref h8, .ref h9, .int 0])), (h5, .inr (8, [.ref h10, .ref h2, .int 0, .int 0, .int 0]))]) [0, 1, 2, 3] (by decide) rfl
    have hK9 := hK.sub (tys' := []) [] rfl
    exact W.iret (v := 0) hx hb hr (fun t ht hW => ⟨⟨0, (), rfl, ⟨rfl, trivial⟩, by rw [ht]; exact hP9, va_K.moved hW.alike hK9, hD9⟩, hS.F ht⟩) hS.2.2 dX11_count_60
  · skip
    refine lv_tableIn (off := 60) (tgt := 61) hx hb dX11_count_1 (by decide) (by decide) (by decide) (by decide) ?_
    refine lv_aload_n hx hb dX11_count_61 rfl (lv_at hl 0 rfl) ?_
    refine va_get (D := (dC, dI)) (ci := 11) (v := .ref h3) (C := RX11) (T := TX11) (N := 7) hx hb hG inGX11 hown hK hP 0 rfl rfl 2 (by decide) (hG _ wd_397) (fun _ h9 => h9) rfl dX11_count_62 ?_
    have hPc := hP.sub (ws' := [(h3, .inr (2, [.ref h6, .ref h7, .ref h2, .int 0, .int 0, .int 0, .int 0, .int 0]))]) [1] rfl
    have hDc := hD.sub (ws' := [(h3, .inr (2, [.ref h6, .ref h7, .ref h2, .int 0, .int 0, .int 0, .int 0, .int 0]))]) [1] (by decide) rfl
    have hKc := hK.sub (tys' := []) [] rfl
    have hFc := va_free (wc := [(h3, .inr (2, [.ref h6, .ref h7, .ref h2, .int 0, .int 0, .int 0, .int 0, .int 0]))]) hD hS hA [1] rfl
    refine va_calli (va_runV (As := []) (rest := []) ⟨hx, hb, hml, hown, hG⟩ (cX2_interrupts_1 l dC dI h3 h6 h7 h2 s.heap.size) (cwV 0 hG (gV wd_858 wd_859 wd_860 wd_6 wd_861) rfl rfl rfl (by decide +kernel) ⟨Nat.le_of_ble_eq_true rfl, Nat.le_of_ble_eq_true rfl⟩) ⟨fun a U g mk q => by obtain ⟨q0, q1, qP, qK, qD⟩ := q; exact ⟨q0, q1, qP, va_K.moved (u := U) (U := U.calling g mk a) (Vm.Alike.refl U.vm) qK, qD⟩, va_recv hKc hPc (ci := 2) (q0 := 0) rfl rfl, fun U hU hW => ⟨rfl, by rw [hU], by rw [hU]; exact hPc, va_K.moved hW.alike hKc, hDc.weaken (fun _ _ _ _ => trivial)⟩⟩ rfl rfl hl.1 rfl (lv_room (Nat.le_of_ble_eq_true rfl)) dX11_count_65 ⟨by decide, by decide⟩) hS (fun q _ h => hFc q h) hFc (fun r4 u5 t H1 locs ht hvm hw hB hz1 hk1 hS => ?_)
    have hw : r4 = 0 ∧ True := hw
    obtain ⟨er4, -⟩ := hw
    obtain ⟨hP1, hK1, hD1⟩ := hB
    rw [ht] at hP1
    have hK1 := va_K.moved hvm.symm hK1
    obtain ⟨hP, hD⟩ := va_join (wr := [(h0, .inr (11, [.ref h1, .ref h2, .ref h3, .ref h4, .ref h5, .int 0, .int 0])), (h7, .inr (3, [.ref h8, .ref h9, .int 0])), (h5, .inr (8, [.ref h10, .ref h2, .int 0, .int 0, .int 0]))]) (w1 := [(h3, .inr (2, [.ref h6, .ref h7, .ref h2, .int 0, .int 0, .int 0, .int 0, .int 0]))]) hP hD [1] [0, 2, 3] rfl rfl (by decide) (by decide) hk1 hFc hP1 hD1
    have hK := (hK.sub (tys' := []) [] rfl).app hK1
    generalize H1 = H at hP hS ⊢
    have hP : va_P (dC, dI) vwCl [(h0, .inr (11, [.ref h1, .ref h2, .ref h3, .ref h4, .ref h5, .int 0, .int 0])), (h7, .inr (3, [.ref h8, .ref h9, .int 0])), (h5, .inr (8, [.ref h10, .ref h2, .int 0, .int 0, .int 0])), (h3, .inr (2, [.ref h6, .ref h7, .ref h2, .int 0, .int 0, .int 0, .int 0, .int 0]))] H := hP
    have hD : va_D A [(h0, .inr (11, [.ref h1, .ref h2, .ref h3, .ref h4, .ref h5, .int 0, .int 0])), (h7, .inr (3, [.ref h8, .ref h9, .int 0])), (h5, .inr (8, [.ref h10, .ref h2, .int 0, .int 0, .int 0])), (h3, .inr (2, [.ref h6, .ref h7, .ref h2, .int 0, .int 0, .int 0, .int 0, .int 0]))] := hD
    have hK : va_K (dC, dI) vwCl [] s := hK
    subst er4
    have hP9 := hP.sub (ws' := [(h0, .inr (11, [.ref h1, .ref h2, .ref h3, .ref h4, .ref h5, .int 0, .int 0])), (h3, .inr (2, [.ref h6, .ref h7, .ref h2, .int 0, .int 0, .int 0, .int 0, .int 0])), (h7, .inr (3, [.ref h8, .ref h9, .int 0])), (h5, .inr (8, [.ref h10, .ref h2, .int 0, .int 0, .int 0]))]) [0, 3, 1, 2] rfl
    have hD9 := hD.sub (ws' := [(h0, .inr (11, [.ref h1, .ref h2, .ref h3, .ref h4, .ref h5, .int 0, .int 0])), (h3, .inr (2, [.ref h6, .ref h7, .ref h2, .int 0, .int 0, .int 0, .int 0, .int 0])), (h7, .inr (3, [.ref h8, .ref h9, .int 0])), (h5, .inr (8, [.ref h10, .ref h2, .int 0, .int 0, .int 0]))]) [0, 3, 1, 2] (by decide) rfl
    have hK9 := hK.sub (tys' := []) [] rfl
    exact W.iret (v := 0) hx hb hr (fun t ht hW => ⟨⟨0, (), rfl, ⟨rfl, trivial⟩, by rw [ht]; exact hP9, va_K.moved hW.alike hK9, hD9⟩, hS.F ht⟩) hS.2.2 dX11_count_68
  · skip
    refine lv_tableIn (off := 68) (tgt := 69) hx hb dX11_count_1 (by decide) (by decide) (by decide) (by decide) ?_
    refine lv_aload_n hx hb dX11_count_69 rfl (lv_at hl 0 rfl) ?_
    refine va_get (D := (dC, dI)) (ci := 11) (v := .ref h3) (C := RX11) (T := TX11) (N := 7) hx hb hG inGX11 hown hK hP 0 rfl rfl 2 (by decide) (hG _ wd_397) (fun _ h9 => h9) rfl dX11_count_70 ?_
    have hPc := hP.sub (ws' := [(h3, .inr (2, [.ref h6, .ref h7, .ref h2, .int 0, .int 0, .int 0, .int 0, .int 0]))]) [1] rfl
    have hDc := hD.sub (ws' := [(h3, .inr (2, [.ref h6, .ref h7, .ref h2, .int 0, .int 0, .int 0, .int 0, .int 0]))]) [1] (by decide) rfl
    have hKc := hK.sub (tys' := []) [] rfl
    have hFc := va_free (wc := [(h3, .inr (2, [.ref h6, .ref h7, .ref h2, .int 0, .int 0, .int 0, .int 0, .int 0]))]) hD hS hA [1] rfl
    refine va_calli (va_runV (As := []) (rest := []) ⟨hx, hb, hml, hown, hG⟩ (cX2_naps_1 l dC dI h3 h6 h7 h2 s.heap.size) (cwV 0 hG (gV wd_862 wd_863 wd_864 wd_6 wd_865) rfl rfl rfl (by decide +kernel) ⟨Nat.le_of_ble_eq_true rfl, Nat.le_of_ble_eq_true rfl⟩) ⟨fun a U g mk q => by obtain ⟨q0, q1, qP, qK, qD⟩ := q; exact ⟨q0, q1, qP, va_K.moved (u := U) (U := U.calling g mk a) (Vm.Alike.refl U.vm) qK, qD⟩, va_recv hKc hPc (ci := 2) (q0 := 0) rfl rfl, fun U hU hW => ⟨rfl, by rw [hU], by rw [hU]; exact hPc, va_K.moved hW.alike hKc, hDc.weaken (fun _ _ _ _ => trivial)⟩⟩ rfl rfl hl.1 rfl (lv_room (Nat.le_of_ble_eq_true rfl)) dX11_count_73 ⟨by decide, by decide⟩) hS (fun q _ h => hFc q h) hFc (fun r6 u7 t H1 locs ht hvm hw hB hz1 hk1 hS => ?_)
    have hw : r6 = 0 ∧ True := hw
    obtain ⟨er6, -⟩ := hw
    obtain ⟨hP1, hK1, hD1⟩ := hB
    rw [ht] at hP1
    have hK1 := va_K.moved hvm.symm hK1
    obtain ⟨hP, hD⟩ := va_join (wr := [(h0, .inr (11, [.ref h1, .ref h2, .ref h3, .ref h4, .ref h5, .int 0, .int 0])), (h7, .inr (3, [.ref h8, .ref h9, .int 0])), (h5, .inr (8, [.ref h10, .ref h2, .int 0, .int 0, .int 0]))]) (w1 := [(h3, .inr (2, [.ref h6, .ref h7, .ref h2, .int 0, .int 0, .int 0, .int 0, .int 0]))]) hP hD [1] [0, 2, 3] rfl rfl (by decide) (by decide) hk1 hFc hP1 hD1
    have hK := (hK.sub (tys' := []) [] rfl).app hK1
    generalize H1 = H at hP hS ⊢
    have hP : va_P (dC, dI) vwCl [(h0, .inr (11, [.ref h1, .ref h2, .ref h3, .ref h4, .ref h5, .int 0, .int 0])), (h7, .inr (3, [.ref h8, .ref h9, .int 0])), (h5, .inr (8, [.ref h10, .ref h2, .int 0, .int 0, .int 0])), (h3, .inr (2, [.ref h6, .ref h7, .ref h2, .int 0, .int 0, .int 0, .int 0, .int 0]))] H := hP
    have hD : va_D A [(h0, .inr (11, [.ref h1, .ref h2, .ref h3, .ref h4, .ref h5, .int 0, .int 0])), (h7, .inr (3, [.ref h8, .ref h9, .int 0])), (h5, .inr (8, [.ref h10, .ref h2, .int 0, .int 0, .int 0])), (h3, .inr (2, [.ref h6, .ref h7, .ref h2, .int 0, .int 0, .int 0, .int 0, .int 0]))] := hD
    have hK : va_K (dC, dI) vwCl [] s := hK
    subst er6
    have hP9 := hP.sub (ws' := [(h0, .inr (11, [.ref h1, .ref h2, .ref h3, .ref h4, .ref h5, .int 0, .int 0])), (h3, .inr (2, [.ref h6, .ref h7, .ref h2, .int 0, .int 0, .int 0, .int 0, .int 0])), (h7, .inr (3, [.ref h8, .ref h9, .int 0])), (h5, .inr (8, [.ref h10, .ref h2, .int 0, .int 0, .int 0]))]) [0, 3, 1, 2] rfl
    have hD9 := hD.sub (ws' := [(h0, .inr (11, [.ref h1, .ref h2, .ref h3, .ref h4, .ref h5, .int 0, .int 0])), (h3, .inr (2, [.ref h6, .ref h7, .ref h2, .int 0, .int 0, .int 0, .int 0, .int 0])), (h7, .inr (3, [.ref h8, .ref h9, .int 0])), (h5, .inr (8, [.ref h10, .ref h2, .int 0, .int 0, .int 0]))]) [0, 3, 1, 2] (by decide) rfl
    have hK9 := hK.sub (tys' := []) [] rfl
    exact W.iret (v := 0) hx hb hr (fun t ht hW => ⟨⟨0, (), rfl, ⟨rfl, trivial⟩, by rw [ht]; exact hP9, va_K.moved hW.alike hK9, hD9⟩, hS.F ht⟩) hS.2.2 dX11_count_76
  · skip
    refine lv_tableIn (off := 76) (tgt := 77) hx hb dX11_count_1 (by decide) (by decide) (by decide) (by decide) ?_
    refine lv_aload_n hx hb dX11_count_77 rfl (lv_at hl 0 rfl) ?_
    refine va_get (D := (dC, dI)) (ci := 11) (v := .ref h3) (C := RX11) (T := TX11) (N := 7) hx hb hG inGX11 hown hK hP 0 rfl rfl 2 (by decide) (hG _ wd_397) (fun _ h9 => h9) rfl dX11_count_78 ?_
    have hPc := hP.sub (ws' := [(h3, .inr (2, [.ref h6, .ref h7, .ref h2, .int 0, .int 0, .int 0, .int 0, .int 0])), (h7, .inr (3, [.ref h8, .ref h9, .int 0]))]) [1, 2] rfl
    have hDc := hD.sub (ws' := [(h3, .inr (2, [.ref h6, .ref h7, .ref h2, .int 0, .int 0, .int 0, .int 0, .int 0])), (h7, .inr (3, [.ref h8, .ref h9, .int 0]))]) [1, 2] (by decide) rfl
    have hKc := hK.sub (tys' := []) [] rfl
    have hFc := va_free (wc := [(h3, .inr (2, [.ref h6, .ref h7, .ref h2, .int 0, .int 0, .int 0, .int 0, .int 0])), (h7, .inr (3, [.ref h8, .ref h9, .int 0]))]) hD hS hA [1, 2] rfl
    refine va_calli (va_runV (As := []) (rest := []) ⟨hx, hb, hml, hown, hG⟩ (cX2_waitingEvents_1 l dC dI h3 h6 h7 h2 h8 h9 s.heap.size) (cwV 0 hG (gV wd_866 wd_867 wd_868 wd_6 wd_869) rfl rfl rfl (by decide +kernel) ⟨Nat.le_of_ble_eq_true rfl, Nat.le_of_ble_eq_true rfl⟩) ⟨fun a U g mk q => by obtain ⟨q0, q1, qP, qK, qD⟩ := q; exact ⟨q0, q1, qP, va_K.moved (u := U) (U := U.calling g mk a) (Vm.Alike.refl U.vm) qK, qD⟩, va_recv hKc hPc (ci := 2) (q0 := 0) rfl rfl, fun U hU hW => ⟨rfl, by rw [hU], by rw [hU]; exact hPc, va_K.moved hW.alike hKc, hDc.weaken (fun _ _ _ _ => trivial)⟩⟩ rfl rfl hl.1 rfl (lv_room (Nat.le_of_ble_eq_true rfl)) dX11_count_81 ⟨by decide, by decide⟩) hS (fun q _ h => hFc q h) hFc (fun r8 u9 t H1 locs ht hvm hw hB hz1 hk1 hS => ?_)
    have hw : r8 = 0 ∧ True := hw
    obtain ⟨er8, -⟩ := hw
    obtain ⟨hP1, hK1, hD1⟩ := hB
    rw [ht] at hP1
    have hK1 := va_K.moved hvm.symm hK1
    obtain ⟨hP, hD⟩ := va_join (wr := [(h0, .inr (11, [.ref h1, .ref h2, .ref h3, .ref h4, .ref h5, .int 0, .int 0])), (h5, .inr (8, [.ref h10, .ref h2, .int 0, .int 0, .int 0]))]) (w1 := [(h3, .inr (2, [.ref h6, .ref h7, .ref h2, .int 0, .int 0, .int 0, .int 0, .int 0])), (h7, .inr (3, [.ref h8, .ref h9, .int 0]))]) hP hD [1, 2] [0, 3] rfl rfl (by decide) (by decide) hk1 hFc hP1 hD1
    have hK := (hK.sub (tys' := []) [] rfl).app hK1
    generalize H1 = H at hP hS ⊢
    have hP : va_P (dC, dI) vwCl [(h0, .inr (11, [.ref h1, .ref h2, .ref h3, .ref h4, .ref h5, .int 0, .int 0])), (h5, .inr (8, [.ref h10, .ref h2, .int 0, .int 0, .int 0])), (h3, .inr (2, [.ref h6, .ref h7, .ref h2, .int 0, .int 0, .int 0, .int 0, .int 0])), (h7, .inr (3, [.ref h8, .ref h9, .int 0]))] H := hP
    have hD : va_D A [(h0, .inr (11, [.ref h1, .ref h2, .ref h3, .ref h4, .ref h5, .int 0, .int 0])), (h5, .inr (8, [.ref h10, .ref h2, .int 0, .int 0, .int 0])), (h3, .inr (2, [.ref h6, .ref h7, .ref h2, .int 0, .int 0, .int 0, .int 0, .int 0])), (h7, .inr (3, [.ref h8, .ref h9, .int 0]))] := hD
    have hK : va_K (dC, dI) vwCl [] s := hK
    subst er8
    have hP9 := hP.sub (ws' := [(h0, .inr (11, [.ref h1, .ref h2, .ref h3, .ref h4, .ref h5, .int 0, .int 0])), (h3, .inr (2, [.ref h6, .ref h7, .ref h2, .int 0, .int 0, .int 0, .int 0, .int 0])), (h7, .inr (3, [.ref h8, .ref h9, .int 0])), (h5, .inr (8, [.ref h10, .ref h2, .int 0, .int 0, .int 0]))]) [0, 2, 3, 1] rfl
    have hD9 := hD.sub (ws' := [(h0, .inr (11, [.ref h1, .ref h2, .ref h3, .ref h4, .ref h5, .int 0, .int 0])), (h3, .inr (2, [.ref h6, .ref h7, .ref h2, .int 0, .int 0, .int 0, .int 0, .int 0])), (h7, .inr (3, [.ref h8, .ref h9, .int 0])), (h5, .inr (8, [.ref h10, .ref h2, .int 0, .int 0, .int 0]))]) [0, 2, 3, 1] (by decide) rfl
    have hK9 := hK.sub (tys' := []) [] rfl
    exact W.iret (v := 0) hx hb hr (fun t ht hW => ⟨⟨0, (), rfl, ⟨rfl, trivial⟩, by rw [ht]; exact hP9, va_K.moved hW.alike hK9, hD9⟩, hS.F ht⟩) hS.2.2 dX11_count_84
  · skip
    refine lv_tableIn (off := 84) (tgt := 85) hx hb dX11_count_1 (by decide) (by decide) (by decide) (by decide) ?_
    refine lv_aload_n hx hb dX11_count_85 rfl (lv_at hl 0 rfl) ?_
    refine va_get (D := (dC, dI)) (ci := 11) (v := .int 0) (C := RX11) (T := TX11) (N := 7) hx hb hG inGX11 hown hK hP 0 rfl rfl 5 (by decide) (hG _ wd_400) (fun _ h9 => h9) rfl dX11_count_86 ?_
    have hP9 := hP.sub (ws' := [(h0, .inr (11, [.ref h1, .ref h2, .ref h3, .ref h4, .ref h5, .int 0, .int 0])), (h3, .inr (2, [.ref h6, .ref h7, .ref h2, .int 0, .int 0, .int 0, .int 0, .int 0])), (h7, .inr (3, [.ref h8, .ref h9, .int 0])), (h5, .inr (8, [.ref h10, .ref h2, .int 0, .int 0, .int 0]))]) [0, 1, 2, 3] rfl
    have hD9 := hD.sub (ws' := [(h0, .inr (11, [.ref h1, .ref h2, .ref h3, .ref h4, .ref h5, .int 0, .int 0])), (h3, .inr (2, [.ref h6, .ref h7, .ref h2, .int 0, .int 0, .int 0, .int 0, .int 0])), (h7, .inr (3, [.ref h8, .ref h9, .int 0])), (h5, .inr (8, [.ref h10, .ref h2, .int 0, .int 0, .int 0]))]) [0, 1, 2, 3] (by decide) rfl
    have hK9 := hK.sub (tys' := []) [] rfl
    exact W.iret (v := 0) hx hb hr (fun t ht hW => ⟨⟨0, (), rfl, ⟨rfl, trivial⟩, by rw [ht]; exact hP9, va_K.moved hW.alike hK9, hD9⟩, hS.F ht⟩) hS.2.2 dX11_count_89
  · skip
    refine lv_tableIn (off := 89) (tgt := 90) hx hb dX11_count_1 (by decide) (by decide) (by decide) (by decide) ?_
    refine lv_aload_n hx hb dX11_count_90 rfl (lv_at hl 0 rfl) ?_
    refine va_get (D := (dC, dI)) (ci := 11) (v := .ref h5) (C := RX11) (T := TX11) (N := 7) hx hb hG inGX11 hown hK hP 0 rfl rfl 4 (by decide) (hG _ wd_399) (fun _ h9 => h9) rfl dX11_count_91 ?_
    have hPc := hP.sub (ws' := [(h5, .inr (8, [.ref h10, .ref h2, .int 0, .int 0, .int 0]))]) [3] rfl
    have hDc := hD.sub (ws' := [(h5, .inr (8, [.ref h10, .ref h2, .int 0, .int 0, .int 0]))]) [3] (by decide) rfl
    have hKc := hK.sub (tys' := []) [] rfl
    have hFc := va_free (wc := [(h5, .inr (8, [.ref h10, .ref h2, .int 0, .int 0, .int 0]))]) hD hS hA [3] rfl
    refine va_calli (va_runV (As := []) (rest := []) ⟨hx, hb, hml, hown, hG⟩ (cX8_length_1 l dC dI h5 h10 h2 s.heap.size) (cwV 0 hG (gV wd_870 wd_871 wd_872 wd_16 wd_873) rfl rfl rfl (by decide +kernel) ⟨Nat.le_of_ble_eq_true rfl, Nat.le_of_ble_eq_true rfl⟩) ⟨fun a U g mk q => by obtain ⟨q0, q1, qP, qK, qD⟩ := q; exact ⟨q0, q1, qP, va_K.moved (u := U) (U := U.calling g mk a) (Vm.Alike.refl U.vm) qK, qD⟩, va_recv hKc hPc (ci := 8) (q0 := 0) rfl rfl, fun U hU hW => ⟨rfl, by rw [hU], by rw [hU]; exact hPc, va_K.moved hW.alike hKc, hDc.weaken (fun _ _ _ _ => trivial)⟩⟩ rfl rfl hl.1 rfl (lv_room (Nat.le_of_ble_eq_true rfl)) dX11_count_94 ⟨by decide, by decide⟩) hS (fun q _ h => hFc q h) hFc (fun r10 u11 t H1 locs ht hvm hw hB hz1 hk1 hS => ?_)
    have hw : r10 = 0 ∧ True := hw
    obtain ⟨er10, -⟩ := hw
    obtain ⟨hP1, hK1, hD1⟩ := hB
    rw [ht] at hP1
    have hK1 := va_K.moved hvm.symm hK1
    obtain ⟨hP, hD⟩ := va_join (wr := [(h0, .inr (11, [.ref h1, .ref h2, .ref h3, .ref h4, .ref h5, .int 0, .int 0])), (h3, .inr (2, [.ref h6, .ref h7, .ref h2, .int 0, .int 0, .int 0, .int 0, .int 0])), (h7, .inr (3, [.ref h8, .ref h9, .int 0]))]) (w1 := [(h5, .inr (8, [.ref h10, .ref h2, .int 0, .int 0, .int 0]))]) hP hD [3] [0, 1, 2] rfl rfl (by decide) (by decide) hk1 hFc hP1 hD1
    have hK := (hK.sub (tys' := []) [] rfl).app hK1
    generalize H1 = H at hP hS ⊢
    have hP : va_P (dC, dI) vwCl [(h0, .inr (11, [.ref h1, .ref h2, .ref h3, .ref h4, .ref h5, .int 0, .int 0])), (h3, .inr (2, [.ref h6, .ref h7, .ref h2, .int 0, .int 0, .int 0, .int 0, .int 0])), (h7, .inr (3, [.ref h8, .ref h9, .int 0])), (h5, .inr (8, [.ref h10, .ref h2, .int 0, .int 0, .int 0]))] H := hP
    have hD : va_D A [(h0, .inr (11, [.ref h1, .ref h2, .ref h3, .ref h4, .ref h5, .int 0, .int 0])), (h3, .inr (2, [.ref h6, .ref h7, .ref h2, .int 0, .int 0, .int 0, .int 0, .int 0])), (h7, .inr (3, [.ref h8, .ref h9, .int 0])), (h5, .inr (8, [.ref h10, .ref h2, .int 0, .int 0, .int 0]))] := hD
    have hK : va_K (dC, dI) vwCl [] s := hK
    subst er10
    have hP9 := hP.sub (ws' := [(h0, .inr (11, [.ref h1, .ref h2, .ref h3, .ref h4, .ref h5, .int 0, .int 0])), (h3, .inr (2, [.ref h6, .ref h7, .ref h2, .int 0, .int 0, .int 0, .int 0, .int 0])), (h7, .inr (3, [.ref h8, .ref h9, .int 0])), (h5, .inr (8, [.ref h10, .ref h2, .int 0, .int 0, .int 0]))]) [0, 1, 2, 3] rfl
    have hD9 := hD.sub (ws' := [(h0, .inr (11, [.ref h1, .ref h2, .ref h3, .ref h4, .ref h5, .int 0, .int 0])), (h3, .inr (2, [.ref h6, .ref h7, .ref h2, .int 0, .int 0, .int 0, .int 0, .int 0])), (h7, .inr (3, [.ref h8, .ref h9, .int 0])), (h5, .inr (8, [.ref h10, .ref h2, .int 0, .int 0, .int 0]))]) [0, 1, 2, 3] (by decide) rfl
    have hK9 := hK.sub (tys' := []) [] rfl
    exact W.iret (v := 0) hx hb hr (fun t ht hW => ⟨⟨0, (), rfl, ⟨rfl, trivial⟩, by rw [ht]; exact hP9, va_K.moved hW.alike hK9, hD9⟩, hS.F ht⟩) hS.2.2 dX11_count_97
  · skip
    refine lv_tableIn (off := 97) (tgt := 98) hx hb dX11_count_1 (by decide) (by decide) (by decide) (by decide) ?_
    refine lv_aload_n hx hb dX11_count_98 rfl (lv_at hl 0 rfl) ?_
    refine va_get (D := (dC, dI)) (ci := 11) (v := .ref h5) (C := RX11) (T := TX11) (N := 7) hx hb hG inGX11 hown hK hP 0 rfl rfl 4 (by decide) (hG _ wd_399) (fun _ h9 => h9) rfl dX11_count_99 ?_
    have hPc := hP.sub (ws' := [(h5, .inr (8, [.ref h10, .ref h2, .int 0, .int 0, .int 0]))]) [3] rfl
    have hDc := hD.sub (ws' := [(h5, .inr (8, [.ref h10, .ref h2, .int 0, .int 0, .int 0]))]) [3] (by decide) rfl
    have hKc := hK.sub (tys' := []) [] rfl
    have hFc := va_free (wc := [(h5, .inr (8, [.ref h10, .ref h2, .int 0, .int 0, .int 0]))]) hD hS hA [3] rfl
    refine va_calli (va_runV (As := []) (rest := []) ⟨hx, hb, hml, hown, hG⟩ (cX8_behind_1 l dC dI h5 h10 h2 s.heap.size) (cwV 0 hG (gV wd_874 wd_875 wd_876 wd_16 wd_877) rfl rfl rfl (by decide +kernel) ⟨Nat.le_of_ble_eq_true rfl, Nat.le_of_ble_eq_true rfl⟩) ⟨fun a U g mk q => by obtain ⟨q0, q1, qP, qK, qD⟩ := q; exact ⟨q0, q1, qP, va_K.moved (u := U) (U := U.calling g mk a) (Vm.Alike.refl U.vm) qK, qD⟩, va_recv hKc hPc (ci := 8) (q0 := 0) rfl rfl, fun U hU hW => ⟨rfl, by rw [hU], by rw [hU]; exact hPc, va_K.moved hW.alike hKc, hDc.weaken (fun _ _ _ _ => trivial)⟩⟩ rfl rfl hl.1 rfl (lv_room (Nat.le_of_ble_eq_true rfl)) dX11_count_102 ⟨by decide, by decide⟩) hS (fun q _ h => hFc q h) hFc (fun r12 u13 t H1 locs ht hvm hw hB hz1 hk1 hS => ?_)
    have hw : r12 = 0 ∧ True := hw
    obtain ⟨er12, -⟩ := hw
    obtain ⟨hP1, hK1, hD1⟩ := hB
    rw [ht] at hP1
    have hK1 := va_K.moved hvm.symm hK1
    obtain ⟨hP, hD⟩ := va_join (wr := [(h0, .inr (11, [.ref h1, .ref h2, .ref h3, .ref h4, .ref h5, .int 0, .int 0])), (h3, .inr (2, [.ref h6, .ref h7, .ref h2, .int 0, .int 0, .int 0, .int 0, .int 0])), (h7, .inr (3, [.ref h8, .ref h9, .int 0]))]) (w1 := [(h5, .inr (8, [.ref h10, .ref h2, .int 0, .int 0, .int 0]))]) hP hD [3] [0, 1, 2] rfl rfl (by decide) (by decide) hk1 hFc hP1 hD1
    have hK := (hK.sub (tys' := []) [] rfl).app hK1
    generalize H1 = H at hP hS ⊢
    have hP : va_P (dC, dI) vwCl [(h0, .inr (11, [.ref h1, .ref h2, .ref h3, .ref h4, .ref h5, .int 0, .int 0])), (h3, .inr (2, [.ref h6, .ref h7, .ref h2, .int 0, .int 0, .int 0, .int 0, .int 0])), (h7, .inr (3, [.ref h8, .ref h9, .int 0])), (h5, .inr (8, [.ref h10, .ref h2, .int 0, .int 0, .int 0]))] H := hP
    have hD : va_D A [(h0, .inr (11, [.ref h1, .ref h2, .ref h3, .ref h4, .ref h5, .int 0, .int 0])), (h3, .inr (2, [.ref h6, .ref h7, .ref h2, .int 0, .int 0, .int 0, .int 0, .int 0])), (h7, .inr (3, [.ref h8, .ref h9, .int 0])), (h5, .inr (8, [.ref h10, .ref h2, .int 0, .int 0, .int 0]))] := hD
    have hK : va_K (dC, dI) vwCl [] s := hK
    subst er12
    have hP9 := hP.sub (ws' := [(h0, .inr (11, [.ref h1, .ref h2, .ref h3, .ref h4, .ref h5, .int 0, .int 0])), (h3, .inr (2, [.ref h6, .ref h7, .ref h2, .int 0, .int 0, .int 0, .int 0, .int 0])), (h7, .inr (3, [.ref h8, .ref h9, .int 0])), (h5, .inr (8, [.ref h10, .ref h2, .int 0, .int 0, .int 0]))]) [0, 1, 2, 3] rfl
    have hD9 := hD.sub (ws' := [(h0, .inr (11, [.ref h1, .ref h2, .ref h3, .ref h4, .ref h5, .int 0, .int 0])), (h3, .inr (2, [.ref h6, .ref h7, .ref h2, .int 0, .int 0, .int 0, .int 0, .int 0])), (h7, .inr (3, [.ref h8, .ref h9, .int 0])), (h5, .inr (8, [.ref h10, .ref h2, .int 0, .int 0, .int 0]))]) [0, 1, 2, 3] (by decide) rfl
    have hK9 := hK.sub (tys' := []) [] rfl
    exact W.iret (v := 0) hx hb hr (fun t ht hW => ⟨⟨0, (), rfl, ⟨rfl, trivial⟩, by rw [ht]; exact hP9, va_K.moved hW.alike hK9, hD9⟩, hS.F ht⟩) hS.2.2 dX11_count_105
set_option maxHeartbeats 4000000 in
set_option maxRecDepth 100000 in
theorem cX11_list_1 (l : Launch) (hst : l.stackTraces = false) (dC : Nat → ClassId) (dI : Nat → Nat → Nat) (adK adV : Nat → Nat) (h0 h1 h2 h3 h4 h5 : Nat) (sz : Nat) (x0 : Int32) (ix0 : iv x0 (-2147483648) (-1)) : vx_Met l yX11_list (Cond.code yX11_list cX11_list 3 (some .int) :: lw_G) ({ frames := 6, cells := 1, slots := 6, locals := 82 }) (va_Pc [.ref h0, .int x0] (fun U => U.heap.size = sz ∧ va_P (dC, dI) vwCl [(h0, .inr (11, [.ref h1, .ref h2, .ref h3, .ref h4, .ref h5, .int 0, .int 0]))] U.heap ∧ va_K (dC, dI) vwCl [] U ∧ va_D (fun _ => True) [(h0, .inr (11, [.ref h1, .ref h2, .ref h3, .ref h4, .ref h5, .int 0, .int 0]))] ∧ ev adK adV (va_A [(h0, .inr (11, [.ref h1, .ref h2, .ref h3, .ref h4, .ref h5, .int 0, .int 0]))] sz) U U.heap)) (va_Qi (fun (_ : Int32) (_ : Unit) => False) (fun _ _ => True) (va_A [(h0, .inr (11, [.ref h1, .ref h2, .ref h3, .ref h4, .ref h5, .int 0, .int 0]))] sz)) (vx_X (fun (_ : Unit) => True) (fun (E : String) (_ : Unit) (t : State) => E = "java/lang/IndexOutOfBoundsException" ∧ va_P (dC, dI) vwCl [(h0, .inr (11, [.ref h1, .ref h2, .ref h3, .ref h4, .ref h5, .int 0, .int 0]))] t.heap ∧ va_K (dC, dI) vwCl [] t ∧ va_D (va_A [(h0, .inr (11, [.ref h1, .ref h2, .ref h3, .ref h4, .ref h5, .int 0, .int 0]))] sz) [(h0, .inr (11, [.ref h1, .ref h2, .ref h3, .ref h4, .ref h5, .int 0, .int 0]))]) (va_A [(h0, .inr (11, [.ref h1, .ref h2, .ref h3, .ref h4, .ref h5, .int 0, .int 0]))] sz)) 1 6 (va_A [(h0, .inr (11, [.ref h1, .ref h2, .ref h3, .ref h4, .ref h5, .int 0, .int 0]))] sz) := by
  refine vx_ofW (cc := cX11_list) (maxL := 3) (ret := (some .int)) (by decide) rfl ?_
  intro p e s m args below meth c s₁ B hml htab hv
  obtain ⟨rfl, hsz, hP, hK, hD0, hE⟩ := hv
  have hx := B.exec
  have hb := B.bytes
  have hr := B.returns
  have hts0 := atoms_spec (ws := Cond.code yX11_list cX11_list 3 (some .int) :: lw_G) B.pre
  have hG : ∀ w ∈ lw_G, w.before _ s = true := fun w h => hts0 w (List.mem_cons_of_mem _ h)
  have hown : s.vm.findClass RX11 = some m.cls := findClass_of_methodNamed B.named
  have hlocks := B.notSynchronized
  subst hsz
  have hD := hD0.self (sz := s.heap.size)
  generalize hAe : va_A [(h0, .inr (11, [.ref h1, .ref h2, .ref h3, .ref h4, .ref h5, .int 0, .int 0]))] s.heap.size = A at hD hE ⊢
  have hA : ∀ q : Nat, s.heap.size ≤ q → A q := fun q h => by rw [← hAe]; exact Or.inr h
  have hS : va_S A s.heap s.heap [] := va_S.rf
  have hP : va_P (dC, dI) vwCl [(h0, .inr (11, [.ref h1, .ref h2, .ref h3, .ref h4, .ref h5, .int 0, .int 0]))] s.heap := hP
  have hl := lv_entry ([.ref h0, .int x0]) (n := 3) (Nat.le_of_ble_eq_true rfl)
  rw [lg_entry_eq]
  generalize (lg_sl ([.ref h0, .int x0]) ++ List.replicate (3 - (lg_sl ([.ref h0, .int x0])).length) Slot.unset).toArray = ls at hl ⊢
  have hl : lv_has ls 3 [(0, .ref h0), (1, .int x0)] := hl
  refine lv_iload_n hx hb dX11_list_0 rfl (lv_at hl 1 rfl) ?_
  refine lv_if_lt (tgt := 10) hx hb dX11_list_1 (by decide) (fun _ => ?_) (fun c => absurd (iv_lt ix0 (by decide : iv 0 0 0) (by decide)) c)
  have hP9 := hP.sub (ws' := [(h0, .inr (11, [.ref h1, .ref h2, .ref h3, .ref h4, .ref h5, .int 0, .int 0]))]) [0] rfl
  have hD9 := hD.sub (ws' := [(h0, .inr (11, [.ref h1, .ref h2, .ref h3, .ref h4, .ref h5, .int 0, .int 0]))]) [0] (by decide) rfl
  have hK9 := hK.sub (tys' := []) [] rfl
  refine vx_throwS (own := RX11) (cls := "java/lang/IndexOutOfBoundsException") (text := evT4) (names := ["java/lang/RuntimeException", "java/lang/Exception"]) hx hb hst hown (by decide) (by decide) (hG _ wd_1126) (hG _ wd_24) (evR4 hE) (evA1 hE hG) evG1_106 hE.2.2.2.1 hE.2.2.2.2.1 hS (by rw [hml]; exact hl.1) dX11_list_10 dX11_list_13 dX11_list_14 dX11_list_16 dX11_list_19 (fun x hx9 => (htab x hx9).elim) (by decide) (by decide) (by decide) (by decide) hlocks (fun t hvm9 hz9 hk9 => ⟨(), trivial, ⟨rfl, hP9.kept (fun k q hk => hk9 q.1 (vx_lt hP9 hk)), va_K.moved hvm9 hK9, hD9⟩, Nat.le_trans hS.1 hz9, fun q hq hA9 => (hk9 q (Nat.lt_of_lt_of_le hq hS.1)).trans (hS.2.1 q hq hA9)⟩) hS.2.2 (by decide) (by decide)
set_option maxHeartbeats 4000000 in
set_option maxRecDepth 100000 in
theorem cL_list_1 (l : Launch) (hst : l.stackTraces = false) (dC : Nat → ClassId) (dI : Nat → Nat → Nat) (adK adV : Nat → Nat) (h0 h1 h2 h3 h4 h5 h6 : Nat) (sz : Nat) (x0 : Int32) (ix0 : iv x0 (-2147483648) (-1)) : Met l yL_list (Cond.codeWith yL_list cL_list 4 (some .int) [(0, 9, 12, 19)] :: lw_G) ({ frames := 7, cells := 1, slots := 6, locals := 104 }) (va_Pc [.ref h0, .int x0, .ref h1] (fun U => U.heap.size = sz ∧ va_P (dC, dI) vwCl [(h0, .inr (11, [.ref h2, .ref h3, .ref h4, .ref h5, .ref h6, .int 0, .int 0]))] U.heap ∧ va_K (dC, dI) vwCl [] U ∧ va_D (fun _ => True) [(h0, .inr (11, [.ref h2, .ref h3, .ref h4, .ref h5, .ref h6, .int 0, .int 0]))] ∧ ev adK adV (va_A [(h0, .inr (11, [.ref h2, .ref h3, .ref h4, .ref h5, .ref h6, .int 0, .int 0]))] sz) U U.heap)) (va_Qi (fun (r : Int32) (u : Unit) => r = 1 ∧ True) (fun (u : Unit) (t : State) => va_P (dC, dI) vwCl [(h0, .inr (11, [.ref h2, .ref h3, .ref h4, .ref h5, .ref h6, .int 0, .int 0]))] t.heap ∧ va_K (dC, dI) vwCl [] t ∧ va_D (va_A [(h0, .inr (11, [.ref h2, .ref h3, .ref h4, .ref h5, .ref h6, .int 0, .int 0]))] sz) [(h0, .inr (11, [.ref h2, .ref h3, .ref h4, .ref h5, .ref h6, .int 0, .int 0]))]) (va_A [(h0, .inr (11, [.ref h2, .ref h3, .ref h4, .ref h5, .ref h6, .int 0, .int 0]))] sz)) 1 6 (va_A [(h0, .inr (11, [.ref h2, .ref h3, .ref h4, .ref h5, .ref h6, .int 0, .int 0]))] sz) := by
  refine va_MetW (cc := cL_list) (maxL := 4) (ret := (some .int)) (by decide) rfl ?_
  intro p e s m args below meth c s₁ B hml hv
  obtain ⟨rfl, hsz, hP, hK, hD0, hE⟩ := hv
  have hx := B.exec
  have hb := B.bytes
  have hr := B.returns
  have hts0 := atoms_spec (ws := Cond.codeWith yL_list cL_list 4 (some .int) [(0, 9, 12, 19)] :: lw_G) B.pre
  have htab := vx_table (x := x) B (hts0 _ List.mem_cons_self)
  have hG : ∀ w ∈ lw_G, w.before _ s = true := fun w h => hts0 w (List.mem_cons_of_mem _ h)
  have hown : s.vm.findClass RL = some m.cls := findClass_of_methodNamed B.named
  have hlocks := B.notSynchronized
  subst hsz
  have hD := hD0.self (sz := s.heap.size)
  generalize hAe : va_A [(h0, .inr (11, [.ref h2, .ref h3, .ref h4, .ref h5, .ref h6, .int 0, .int 0]))] s.heap.size = A at hD hE ⊢
  have hA : ∀ q : Nat, s.heap.size ≤ q → A q := fun q h => by rw [← hAe]; exact Or.inr h
  have hS : va_S A s.heap s.heap [] := va_S.rf
  have hP : va_P (dC, dI) vwCl [(h0, .inr (11, [.ref h2, .ref h3, .ref h4, .ref h5, .ref h6, .int 0, .int 0]))] s.heap := hP
  have hl := lv_entry ([.ref h0, .int x0, .ref h1]) (n := 4) (Nat.le_of_ble_eq_true rfl)
  rw [lg_entry_eq]
  generalize (lg_sl ([.ref h0, .int x0, .ref h1]) ++ List.replicate (4 - (lg_sl ([.ref h0, .int x0, .ref h1])).length) Slot.unset).toArray = ls at hl ⊢
  have hl : lv_has ls 4 [(0, .ref h0), (1, .int x0), (2, .ref h1)] := hl
  refine lv_aload_n hx hb dL_list_0 rfl (lv_at hl 2 rfl) ?_
  refine lv_iconst (v := 0) hx hb dL_list_1 (by decide) ?_
  refine lv_aload_n hx hb dL_list_2 rfl (lv_at hl 0 rfl) ?_
  refine lv_iload_n hx hb dL_list_3 rfl (lv_at hl 1 rfl) ?_
  have hPc := hP.sub (ws' := [(h0, .inr (11, [.ref h2, .ref h3, .ref h4, .ref h5, .ref h6, .int 0, .int 0]))]) [0] rfl
  have hDc := hD.sub (ws' := [(h0, .inr (11, [.ref h2, .ref h3, .ref h4, .ref h5, .ref h6, .int 0, .int 0]))]) [0] (by decide) rfl
  have hKc := hK.sub (tys' := []) [] rfl
  have hFc := va_free (wc := [(h0, .inr (11, [.ref h2, .ref h3, .ref h4, .ref h5, .ref h6, .int 0, .int 0]))]) hD hS hA [0] rfl
  refine vx_calli (vx_runV (As := [.int x0]) (rest := [.int 0, .ref h1]) ⟨hx, hb, hml, hown, hG⟩ (cX11_list_1 l hst dC dI adK adV h0 h2 h3 h4 h5 h6 s.heap.size x0 ix0) (cwV 1 hG (gV wd_1174 wd_1175 wd_1176 wd_1 wd_1177) rfl rfl rfl (by decide +kernel) ⟨Nat.le_of_ble_eq_true rfl, Nat.le_of_ble_eq_true rfl⟩) ⟨fun a U g mk q => by obtain ⟨q0, q1, qP, qK, qD, qE⟩ := q; exact ⟨q0, q1, qP, va_K.moved (u := U) (U := U.calling g mk a) (Vm.Alike.refl U.vm) qK, qD, qE.same rfl⟩, va_recv hKc hPc (ci := 11) (q0 := 0) rfl rfl, fun U hU hW => ⟨rfl, by rw [hU], by rw [hU]; exact hPc, va_K.moved hW.alike hKc, hDc.weaken (fun _ _ _ _ => trivial), by rw [hU]; exact ((hE.kept hS.2.1).narrow hFc).warm hW⟩⟩ rfl rfl hl.1 rfl (lv_room (Nat.le_of_ble_eq_true rfl)) dL_list_4 ⟨by decide, by decide⟩) hS (fun q _ h => hFc q h) hFc (fun q _ h => hFc q h) (fun E9 ce q1 u9 t H1 locs ht hvm hpx hB hz1 hk1 hS hce hcv hcl => ?_) (fun r u t H1 locs ht hvm hw hB hz1 hk1 hS => hw.elim)
  obtain ⟨rfl, hP1, hK1, hD1⟩ := hB
  rw [ht] at hP1
  have hK1 := va_K.moved hvm.symm hK1
  obtain ⟨hP, hD⟩ := va_join (wr := []) (w1 := [(h0, .inr (11, [.ref h2, .ref h3, .ref h4, .ref h5, .ref h6, .int 0, .int 0]))]) hP hD [0] [] rfl rfl (by decide) (by decide) hk1 hFc hP1 hD1
  have hK := (hK.sub (tys' := []) [] rfl).app hK1
  generalize H1 = H at hP hS hce ⊢
  have hP : va_P (dC, dI) vwCl [(h0, .inr (11, [.ref h2, .ref h3, .ref h4, .ref h5, .ref h6, .int 0, .int 0]))] H := hP
  have hD : va_D A [(h0, .inr (11, [.ref h2, .ref h3, .ref h4, .ref h5, .ref h6, .int 0, .int 0]))] := hD
  have hK : va_K (dC, dI) vwCl [] s := hK
  refine vx_widen (k := 1) (n := 6) (by decide) (by decide) ?_
  refine vx_catch (name := "java/lang/IndexOutOfBoundsException") hown [] { startPc := 0, endPc := 9, handlerPc := 12, catchType := 19 } [] (by rw [htab]; rfl) (fun z hz => nomatch hz) (by decide) (by decide) (hG _ wd_1121) (evC1 hE) hce hcv hcl ?_
  refine lv_astore_n (lv' := [(3, .ref q1), (0, .ref h0), (1, .int x0), (2, .ref h1)]) hx hb dL_list_12 rfl hl (by decide) rfl (fun ls hl => ?_)
  refine lv_iconst (v := 1) hx hb dL_list_13 (by decide) ?_
  have hP9 := hP.sub (ws' := [(h0, .inr (11, [.ref h2, .ref h3, .ref h4, .ref h5, .ref h6, .int 0, .int 0]))]) [0] rfl
  have hD9 := hD.sub (ws' := [(h0, .inr (11, [.ref h2, .ref h3, .ref h4, .ref h5, .ref h6, .int 0, .int 0]))]) [0] (by decide) rfl
  have hK9 := hK.sub (tys' := []) [] rfl
  refine W.widen (k := 1) (n := 6) (by decide) (by decide) ?_
  exact W.iret (v := 1) hx hb hr (fun t ht hW => ⟨⟨1, (), rfl, ⟨rfl, trivial⟩, by rw [ht]; exact hP9, va_K.moved hW.alike hK9, hD9⟩, hS.F ht⟩) hS.2.2 dL_list_14
set_option maxHeartbeats 4000000 in
set_option maxRecDepth 100000 in
theorem cX11_list_2 (l : Launch) (hst : l.stackTraces = false) (dC : Nat → ClassId) (dI : Nat → Nat → Nat) (adK adV : Nat → Nat) (h0 h1 h2 h3 h4 h5 : Nat) (sz : Nat) (x0 : Int32) (ix0 : iv x0 65536 2147483647) : vx_Met l yX11_list (Cond.code yX11_list cX11_list 3 (some .int) :: lw_G) ({ frames := 6, cells := 1, slots := 6, locals := 82 }) (va_Pc [.ref h0, .int x0] (fun U => U.heap.size = sz ∧ va_P (dC, dI) vwCl [(h0, .inr (11, [.ref h1, .ref h2, .ref h3, .ref h4, .ref h5, .int 0, .int 0]))] U.heap ∧ va_K (dC, dI) vwCl [] U ∧ va_D (fun _ => True) [(h0, .inr (11, [.ref h1, .ref h2, .ref h3, .ref h4, .ref h5, .int 0, .int 0]))] ∧ ev adK adV (va_A [(h0, .inr (11, [.ref h1, .ref h2, .ref h3, .ref h4, .ref h5, .int 0, .int 0]))] sz) U U.heap)) (va_Qi (fun (_ : Int32) (_ : Unit) => False) (fun _ _ => True) (va_A [(h0, .inr (11, [.ref h1, .ref h2, .ref h3, .ref h4, .ref h5, .int 0, .int 0]))] sz)) (vx_X (fun (_ : Unit) => True) (fun (E : String) (_ : Unit) (t : State) => E = "java/lang/IndexOutOfBoundsException" ∧ va_P (dC, dI) vwCl [(h0, .inr (11, [.ref h1, .ref h2, .ref h3, .ref h4, .ref h5, .int 0, .int 0]))] t.heap ∧ va_K (dC, dI) vwCl [] t ∧ va_D (va_A [(h0, .inr (11, [.ref h1, .ref h2, .ref h3, .ref h4, .ref h5, .int 0, .int 0]))] sz) [(h0, .inr (11, [.ref h1, .ref h2, .ref h3, .ref h4, .ref h5, .int 0, .int 0]))]) (va_A [(h0, .inr (11, [.ref h1, .ref h2, .ref h3, .ref h4, .ref h5, .int 0, .int 0]))] sz)) 1 6 (va_A [(h0, .inr (11, [.ref h1, .ref h2, .ref h3, .ref h4, .ref h5, .int 0, .int 0]))] sz) := by
  refine vx_ofW (cc := cX11_list) (maxL := 3) (ret := (some .int)) (by decide) rfl ?_
  intro p e s m args below meth c s₁ B hml htab hv
  obtain ⟨rfl, hsz, hP, hK, hD0, hE⟩ := hv
  have hx := B.exec
  have hb := B.bytes
  have hr := B.returns
  have hts0 := atoms_spec (ws := Cond.code yX11_list cX11_list 3 (some .int) :: lw_G) B.pre
  have hG : ∀ w ∈ lw_G, w.before _ s = true := fun w h => hts0 w (List.mem_cons_of_mem _ h)
  have hown : s.vm.findClass RX11 = some m.cls := findClass_of_methodNamed B.named
  have hlocks := B.notSynchronized
  subst hsz
  have hD := hD0.self (sz := s.heap.size)
  generalize hAe : va_A [(h0, .inr (11, [.ref h1, .ref h2, .ref h3, .ref h4, .ref h5, .int 0, .int 0]))] s.heap.size = A at hD hE ⊢
  have hA : ∀ q : Nat, s.heap.size ≤ q → A q := fun q h => by rw [← hAe]; exact Or.inr h
  have hS : va_S A s.heap s.heap [] := va_S.rf
  have hP : va_P (dC, dI) vwCl [(h0, .inr (11, [.ref h1, .ref h2, .ref h3, .ref h4, .ref h5, .int 0, .int 0]))] s.heap := hP
  have hl := lv_entry ([.ref h0, .int x0]) (n := 3) (Nat.le_of_ble_eq_true rfl)
  rw [lg_entry_eq]
  generalize (lg_sl ([.ref h0, .int x0]) ++ List.replicate (3 - (lg_sl ([.ref h0, .int x0])).length) Slot.unset).toArray = ls at hl ⊢
  have hl : lv_has ls 3 [(0, .ref h0), (1, .int x0)] := hl
  refine lv_iload_n hx hb dX11_list_0 rfl (lv_at hl 1 rfl) ?_
  refine lv_if_lt (tgt := 10) hx hb dX11_list_1 (by decide) (fun c => absurd c (iv_nlt ix0 (by decide : iv 0 0 0) (by decide))) (fun _ => ?_)
  refine lv_iload_n hx hb dX11_list_4 rfl (lv_at hl 1 rfl) ?_
  refine lv_ldc hx hb hown (hG _ wd_1157) dX11_list_5 ?_
  refine lv_icmp_lt (tgt := 20) hx hb dX11_list_7 (by decide) (fun c => absurd c (iv_nlt ix0 (by decide : iv 65536 65536 65536) (by decide))) (fun _ => ?_)
  have hP9 := hP.sub (ws' := [(h0, .inr (11, [.ref h1, .ref h2, .ref h3, .ref h4, .ref h5, .int 0, .int 0]))]) [0] rfl
  have hD9 := hD.sub (ws' := [(h0, .inr (11, [.ref h1, .ref h2, .ref h3, .ref h4, .ref h5, .int 0, .int 0]))]) [0] (by decide) rfl
  have hK9 := hK.sub (tys' := []) [] rfl
  refine vx_throwS (own := RX11) (cls := "java/lang/IndexOutOfBoundsException") (text := evT4) (names := ["java/lang/RuntimeException", "java/lang/Exception"]) hx hb hst hown (by decide) (by decide) (hG _ wd_1126) (hG _ wd_24) (evR4 hE) (evA1 hE hG) evG1_106 hE.2.2.2.1 hE.2.2.2.2.1 hS (by rw [hml]; exact hl.1) dX11_list_10 dX11_list_13 dX11_list_14 dX11_list_16 dX11_list_19 (fun x hx9 => (htab x hx9).elim) (by decide) (by decide) (by decide) (by decide) hlocks (fun t hvm9 hz9 hk9 => ⟨(), trivial, ⟨rfl, hP9.kept (fun k q hk => hk9 q.1 (vx_lt hP9 hk)), va_K.moved hvm9 hK9, hD9⟩, Nat.le_trans hS.1 hz9, fun q hq hA9 => (hk9 q (Nat.lt_of_lt_of_le hq hS.1)).trans (hS.2.1 q hq hA9)⟩) hS.2.2 (by decide) (by decide)
set_option maxHeartbeats 4000000 in
set_option maxRecDepth 100000 in
theorem cL_list_2 (l : Launch) (hst : l.stackTraces = false) (dC : Nat → ClassId) (dI : Nat → Nat → Nat) (adK adV : Nat → Nat) (h0 h1 h2 h3 h4 h5 h6 : Nat) (sz : Nat) (x0 : Int32) (ix0 : iv x0 65536 2147483647) : Met l yL_list (Cond.codeWith yL_list cL_list 4 (some .int) [(0, 9, 12, 19)] :: lw_G) ({ frames := 7, cells := 1, slots := 6, locals := 104 }) (va_Pc [.ref h0, .int x0, .ref h1] (fun U => U.heap.size = sz ∧ va_P (dC, dI) vwCl [(h0, .inr (11, [.ref h2, .ref h3, .ref h4, .ref h5, .ref h6, .int 0, .int 0]))] U.heap ∧ va_K (dC, dI) vwCl [] U ∧ va_D (fun _ => True) [(h0, .inr (11, [.ref h2, .ref h3, .ref h4, .ref h5, .ref h6, .int 0, .int 0]))] ∧ ev adK adV (va_A [(h0, .inr (11, [.ref h2, .ref h3, .ref h4, .ref h5, .ref h6, .int 0, .int 0]))] sz) U U.heap)) (va_Qi (fun (r : Int32) (u : Unit) => r = 1 ∧ True) (fun (u : Unit) (t : State) => va_P (dC, dI) vwCl [(h0, .inr (11, [.ref h2, .ref h3, .ref h4, .ref h5, .ref h6, .int 0, .int 0]))] t.heap ∧ va_K (dC, dI) vwCl [] t ∧ va_D (va_A [(h0, .inr (11, [.ref h2, .ref h3, .ref h4, .ref h5, .ref h6, .int 0, .int 0]))] sz) [(h0, .inr (11, [.ref h2, .ref h3, .ref h4, .ref h5, .ref h6, .int 0, .int 0]))]) (va_A [(h0, .inr (11, [.ref h2, .ref h3, .ref h4, .ref h5, .ref h6, .int 0, .int 0]))] sz)) 1 6 (va_A [(h0, .inr (11, [.ref h2, .ref h3, .ref h4, .ref h5, .ref h6, .int 0, .int 0]))] sz) := by
  refine va_MetW (cc := cL_list) (maxL := 4) (ret := (some .int)) (by decide) rfl ?_
  intro p e s m args below meth c s₁ B hml hv
  obtain ⟨rfl, hsz, hP, hK, hD0, hE⟩ := hv
  have hx := B.exec
  have hb := B.bytes
  have hr := B.returns
  have hts0 := atoms_spec (ws := Cond.codeWith yL_list cL_list 4 (some .int) [(0, 9, 12, 19)] :: lw_G) B.pre
  have htab := vx_table (x := x) B (hts0 _ List.mem_cons_self)
  have hG : ∀ w ∈ lw_G, w.before _ s = true := fun w h => hts0 w (List.mem_cons_of_mem _ h)
  have hown : s.vm.findClass RL = some m.cls := findClass_of_methodNamed B.named
  have hlocks := B.notSynchronized
  subst hsz
  have hD := hD0.self (sz := s.heap.size)
  generalize hAe : va_A [(h0, .inr (11, [.ref h2, .ref h3, .ref h4, .ref h5, .ref h6, .int 0, .int 0]))] s.heap.size = A at hD hE ⊢
  have hA : ∀ q : Nat, s.heap.size ≤ q → A q := fun q h => by rw [← hAe]; exact Or.inr h
  have hS : va_S A s.heap s.heap [] := va_S.rf
  have hP : va_P (dC, dI) vwCl [(h0, .inr (11, [.ref h2, .ref h3, .ref h4, .ref h5, .ref h6, .int 0, .int 0]))] s.heap := hP
  have hl := lv_entry ([.ref h0, .int x0, .ref h1]) (n := 4) (Nat.le_of_ble_eq_true rfl)
  rw [lg_entry_eq]
  generalize (lg_sl ([.ref h0, .int x0, .ref h1]) ++ List.replicate (4 - (lg_sl ([.ref h0, .int x0, .ref h1])).length) Slot.unset).toArray = ls at hl ⊢
  have hl : lv_has ls 4 [(0, .ref h0), (1, .int x0), (2, .ref h1)] := hl
  refine lv_aload_n hx hb dL_list_0 rfl (lv_at hl 2 rfl) ?_
  refine lv_iconst (v := 0) hx hb dL_list_1 (by decide) ?_
  refine lv_aload_n hx hb dL_list_2 rfl (lv_at hl 0 rfl) ?_
  refine lv_iload_n hx hb dL_list_3 rfl (lv_at hl 1 rfl) ?_
  have hPc := hP.sub (ws' := [(h0, .inr (11, [.ref h2, .ref h3, .ref h4, .ref h5, .ref h6, .int 0, .int 0]))]) [0] rfl
  have hDc := hD.sub (ws' := [(h0, .inr (11, [.ref h2, .ref h3, .ref h4, .ref h5, .ref h6, .int 0, .int 0]))]) [0] (by decide) rfl
  have hKc := hK.sub (tys' := []) [] rfl
  have hFc := va_free (wc := [(h0, .inr (11, [.ref h2, .ref h3, .ref h4, .ref h5, .ref h6, .int 0, .int 0]))]) hD hS hA [0] rfl
  refine vx_calli (vx_runV (As := [.int x0]) (rest := [.int 0, .ref h1]) ⟨hx, hb, hml, hown, hG⟩ (cX11_list_2 l hst dC dI adK adV h0 h2 h3 h4 h5 h6 s.heap.size x0 ix0) (cwV 1 hG (gV wd_1174 wd_1175 wd_1176 wd_1 wd_1177) rfl rfl rfl (by decide +kernel) ⟨Nat.le_of_ble_eq_true rfl, Nat.le_of_ble_eq_true rfl⟩) ⟨fun a U g mk q => by obtain ⟨q0, q1, qP, qK, qD, qE⟩ := q; exact ⟨q0, q1, qP, va_K.moved (u := U) (U := U.calling g mk a) (Vm.Alike.refl U.vm) qK, qD, qE.same rfl⟩, va_recv hKc hPc (ci := 11) (q0 := 0) rfl rfl, fun U hU hW => ⟨rfl, by rw [hU], by rw [hU]; exact hPc, va_K.moved hW.alike hKc, hDc.weaken (fun _ _ _ _ => trivial), by rw [hU]; exact ((hE.kept hS.2.1).narrow hFc).warm hW⟩⟩ rfl rfl hl.1 rfl (lv_room (Nat.le_of_ble_eq_true rfl)) dL_list_4 ⟨by decide, by decide⟩) hS (fun q _ h => hFc q h) hFc (fun q _ h => hFc q h) (fun E9 ce q1 u9 t H1 locs ht hvm hpx hB hz1 hk1 hS hce hcv hcl => ?_) (fun r u t H1 locs ht hvm hw hB hz1 hk1 hS => hw.elim)
  obtain ⟨rfl, hP1, hK1, hD1⟩ := hB
  rw [ht] at hP1
  have hK1 := va_K.moved hvm.symm hK1
  obtain ⟨hP, hD⟩ := va_join (wr := []) (w1 := [(h0, .inr (11, [.ref h2, .ref h3, .ref h4, .ref h5, .ref h6, .int 0, .int 0]))]) hP hD [0] [] rfl rfl (by decide) (by decide) hk1 hFc hP1 hD1
  have hK := (hK.sub (tys' := []) [] rfl).app hK1
  generalize H1 = H at hP hS hce ⊢
  have hP : va_P (dC, dI) vwCl [(h0, .inr (11, [.ref h2, .ref h3, .ref h4, .ref h5, .ref h6, .int 0, .int 0]))] H := hP
  have hD : va_D A [(h0, .inr (11, [.ref h2, .ref h3, .ref h4, .ref h5, .ref h6, .int 0, .int 0]))] := hD
  have hK : va_K (dC, dI) vwCl [] s := hK
  refine vx_widen (k := 1) (n := 6) (by decide) (by decide) ?_
  refine vx_catch (name := "java/lang/IndexOutOfBoundsException") hown [] { startPc := 0, endPc := 9, handlerPc := 12, catchType := 19 } [] (by rw [htab]; rfl) (fun z hz => nomatch hz) (by decide) (by decide) (hG _ wd_1121) (evC1 hE) hce hcv hcl ?_
  refine lv_astore_n (lv' := [(3, .ref q1), (0, .ref h0), (1, .int x0), (2, .ref h1)]) hx hb dL_list_12 rfl hl (by decide) rfl (fun ls hl => ?_)
  refine lv_iconst (v := 1) hx hb dL_list_13 (by decide) ?_
  have hP9 := hP.sub (ws' := [(h0, .inr (11, [.ref h2, .ref h3, .ref h4, .ref h5, .ref h6, .int 0, .int 0]))]) [0] rfl
  have hD9 := hD.sub (ws' := [(h0, .inr (11, [.ref h2, .ref h3, .ref h4, .ref h5, .ref h6, .int 0, .int 0]))]) [0] (by decide) rfl
  have hK9 := hK.sub (tys' := []) [] rfl
  refine W.widen (k := 1) (n := 6) (by decide) (by decide) ?_
  exact W.iret (v := 1) hx hb hr (fun t ht hW => ⟨⟨1, (), rfl, ⟨rfl, trivial⟩, by rw [ht]; exact hP9, va_K.moved hW.alike hK9, hD9⟩, hS.F ht⟩) hS.2.2 dL_list_14
set_option maxHeartbeats 4000000 in
set_option maxRecDepth 100000 in
theorem cX1_lookWord_3 (l : Launch) (dC : Nat → ClassId) (dI : Nat → Nat → Nat) (h0 h1 h2 h3 h4 h5 h6 : Nat) (y0 y1 y2 : ClassId) (sz : Nat) (x0 : Int32) (ix0 : iv x0 0 65534) : Met l yX1_lookWord (Cond.code yX1_lookWord cX1_lookWord 3 (some .int) :: lw_G) ({ frames := 2, cells := 0, slots := 0, locals := 42 }) (va_Pc [.ref h0, .int x0] (fun U => U.heap.size = sz ∧ va_P (dC, dI) vwCl [(h0, .inr (1, [.ref h1, .ref h2, .ref h3, .ref h4])), (h1, .inl (y0, 32768, .inl (fun _ => 0))), (h4, .inr (9, [.ref h5, .ref h6, .int 0, .int 0, .int 0, .int 0])), (h6, .inl (y1, 3, .inl (fun _ => 0))), (h5, .inl (y2, 3, .inl (fun _ => 0))), (h3, .inr (5, [.int 304, .int 0, .int 0, .int 0, .int 0, .int 0])), (h2, .inr (7, [.int 0, .int 0, .int 0, .int 0, .int 0]))] U.heap ∧ va_K (dC, dI) vwCl [(y0, .int), (y1, .int), (y2, .int)] U ∧ va_D (fun _ => True) [(h0, .inr (1, [.ref h1, .ref h2, .ref h3, .ref h4])), (h1, .inl (y0, 32768, .inl (fun _ => 0))), (h4, .inr (9, [.ref h5, .ref h6, .int 0, .int 0, .int 0, .int 0])), (h6, .inl (y1, 3, .inl (fun _ => 0))), (h5, .inl (y2, 3, .inl (fun _ => 0))), (h3, .inr (5, [.int 304, .int 0, .int 0, .int 0, .int 0, .int 0])), (h2, .inr (7, [.int 0, .int 0, .int 0, .int 0, .int 0]))])) (va_Qi (fun (r : Int32) (u : Unit) => r = 0 ∧ True) (fun (u : Unit) (t : State) => va_P (dC, dI) vwCl [(h0, .inr (1, [.ref h1, .ref h2, .ref h3, .ref h4])), (h1, .inl (y0, 32768, .inl (fun _ => 0))), (h4, .inr (9, [.ref h5, .ref h6, .int 0, .int 0, .int 0, .int 0])), (h6, .inl (y1, 3, .inl (fun _ => 0))), (h5, .inl (y2, 3, .inl (fun _ => 0))), (h3, .inr (5, [.int 304, .int 0, .int 0, .int 0, .int 0, .int 0])), (h2, .inr (7, [.int 0, .int 0, .int 0, .int 0, .int 0]))] t.heap ∧ va_K (dC, dI) vwCl [(y0, .int), (y1, .int), (y2, .int)] t ∧ va_D (va_A [(h0, .inr (1, [.ref h1, .ref h2, .ref h3, .ref h4])), (h1, .inl (y0, 32768, .inl (fun _ => 0))), (h4, .inr (9, [.ref h5, .ref h6, .int 0, .int 0, .int 0, .int 0])), (h6, .inl (y1, 3, .inl (fun _ => 0))), (h5, .inl (y2, 3, .inl (fun _ => 0))), (h3, .inr (5, [.int 304, .int 0, .int 0, .int 0, .int 0, .int 0])), (h2, .inr (7, [.int 0, .int 0, .int 0, .int 0, .int 0]))] sz) [(h0, .inr (1, [.ref h1, .ref h2, .ref h3, .ref h4])), (h1, .inl (y0, 32768, .inl (fun _ => 0))), (h4, .inr (9, [.ref h5, .ref h6, .int 0, .int 0, .int 0, .int 0])), (h6, .inl (y1, 3, .inl (fun _ => 0))), (h5, .inl (y2, 3, .inl (fun _ => 0))), (h3, .inr (5, [.int 304, .int 0, .int 0, .int 0, .int 0, .int 0])), (h2, .inr (7, [.int 0, .int 0, .int 0, .int 0, .int 0]))]) (va_A [(h0, .inr (1, [.ref h1, .ref h2, .ref h3, .ref h4])), (h1, .inl (y0, 32768, .inl (fun _ => 0))), (h4, .inr (9, [.ref h5, .ref h6, .int 0, .int 0, .int 0, .int 0])), (h6, .inl (y1, 3, .inl (fun _ => 0))), (h5, .inl (y2, 3, .inl (fun _ => 0))), (h3, .inr (5, [.int 304, .int 0, .int 0, .int 0, .int 0, .int 0])), (h2, .inr (7, [.int 0, .int 0, .int 0, .int 0, .int 0]))] sz)) 0 0 (va_A [(h0, .inr (1, [.ref h1, .ref h2, .ref h3, .ref h4])), (h1, .inl (y0, 32768, .inl (fun _ => 0))), (h4, .inr (9, [.ref h5, .ref h6, .int 0, .int 0, .int 0, .int 0])), (h6, .inl (y1, 3, .inl (fun _ => 0))), (h5, .inl (y2, 3, .inl (fun _ => 0))), (h3, .inr (5, [.int 304, .int 0, .int 0, .int 0, .int 0, .int 0])), (h2, .inr (7, [.int 0, .int 0, .int 0, .int 0, .int 0]))] sz) := by
  refine Met.ofW (cc := cX1_lookWord) (maxL := 3) (ret := (some .int)) (by decide) rfl ?_
  intro p e s m args below meth c s₁ B hml hv
  obtain ⟨rfl, hsz, hP, hK, hD0⟩ := hv
  have hx := B.exec
  have hb := B.bytes
  have hr := B.returns
  have hts0 := atoms_spec (ws := Cond.code yX1_lookWord cX1_lookWord 3 (some .int) :: lw_G) B.pre
  have hG : ∀ w ∈ lw_G, w.before _ s = true := fun w h => hts0 w (List.mem_cons_of_mem _ h)
  have hown : s.vm.findClass RX1 = some m.cls := findClass_of_methodNamed B.named
  have hlocks := B.notSynchronized
  subst hsz
  have hD := hD0.self (sz := s.heap.size)
  generalize hAe : va_A [(h0, .inr (1, [.ref h1, .ref h2, .ref h3, .ref h4])), (h1, .inl (y0, 32768, .inl (fun _ => 0))), (h4, .inr (9, [.ref h5, .ref h6, .int 0, .int 0, .int 0, .int 0])), (h6, .inl (y1, 3, .inl (fun _ => 0))), (h5, .inl (y2, 3, .inl (fun _ => 0))), (h3, .inr (5, [.int 304, .int 0, .int 0, .int 0, .int 0, .int 0])), (h2, .inr (7, [.int 0, .int 0, .int 0, .int 0, .int 0]))] s.heap.size = A at hD ⊢
  have hA : ∀ q : Nat, s.heap.size ≤ q → A q := fun q h => by rw [← hAe]; exact Or.inr h
  have hS : va_S A s.heap s.heap [] := va_S.rf
  have hP : va_P (dC, dI) vwCl [(h0, .inr (1, [.ref h1, .ref h2, .ref h3, .ref h4])), (h1, .inl (y0, 32768, .inl (fun _ => 0))), (h4, .inr (9, [.ref h5, .ref h6, .int 0, .int 0, .int 0, .int 0])), (h6, .inl (y1, 3, .inl (fun _ => 0))), (h5, .inl (y2, 3, .inl (fun _ => 0))), (h3, .inr (5, [.int 304, .int 0, .int 0, .int 0, .int 0, .int 0])), (h2, .inr (7, [.int 0, .int 0, .int 0, .int 0, .int 0]))] s.heap := hP
  have hl := lv_entry ([.ref h0, .int x0]) (n := 3) (Nat.le_of_ble_eq_true rfl)
  rw [lg_entry_eq]
  generalize (lg_sl ([.ref h0, .int x0]) ++ List.replicate (3 - (lg_sl ([.ref h0, .int x0])).length) Slot.unset).toArray = ls at hl ⊢
  have hl : lv_has ls 3 [(0, .ref h0), (1, .int x0)] := hl
  refine lv_iload_n hx hb dX1_lookWord_0 rfl (lv_at hl 1 rfl) ?_
  refine lv_ldc hx hb hown (hG _ wd_719) dX1_lookWord_1 ?_
  refine lv_iand hx hb dX1_lookWord_3 ?_
  refine lv_topi (fun v1 ev1 => ?_)
  have iv1 : iv v1 0 65534 := iv_eq ev1 (iv_and (x := x0) (iv_w (by decide : iv 65534 65534 65534) (by decide) (by decide) : iv 65534 0 65534))
  refine lv_istore_n (lv' := [(2, .int v1), (0, .ref h0), (1, .int x0)]) hx hb dX1_lookWord_4 rfl hl (by decide) rfl (fun ls hl => ?_)
  refine lv_iload_n hx hb dX1_lookWord_5 rfl (lv_at hl 0 rfl) ?_
  refine lv_sipush (v := 512) hx hb dX1_lookWord_6 (by decide) ?_
  refine lv_icmp_ge (tgt := 20) hx hb dX1_lookWord_9 (by decide) (fun c2 => ?_) (fun c2 => ?_)
  · skip
    have j3 : iv v1 512 65534 := iv_leR (by decide : iv 512 512 512) iv1 c2 (by decide)
    refine lv_aload_n hx hb dX1_lookWord_20 rfl (lv_at hl 1 rfl) ?_
    refine va_get (D := (dC, dI)) (ci := 1) (v := .ref h1) (C := RX1) (T := TX1) (N := 4) hx hb hG inGX1 hown hK hP 0 rfl rfl 0 (by decide) (hG _ wd_114) (fun _ h9 => h9) rfl dX1_lookWord_21 ?_
    refine lv_iload_n hx hb dX1_lookWord_24 rfl (lv_at hl 0 rfl) ?_
    refine lv_iconst (v := 1) hx hb dX1_lookWord_25 (by decide) ?_
    refine lv_ishr hx hb dX1_lookWord_26 ?_
    refine lv_topi (fun v4 ev4 => ?_)
    have iv4 : iv v4 256 32767 := iv_eq ev4 (iv_shr 1 (by decide) j3 (by decide) (by decide))
    refine va_iald hx hb hK hP 1 0 rfl rfl (iv_in iv4 (by decide) (by decide) : vp_in v4 32768) dX1_lookWord_27 ?_
    refine lv_val (y := 0) rfl ?_
    have hP9 := hP.sub (ws' := [(h0, .inr (1, [.ref h1, .ref h2, .ref h3, .ref h4])), (h1, .inl (y0, 32768, .inl (fun _ => 0))), (h4, .inr (9, [.ref h5, .ref h6, .int 0, .int 0, .int 0, .int 0])), (h6, .inl (y1, 3, .inl (fun _ => 0))), (h5, .inl (y2, 3, .inl (fun _ => 0))), (h3, .inr (5, [.int 304, .int 0, .int 0, .int 0, .int 0, .int 0])), (h2, .inr (7, [.int 0, .int 0, .int 0, .int 0, .int 0]))]) [0, 1, 2, 3, 4, 5, 6] rfl
    have hD9 := hD.sub (ws' := [(h0, .inr (1, [.ref h1, .ref h2, .ref h3, .ref h4])), (h1, .inl (y0, 32768, .inl (fun _ => 0))), (h4, .inr (9, [.ref h5, .ref h6, .int 0, .int 0, .int 0, .int 0])), (h6, .inl (y1, 3, .inl (fun _ => 0))), (h5, .inl (y2, 3, .inl (fun _ => 0))), (h3, .inr (5, [.int 304, .int 0, .int 0, .int 0, .int 0, .int 0])), (h2, .inr (7, [.int 0, .int 0, .int 0, .int 0, .int 0]))]) [0, 1, 2, 3, 4, 5, 6] (by decide) rfl
    have hK9 := hK.sub (tys' := [(y0, .int), (y1, .int), (y2, .int)]) [0, 1, 2] rfl
    exact W.iret (v := 0) hx hb hr (fun t ht hW => ⟨⟨0, (), rfl, ⟨rfl, trivial⟩, by rw [ht]; exact hP9, va_K.moved hW.alike hK9, hD9⟩, hS.F ht⟩) hS.2.2 dX1_lookWord_28
  · skip
    have j5 : iv v1 0 511 := iv_nleR (by decide : iv 512 512 512) iv1 c2 (by decide)
    refine lv_aload_n hx hb dX1_lookWord_12 rfl (lv_at hl 1 rfl) ?_
    refine lv_iload_n hx hb dX1_lookWord_13 rfl (lv_at hl 0 rfl) ?_
    have hPc := hP.sub (ws' := [(h0, .inr (1, [.ref h1, .ref h2, .ref h3, .ref h4])), (h4, .inr (9, [.ref h5, .ref h6, .int 0, .int 0, .int 0, .int 0])), (h6, .inl (y1, 3, .inl (fun _ => 0))), (h5, .inl (y2, 3, .inl (fun _ => 0))), (h3, .inr (5, [.int 304, .int 0, .int 0, .int 0, .int 0, .int 0])), (h2, .inr (7, [.int 0, .int 0, .int 0, .int 0, .int 0]))]) [0, 2, 3, 4, 5, 6] rfl
    have hDc := hD.sub (ws' := [(h0, .inr (1, [.ref h1, .ref h2, .ref h3, .ref h4])), (h4, .inr (9, [.ref h5, .ref h6, .int 0, .int 0, .int 0, .int 0])), (h6, .inl (y1, 3, .inl (fun _ => 0))), (h5, .inl (y2, 3, .inl (fun _ => 0))), (h3, .inr (5, [.int 304, .int 0, .int 0, .int 0, .int 0, .int 0])), (h2, .inr (7, [.int 0, .int 0, .int 0, .int 0, .int 0]))]) [0, 2, 3, 4, 5, 6] (by decide) rfl
    have hKc := hK.sub (tys' := [(y1, .int), (y2, .int)]) [1, 2] rfl
    have hFc := va_free (wc := [(h0, .inr (1, [.ref h1, .ref h2, .ref h3, .ref h4])), (h4, .inr (9, [.ref h5, .ref h6, .int 0, .int 0, .int 0, .int 0])), (h6, .inl (y1, 3, .inl (fun _ => 0))), (h5, .inl (y2, 3, .inl (fun _ => 0))), (h3, .inr (5, [.int 304, .int 0, .int 0, .int 0, .int 0, .int 0])), (h2, .inr (7, [.int 0, .int 0, .int 0, .int 0, .int 0]))]) hD hS hA [0, 2, 3, 4, 5, 6] rfl
    refine va_calli (va_runV (As := [.int v1]) (rest := []) ⟨hx, hb, hml, hown, hG⟩ (cX1_thingWord_2 l dC dI h0 h1 h2 h3 h4 h5 h6 y1 y2 s.heap.size v1 j5) (cwV 1 hG (gV wd_720 wd_722 wp_27 wd_2 wd_723) rfl rfl rfl (by decide +kernel) ⟨Nat.le_of_ble_eq_true rfl, Nat.le_of_ble_eq_true rfl⟩) ⟨fun a U g mk q => by obtain ⟨q0, q1, qP, qK, qD⟩ := q; exact ⟨q0, q1, qP, va_K.moved (u := U) (U := U.calling g mk a) (Vm.Alike.refl U.vm) qK, qD⟩, va_recv hKc hPc (ci := 1) (q0 := 0) rfl rfl, fun U hU hW => ⟨rfl, by rw [hU], by rw [hU]; exact hPc, va_K.moved hW.alike hKc, hDc.weaken (fun _ _ _ _ => trivial)⟩⟩ rfl rfl hl.1 rfl (lv_room (Nat.le_of_ble_eq_true rfl)) dX1_lookWord_14 ⟨by decide, by decide⟩) hS (fun q _ h => hFc q h) hFc (fun r6 u7 t H1 locs ht hvm hw hB hz1 hk1 hS => ?_)
    have hw : r6 = 0 ∧ True := hw
    obtain ⟨er6, -⟩ := hw
    obtain ⟨hP1, hK1, hD1⟩ := hB
    rw [ht] at hP1
    have hK1 := va_K.moved hvm.symm hK1
    obtain ⟨hP, hD⟩ := va_join (wr := [(h1, .inl (y0, 32768, .inl (fun _ => 0)))]) (w1 := [(h0, .inr (1, [.ref h1, .ref h2, .ref h3, .ref h4])), (h4, .inr (9, [.ref h5, .ref h6, .int 0, .int 0, .int 0, .int 0])), (h6, .inl (y1, 3, .inl (fun _ => 0))), (h5, .inl (y2, 3, .inl (fun _ => 0))), (h3, .inr (5, [.int 304, .int 0, .int 0, .int 0, .int 0, .int 0])), (h2, .inr (7, [.int 0, .int 0, .int 0, .int 0, .int 0]))]) hP hD [0, 2, 3, 4, 5, 6] [1] rfl rfl (by decide) (by decide) hk1 hFc hP1 hD1
    have hK := (hK.sub (tys' := [(y0, .int)]) [0] rfl).app hK1
    generalize H1 = H at hP hS ⊢
    have hP : va_P (dC, dI) vwCl [(h1, .inl (y0, 32768, .inl (fun _ => 0))), (h0, .inr (1, [.ref h1, .ref h2, .ref h3, .ref h4])), (h4, .inr (9, [.ref h5, .ref h6, .int 0, .int 0, .int 0, .int 0])), (h6, .inl (y1, 3, .inl (fun _ => 0))), (h5, .inl (y2, 3, .inl (fun _ => 0))), (h3, .inr (5, [.int 304, .int 0, .int 0, .int 0, .int 0, .int 0])), (h2, .inr (7, [.int 0, .int 0, .int 0, .int 0, .int 0]))] H := hP
    have hD : va_D A [(h1, .inl (y0, 32768, .inl (fun _ => 0))), (h0, .inr (1, [.ref h1, .ref h2, .ref h3, .ref h4])), (h4, .inr (9, [.ref h5, .ref h6, .int 0, .int 0, .int 0, .int 0])), (h6, .inl (y1, 3, .inl (fun _ => 0))), (h5, .inl (y2, 3, .inl (fun _ => 0))), (h3, .inr (5, [.int 304, .int 0, .int 0, .int 0, .int 0, .int 0])), (h2, .inr (7, [.int 0, .int 0, .int 0, .int 0, .int 0]))] := hD
    have hK : va_K (dC, dI) vwCl [(y0, .int), (y1, .int), (y2, .int)] s := hK
    subst er6
    refine lv_goto (tgt := 28) hx hb dX1_lookWord_17 (by decide) ?_
    have hP9 := hP.sub (ws' := [(h0, .inr (1, [.ref h1, .ref h2, .ref h3, .ref h4])), (h1, .inl (y0, 32768, .inl (fun _ => 0))), (h4, .inr (9, [.ref h5, .ref h6, .int 0, .int 0, .int 0, .int 0])), (h6, .inl (y1, 3, .inl (fun _ => 0))), (h5, .inl (y2, 3, .inl (fun _ => 0))), (h3, .inr (5, [.int 304, .int 0, .int 0, .int 0, .int 0, .int 0])), (h2, .inr (7, [.int 0, .int 0, .int 0, .int 0, .int 0]))]) [1, 0, 2, 3, 4, 5, 6] rfl
    have hD9 := hD.sub (ws' := [(h0, .inr (1, [.ref h1, .ref h2, .ref h3, .ref h4])), (h1, .inl (y0, 32768, .inl (fun _ => 0))), (h4, .inr (9, [.ref h5, .ref h6, .int 0, .int 0, .int 0, .int 0])), (h6, .inl (y1, 3, .inl (fun _ => 0))), (h5, .inl (y2, 3, .inl (fun _ => 0))), (h3, .inr (5, [.int 304, .int 0, .int 0, .int 0, .int 0, .int 0])), (h2, .inr (7, [.int 0, .int 0, .int 0, .int 0, .int 0]))]) [1, 0, 2, 3, 4, 5, 6] (by decide) rfl
    have hK9 := hK.sub (tys' := [(y0, .int), (y1, .int), (y2, .int)]) [0, 1, 2] rfl
    exact W.iret (v := 0) hx hb hr (fun t ht hW => ⟨⟨0, (), rfl, ⟨rfl, trivial⟩, by rw [ht]; exact hP9, va_K.moved hW.alike hK9, hD9⟩, hS.F ht⟩) hS.2.2 dX1_lookWord_28
set_option maxHeartbeats 4000000 in
set_option maxRecDepth 100000 in
theorem cX8_tellCode_1 (l : Launch) (dC : Nat → ClassId) (dI : Nat → Nat → Nat) (h0 h1 h2 h3 h4 h5 h6 h7 h8 : Nat) (y0 y1 y2 : ClassId) (sz : Nat) (x0 : Int32) (ix0 : iv x0 0 65534) : Met l yX8_tellCode (Cond.code yX8_tellCode cX8_tellCode 5 (some .boolean) :: lw_G) ({ frames := 3, cells := 0, slots := 0, locals := 64 }) (va_Pc [.ref h0, .int x0] (fun U => U.heap.size = sz ∧ va_P (dC, dI) vwCl [(h0, .inr (8, [.ref h1, .ref h2, .int 0, .int 0, .int 0])), (h2, .inr (1, [.ref h3, .ref h4, .ref h5, .ref h6])), (h3, .inl (y0, 32768, .inl (fun _ => 0))), (h6, .inr (9, [.ref h7, .ref h8, .int 0, .int 0, .int 0, .int 0])), (h8, .inl (y1, 3, .inl (fun _ => 0))), (h7, .inl (y2, 3, .inl (fun _ => 0))), (h5, .inr (5, [.int 304, .int 0, .int 0, .int 0, .int 0, .int 0])), (h4, .inr (7, [.int 0, .int 0, .int 0, .int 0, .int 0]))] U.heap ∧ va_K (dC, dI) vwCl [(y0, .int), (y1, .int), (y2, .int)] U ∧ va_D (fun _ => True) [(h0, .inr (8, [.ref h1, .ref h2, .int 0, .int 0, .int 0])), (h2, .inr (1, [.ref h3, .ref h4, .ref h5, .ref h6])), (h3, .inl (y0, 32768, .inl (fun _ => 0))), (h6, .inr (9, [.ref h7, .ref h8, .int 0, .int 0, .int 0, .int 0])), (h8, .inl (y1, 3, .inl (fun _ => 0))), (h7, .inl (y2, 3, .inl (fun _ => 0))), (h5, .inr (5, [.int 304, .int 0, .int 0, .int 0, .int 0, .int 0])), (h4, .inr (7, [.int 0, .int 0, .int 0, .int 0, .int 0]))])) (va_Qi (fun (r : Int32) (u : Int32 × Int32) => r = 0 ∧ iv u.1 0 65535 ∧ iv u.2 2 65536 ∧ True) (fun (u : Int32 × Int32) (t : State) => va_P (dC, dI) vwCl [(h0, .inr (8, [.ref h1, .ref h2, .int 0, .int u.1, .int u.2])), (h2, .inr (1, [.ref h3, .ref h4, .ref h5, .ref h6])), (h3, .inl (y0, 32768, .inl (fun _ => 0))), (h6, .inr (9, [.ref h7, .ref h8, .int 0, .int 0, .int 0, .int 0])), (h8, .inl (y1, 3, .inl (fun _ => 0))), (h7, .inl (y2, 3, .inl (fun _ => 0))), (h5, .inr (5, [.int 304, .int 0, .int 0, .int 0, .int 0, .int 0])), (h4, .inr (7, [.int 0, .int 0, .int 0, .int 0, .int 0]))] t.heap ∧ va_K (dC, dI) vwCl [(y0, .int), (y1, .int), (y2, .int)] t ∧ va_D (va_A [(h0, .inr (8, [.ref h1, .ref h2, .int 0, .int 0, .int 0])), (h2, .inr (1, [.ref h3, .ref h4, .ref h5, .ref h6])), (h3, .inl (y0, 32768, .inl (fun _ => 0))), (h6, .inr (9, [.ref h7, .ref h8, .int 0, .int 0, .int 0, .int 0])), (h8, .inl (y1, 3, .inl (fun _ => 0))), (h7, .inl (y2, 3, .inl (fun _ => 0))), (h5, .inr (5, [.int 304, .int 0, .int 0, .int 0, .int 0, .int 0])), (h4, .inr (7, [.int 0, .int 0, .int 0, .int 0, .int 0]))] sz) [(h0, .inr (8, [.ref h1, .ref h2, .int 0, .int u.1, .int u.2])), (h2, .inr (1, [.ref h3, .ref h4, .ref h5, .ref h6])), (h3, .inl (y0, 32768, .inl (fun _ => 0))), (h6, .inr (9, [.ref h7, .ref h8, .int 0, .int 0, .int 0, .int 0])), (h8, .inl (y1, 3, .inl (fun _ => 0))), (h7, .inl (y2, 3, .inl (fun _ => 0))), (h5, .inr (5, [.int 304, .int 0, .int 0, .int 0, .int 0, .int 0])), (h4, .inr (7, [.int 0, .int 0, .int 0, .int 0, .int 0]))]) (va_A [(h0, .inr (8, [.ref h1, .ref h2, .int 0, .int 0, .int 0])), (h2, .inr (1, [.ref h3, .ref h4, .ref h5, .ref h6])), (h3, .inl (y0, 32768, .inl (fun _ => 0))), (h6, .inr (9, [.ref h7, .ref h8, .int 0, .int 0, .int 0, .int 0])), (h8, .inl (y1, 3, .inl (fun _ => 0))), (h7, .inl (y2, 3, .inl (fun _ => 0))), (h5, .inr (5, [.int 304, .int 0, .int 0, .int 0, .int 0, .int 0])), (h4, .inr (7, [.int 0, .int 0, .int 0, .int 0, .int 0]))] sz)) 0 0 (va_A [(h0, .inr (8, [.ref h1, .ref h2, .int 0, .int 0, .int 0])), (h2, .inr (1, [.ref h3, .ref h4, .ref h5, .ref h6])), (h3, .inl (y0, 32768, .inl (fun _ => 0))), (h6, .inr (9, [.ref h7, .ref h8, .int 0, .int 0, .int 0, .int 0])), (h8, .inl (y1, 3, .inl (fun _ => 0))), (h7, .inl (y2, 3, .inl (fun _ => 0))), (h5, .inr (5, [.int 304, .int 0, .int 0, .int 0, .int 0, .int 0])), (h4, .inr (7, [.int 0, .int 0, .int 0, .int 0, .int 0]))] sz) := by
  refine Met.ofW (cc := cX8_tellCode) (maxL := 5) (ret := (some .boolean)) (by decide) rfl ?_
  intro p e s m args below meth c s₁ B hml hv
  obtain ⟨rfl, hsz, hP, hK, hD0⟩ := hv
  have hx := B.exec
  have hb := B.bytes
  have hr := B.returns
  have hts0 := atoms_spec (ws := Cond.code yX8_tellCode cX8_tellCode 5 (some .boolean) :: lw_G) B.pre
  have hG : ∀ w ∈ lw_G, w.before _ s = true := fun w h => hts0 w (List.mem_cons_of_mem _ h)
  have hown : s.vm.findClass RX8 = some m.cls := findClass_of_methodNamed B.named
  have hlocks := B.notSynchronized
  subst hsz
  have hD := hD0.self (sz := s.heap.size)
  generalize hAe : va_A [(h0, .inr (8, [.ref h1, .ref h2, .int 0, .int 0, .int 0])), (h2, .inr (1, [.ref h3, .ref h4, .ref h5, .ref h6])), (h3, .inl (y0, 32768, .inl (fun _ => 0))), (h6, .inr (9, [.ref h7, .ref h8, .int 0, .int 0, .int 0, .int 0])), (h8, .inl (y1, 3, .inl (fun _ => 0))), (h7, .inl (y2, 3, .inl (fun _ => 0))), (h5, .inr (5, [.int 304, .int 0, .int 0, .int 0, .int 0, .int 0])), (h4, .inr (7, [.int 0, .int 0, .int 0, .int 0, .int 0]))] s.heap.size = A at hD ⊢
  have hA : ∀ q : Nat, s.heap.size ≤ q → A q := fun q h => by rw [← hAe]; exact Or.inr h
  have hS : va_S A s.heap s.heap [] := va_S.rf
  have hP : va_P (dC, dI) vwCl [(h0, .inr (8, [.ref h1, .ref h2, .int 0, .int 0, .int 0])), (h2, .inr (1, [.ref h3, .ref h4, .ref h5, .ref h6])), (h3, .inl (y0, 32768, .inl (fun _ => 0))), (h6, .inr (9, [.ref h7, .ref h8, .int 0, .int 0, .int 0, .int 0])), (h8, .inl (y1, 3, .inl (fun _ => 0))), (h7, .inl (y2, 3, .inl (fun _ => 0))), (h5, .inr (5, [.int 304, .int 0, .int 0, .int 0, .int 0, .int 0])), (h4, .inr (7, [.int 0, .int 0, .int 0, .int 0, .int 0]))] s.heap := hP
  have hl := lv_entry ([.ref h0, .int x0]) (n := 5) (Nat.le_of_ble_eq_true rfl)
  rw [lg_entry_eq]
  generalize (lg_sl ([.ref h0, .int x0]) ++ List.replicate (5 - (lg_sl ([.ref h0, .int x0])).length) Slot.unset).toArray = ls at hl ⊢
  have hl : lv_has ls 5 [(0, .ref h0), (1, .int x0)] := hl
  refine lv_aload_n hx hb dX8_tellCode_0 rfl (lv_at hl 0 rfl) ?_
  refine va_get (D := (dC, dI)) (ci := 8) (v := .ref h2) (C := RX8) (T := TX8) (N := 5) hx hb hG inGX8 hown hK hP 0 rfl rfl 1 (by decide) (hG _ wd_380) (fun _ h9 => h9) rfl dX8_tellCode_1 ?_
  refine lv_iload_n hx hb dX8_tellCode_4 rfl (lv_at hl 1 rfl) ?_
  have hPc := hP.sub (ws' := [(h2, .inr (1, [.ref h3, .ref h4, .ref h5, .ref h6])), (h3, .inl (y0, 32768, .inl (fun _ => 0))), (h6, .inr (9, [.ref h7, .ref h8, .int 0, .int 0, .int 0, .int 0])), (h8, .inl (y1, 3, .inl (fun _ => 0))), (h7, .inl (y2, 3, .inl (fun _ => 0))), (h5, .inr (5, [.int 304, .int 0, .int 0, .int 0, .int 0, .int 0])), (h4, .inr (7, [.int 0, .int 0, .int 0, .int 0, .int 0]))]) [1, 2, 3, 4, 5, 6, 7] rfl
  have hDc := hD.sub (ws' := [(h2, .inr (1, [.ref h3, .ref h4, .ref h5, .ref h6])), (h3, .inl (y0, 32768, .inl (fun _ => 0))), (h6, .inr (9, [.ref h7, .ref h8, .int 0, .int 0, .int 0, .int 0])), (h8, .inl (y1, 3, .inl (fun _ => 0))), (h7, .inl (y2, 3, .inl (fun _ => 0))), (h5, .inr (5, [.int 304, .int 0, .int 0, .int 0, .int 0, .int 0])), (h4, .inr (7, [.int 0, .int 0, .int 0, .int 0, .int 0]))]) [1, 2, 3, 4, 5, 6, 7] (by decide) rfl
  have hKc := hK.sub (tys' := [(y0, .int), (y1, .int), (y2, .int)]) [0, 1, 2] rfl
  have hFc := va_free (wc := [(h2, .inr (1, [.ref h3, .ref h4, .ref h5, .ref h6])), (h3, .inl (y0, 32768, .inl (fun _ => 0))), (h6, .inr (9, [.ref h7, .ref h8, .int 0, .int 0, .int 0, .int 0])), (h8, .inl (y1, 3, .inl (fun _ => 0))), (h7, .inl (y2, 3, .inl (fun _ => 0))), (h5, .inr (5, [.int 304, .int 0, .int 0, .int 0, .int 0, .int 0])), (h4, .inr (7, [.int 0, .int 0, .int 0, .int 0, .int 0]))]) hD hS hA [1, 2, 3, 4, 5, 6, 7] rfl
  refine va_calli (va_runV (As := [.int x0]) (rest := []) ⟨hx, hb, hml, hown, hG⟩ (cX1_lookWord_3 l dC dI h2 h3 h4 h5 h6 h7 h8 y0 y1 y2 s.heap.size x0 ix0) (cwV 1 hG (gV wd_1183 wd_822 wd_823 wd_2 wd_824) rfl rfl rfl (by decide +kernel) ⟨Nat.le_of_ble_eq_true rfl, Nat.le_of_ble_eq_true rfl⟩) ⟨fun a U g mk q => by obtain ⟨q0, q1, qP, qK, qD⟩ := q; exact ⟨q0, q1, qP, va_K.moved (u := U) (U := U.calling g mk a) (Vm.Alike.refl U.vm) qK, qD⟩, va_recv hKc hPc (ci := 1) (q0 := 0) rfl rfl, fun U hU hW => ⟨rfl, by rw [hU], by rw [hU]; exact hPc, va_K.moved hW.alike hKc, hDc.weaken (fun _ _ _ _ => trivial)⟩⟩ rfl rfl hl.1 rfl (lv_room (Nat.le_of_ble_eq_true rfl)) dX8_tellCode_5 ⟨by decide, by decide⟩) hS (fun q _ h => hFc q h) hFc (fun r1 u2 t H1 locs ht hvm hw hB hz1 hk1 hS => ?_)
  have hw : r1 = 0 ∧ True := hw
  obtain ⟨er1, -⟩ := hw
  obtain ⟨hP1, hK1, hD1⟩ := hB
  rw [ht] at hP1
  have hK1 := va_K.moved hvm.symm hK1
  obtain ⟨hP, hD⟩ := va_join (wr := [(h0, .inr (8, [.ref h1, .ref h2, .int 0, .int 0, .int 0]))]) (w1 := [(h2, .inr (1, [.ref h3, .ref h4, .ref h5, .ref h6])), (h3, .inl (y0, 32768, .inl (fun _ => 0))), (h6, .inr (9, [.ref h7, .ref h8, .int 0, .int 0, .int 0, .int 0])), (h8, .inl (y1, 3, .inl (fun _ => 0))), (h7, .inl (y2, 3, .inl (fun _ => 0))), (h5, .inr (5, [.int 304, .int 0, .int 0, .int 0, .int 0, .int 0])), (h4, .inr (7, [.int 0, .int 0, .int 0, .int 0, .int 0]))]) hP hD [1, 2, 3, 4, 5, 6, 7] [0] rfl rfl (by decide) (by decide) hk1 hFc hP1 hD1
  have hK := (hK.sub (tys' := []) [] rfl).app hK1
  generalize H1 = H at hP hS ⊢
  have hP : va_P (dC, dI) vwCl [(h0, .inr (8, [.ref h1, .ref h2, .int 0, .int 0, .int 0])), (h2, .inr (1, [.ref h3, .ref h4, .ref h5, .ref h6])), (h3, .inl (y0, 32768, .inl (fun _ => 0))), (h6, .inr (9, [.ref h7, .ref h8, .int 0, .int 0, .int 0, .int 0])), (h8, .inl (y1, 3, .inl (fun _ => 0))), (h7, .inl (y2, 3, .inl (fun _ => 0))), (h5, .inr (5, [.int 304, .int 0, .int 0, .int 0, .int 0, .int 0])), (h4, .inr (7, [.int 0, .int 0, .int 0, .int 0, .int 0]))] H := hP
  have hD : va_D A [(h0, .inr (8, [.ref h1, .ref h2, .int 0, .int 0, .int 0])), (h2, .inr (1, [.ref h3, .ref h4, .ref h5, .ref h6])), (h3, .inl (y0, 32768, .inl (fun _ => 0))), (h6, .inr (9, [.ref h7, .ref h8, .int 0, .int 0, .int 0, .int 0])), (h8, .inl (y1, 3, .inl (fun _ => 0))), (h7, .inl (y2, 3, .inl (fun _ => 0))), (h5, .inr (5, [.int 304, .int 0, .int 0, .int 0, .int 0, .int 0])), (h4, .inr (7, [.int 0, .int 0, .int 0, .int 0, .int 0]))] := hD
  have hK : va_K (dC, dI) vwCl [(y0, .int), (y1, .int), (y2, .int)] s := hK
  subst er1
  refine lv_istore_n (lv' := [(2, .int 0), (0, .ref h0), (1, .int x0)]) hx hb dX8_tellCode_8 rfl hl (by decide) rfl (fun ls hl => ?_)
  refine lv_aload_n hx hb dX8_tellCode_9 rfl (lv_at hl 1 rfl) ?_
  refine lv_iconst (v := 0) hx hb dX8_tellCode_10 (by decide) ?_
  refine va_put (D := (dC, dI)) (ci := 8) (v := .int 0) (ty := .int) (C := RX8) (T := TX8) (N := 5) hx hb hG inGX8 tyX8 tyX8_ok nmX8 hown hK hP hD hS 0 rfl rfl 2 (by decide) (hG _ wd_381) (fun _ h9 => h9) rfl (by decide +kernel) rfl rfl (Nat.le_of_ble_eq_true rfl) dX8_tellCode_11 (fun H locs hP hD hS => ?_)
  have hP : va_P (dC, dI) vwCl [(h0, .inr (8, [.ref h1, .ref h2, .int 0, .int 0, .int 0])), (h2, .inr (1, [.ref h3, .ref h4, .ref h5, .ref h6])), (h3, .inl (y0, 32768, .inl (fun _ => 0))), (h6, .inr (9, [.ref h7, .ref h8, .int 0, .int 0, .int 0, .int 0])), (h8, .inl (y1, 3, .inl (fun _ => 0))), (h7, .inl (y2, 3, .inl (fun _ => 0))), (h5, .inr (5, [.int 304, .int 0, .int 0, .int 0, .int 0, .int 0])), (h4, .inr (7, [.int 0, .int 0, .int 0, .int 0, .int 0]))] H := hP
  have hD : va_D A [(h0, .inr (8, [.ref h1, .ref h2, .int 0, .int 0, .int 0])), (h2, .inr (1, [.ref h3, .ref h4, .ref h5, .ref h6])), (h3, .inl (y0, 32768, .inl (fun _ => 0))), (h6, .inr (9, [.ref h7, .ref h8, .int 0, .int 0, .int 0, .int 0])), (h8, .inl (y1, 3, .inl (fun _ => 0))), (h7, .inl (y2, 3, .inl (fun _ => 0))), (h5, .inr (5, [.int 304, .int 0, .int 0, .int 0, .int 0, .int 0])), (h4, .inr (7, [.int 0, .int 0, .int 0, .int 0, .int 0]))] := hD
  refine lv_aload_n hx hb dX8_tellCode_14 rfl (lv_at hl 1 rfl) ?_
  refine lv_iload_n hx hb dX8_tellCode_15 rfl (lv_at hl 2 rfl) ?_
  refine lv_iconst (v := 2) hx hb dX8_tellCode_16 (by decide) ?_
  refine lv_iadd hx hb dX8_tellCode_17 ?_
  refine lv_topi (fun v3 ev3 => ?_)
  have iv3 : iv v3 2 65536 := iv_eq ev3 (iv_add ix0 (by decide : iv 2 2 2) (by decide) (by decide))
  refine va_put (D := (dC, dI)) (ci := 8) (v := .int v3) (ty := .int) (C := RX8) (T := TX8) (N := 5) hx hb hG inGX8 tyX8 tyX8_ok nmX8 hown hK hP hD hS 0 rfl rfl 4 (by decide) (hG _ wd_383) (fun _ h9 => h9) rfl (by decide +kernel) rfl rfl (Nat.le_of_ble_eq_true rfl) dX8_tellCode_18 (fun H locs hP hD hS => ?_)
  have hP : va_P (dC, dI) vwCl [(h0, .inr (8, [.ref h1, .ref h2, .int 0, .int 0, .int v3])), (h2, .inr (1, [.ref h3, .ref h4, .ref h5, .ref h6])), (h3, .inl (y0, 32768, .inl (fun _ => 0))), (h6, .inr (9, [.ref h7, .ref h8, .int 0, .int 0, .int 0, .int 0])), (h8, .inl (y1, 3, .inl (fun _ => 0))), (h7, .inl (y2, 3, .inl (fun _ => 0))), (h5, .inr (5, [.int 304, .int 0, .int 0, .int 0, .int 0, .int 0])), (h4, .inr (7, [.int 0, .int 0, .int 0, .int 0, .int 0]))] H := hP
  have hD : va_D A [(h0, .inr (8, [.ref h1, .ref h2, .int 0, .int 0, .int v3])), (h2, .inr (1, [.ref h3, .ref h4, .ref h5, .ref h6])), (h3, .inl (y0, 32768, .inl (fun _ => 0))), (h6, .inr (9, [.ref h7, .ref h8, .int 0, .int 0, .int 0, .int 0])), (h8, .inl (y1, 3, .inl (fun _ => 0))), (h7, .inl (y2, 3, .inl (fun _ => 0))), (h5, .inr (5, [.int 304, .int 0, .int 0, .int 0, .int 0, .int 0])), (h4, .inr (7, [.int 0, .int 0, .int 0, .int 0, .int 0]))] := hD
  refine lv_iload_n hx hb dX8_tellCode_21 rfl (lv_at hl 0 rfl) ?_
  have hPc := hP.sub (ws' := []) [] rfl
  have hDc := hD.sub (ws' := []) [] (by decide) rfl
  have hKc := hK.sub (tys' := []) [] rfl
  have hFc := va_free (wc := []) hD hS hA [] rfl
  refine va_calli (va_runS (As := [.int 0]) (rest := []) ⟨hx, hb, hml, hown, hG⟩ (cX2_isCode_1 l dC dI H.size) (va_cwS 1 hG (gS wd_1184 wd_1010 wd_6 wd_1011) rfl rfl rfl (by decide +kernel) ⟨Nat.le_of_ble_eq_true rfl, Nat.le_of_ble_eq_true rfl⟩) ⟨fun a U g mk q => by obtain ⟨q0, q1, qP, qK, qD⟩ := q; exact ⟨q0, q1, qP, va_K.moved (u := U) (U := U.calling g mk a) (Vm.Alike.refl U.vm) qK, qD⟩, fun U hU hW => ⟨rfl, by rw [hU], by rw [hU]; exact hPc, va_K.moved hW.alike hKc, hDc.weaken (fun _ _ _ _ => trivial)⟩⟩ rfl rfl hl.1 rfl (lv_room (Nat.le_of_ble_eq_true rfl)) dX8_tellCode_22 ⟨by decide, by decide⟩) hS (fun q _ h => hFc q h) hFc (fun r4 u5 t H1 locs ht hvm hw hB hz1 hk1 hS => ?_)
  have hw : r4 = 0 ∧ True := hw
  obtain ⟨er4, -⟩ := hw
  obtain ⟨hP1, hK1, hD1⟩ := hB
  rw [ht] at hP1
  have hK1 := va_K.moved hvm.symm hK1
  obtain ⟨hP, hD⟩ := va_join (wr := [(h0, .inr (8, [.ref h1, .ref h2, .int 0, .int 0, .int v3])), (h2, .inr (1, [.ref h3, .ref h4, .ref h5, .ref h6])), (h3, .inl (y0, 32768, .inl (fun _ => 0))), (h6, .inr (9, [.ref h7, .ref h8, .int 0, .int 0, .int 0, .int 0])), (h8, .inl (y1, 3, .inl (fun _ => 0))), (h7, .inl (y2, 3, .inl (fun _ => 0))), (h5, .inr (5, [.int 304, .int 0, .int 0, .int 0, .int 0, .int 0])), (h4, .inr (7, [.int 0, .int 0, .int 0, .int 0, .int 0]))]) (w1 := []) hP hD [] [0, 1, 2, 3, 4, 5, 6, 7] rfl rfl (by decide) (by decide) hk1 hFc hP1 hD1
  have hK := (hK.sub (tys' := [(y0, .int), (y1, .int), (y2, .int)]) [0, 1, 2] rfl).app hK1
  generalize H1 = H at hP hS ⊢
  have hP : va_P (dC, dI) vwCl [(h0, .inr (8, [.ref h1, .ref h2, .int 0, .int 0, .int v3])), (h2, .inr (1, [.ref h3, .ref h4, .ref h5, .ref h6])), (h3, .inl (y0, 32768, .inl (fun _ => 0))), (h6, .inr (9, [.ref h7, .ref h8, .int 0, .int 0, .int 0, .int 0])), (h8, .inl (y1, 3, .inl (fun _ => 0))), (h7, .inl (y2, 3, .inl (fun _ => 0))), (h5, .inr (5, [.int 304, .int 0, .int 0, .int 0, .int 0, .int 0])), (h4, .inr (7, [.int 0, .int 0, .int 0, .int 0, .int 0]))] H := hP
  have hD : va_D A [(h0, .inr (8, [.ref h1, .ref h2, .int 0, .int 0, .int v3])), (h2, .inr (1, [.ref h3, .ref h4, .ref h5, .ref h6])), (h3, .inl (y0, 32768, .inl (fun _ => 0))), (h6, .inr (9, [.ref h7, .ref h8, .int 0, .int 0, .int 0, .int 0])), (h8, .inl (y1, 3, .inl (fun _ => 0))), (h7, .inl (y2, 3, .inl (fun _ => 0))), (h5, .inr (5, [.int 304, .int 0, .int 0, .int 0, .int 0, .int 0])), (h4, .inr (7, [.int 0, .int 0, .int 0, .int 0, .int 0]))] := hD
  have hK : va_K (dC, dI) vwCl [(y0, .int), (y1, .int), (y2, .int)] s := hK
  subst er4
  refine lv_if_ne (tgt := 33) hx hb dX8_tellCode_25 (by decide) (fun c => absurd (by decide) c) (fun _ => ?_)
  refine lv_iconst (v := 0) hx hb dX8_tellCode_28 (by decide) ?_
  refine lv_istore_n (lv' := [(3, .int 0), (2, .int 0), (0, .ref h0), (1, .int x0)]) hx hb dX8_tellCode_29 rfl hl (by decide) rfl (fun ls hl => ?_)
  refine lv_goto (tgt := 125) hx hb dX8_tellCode_30 (by decide) ?_
  refine lv_aload_n hx hb dX8_tellCode_125 rfl (lv_at hl 2 rfl) ?_
  refine lv_aload_n hx hb dX8_tellCode_126 rfl (lv_at hl 2 rfl) ?_
  refine va_get (D := (dC, dI)) (ci := 8) (v := .int v3) (C := RX8) (T := TX8) (N := 5) hx hb hG inGX8 hown hK hP 0 rfl rfl 4 (by decide) (hG _ wd_383) (fun _ h9 => h9) rfl dX8_tellCode_127 ?_
  refine lv_ldc hx hb hown (hG _ wd_1206) dX8_tellCode_130 ?_
  refine lv_iand hx hb dX8_tellCode_132 ?_
  refine lv_topi (fun v6 ev6 => ?_)
  have iv6 : iv v6 0 65535 := iv_eq ev6 (iv_and (x := v3) (iv_w (by decide : iv 65535 65535 65535) (by decide) (by decide) : iv 65535 0 65535))
  refine va_put (D := (dC, dI)) (ci := 8) (v := .int v6) (ty := .int) (C := RX8) (T := TX8) (N := 5) hx hb hG inGX8 tyX8 tyX8_ok nmX8 hown hK hP hD hS 0 rfl rfl 3 (by decide) (hG _ wd_382) (fun _ h9 => h9) rfl (by decide +kernel) rfl rfl (Nat.le_of_ble_eq_true rfl) dX8_tellCode_133 (fun H locs hP hD hS => ?_)
  have hP : va_P (dC, dI) vwCl [(h0, .inr (8, [.ref h1, .ref h2, .int 0, .int v6, .int v3])), (h2, .inr (1, [.ref h3, .ref h4, .ref h5, .ref h6])), (h3, .inl (y0, 32768, .inl (fun _ => 0))), (h6, .inr (9, [.ref h7, .ref h8, .int 0, .int 0, .int 0, .int 0])), (h8, .inl (y1, 3, .inl (fun _ => 0))), (h7, .inl (y2, 3, .inl (fun _ => 0))), (h5, .inr (5, [.int 304, .int 0, .int 0, .int 0, .int 0, .int 0])), (h4, .inr (7, [.int 0, .int 0, .int 0, .int 0, .int 0]))] H := hP
  have hD : va_D A [(h0, .inr (8, [.ref h1, .ref h2, .int 0, .int v6, .int v3])), (h2, .inr (1, [.ref h3, .ref h4, .ref h5, .ref h6])), (h3, .inl (y0, 32768, .inl (fun _ => 0))), (h6, .inr (9, [.ref h7, .ref h8, .int 0, .int 0, .int 0, .int 0])), (h8, .inl (y1, 3, .inl (fun _ => 0))), (h7, .inl (y2, 3, .inl (fun _ => 0))), (h5, .inr (5, [.int 304, .int 0, .int 0, .int 0, .int 0, .int 0])), (h4, .inr (7, [.int 0, .int 0, .int 0, .int 0, .int 0]))] := hD
  refine lv_iload_n hx hb dX8_tellCode_136 rfl (lv_at hl 0 rfl) ?_
  have hP9 := hP.sub (ws' := [(h0, .inr (8, [.ref h1, .ref h2, .int 0, .int v6, .int v3])), (h2, .inr (1, [.ref h3, .ref h4, .ref h5, .ref h6])), (h3, .inl (y0, 32768, .inl (fun _ => 0))), (h6, .inr (9, [.ref h7, .ref h8, .int 0, .int 0, .int 0, .int 0])), (h8, .inl (y1, 3, .inl (fun _ => 0))), (h7, .inl (y2, 3, .inl (fun _ => 0))), (h5, .inr (5, [.int 304, .int 0, .int 0, .int 0, .int 0, .int 0])), (h4, .inr (7, [.int 0, .int 0, .int 0, .int 0, .int 0]))]) [0, 1, 2, 3, 4, 5, 6, 7] rfl
  have hD9 := hD.sub (ws' := [(h0, .inr (8, [.ref h1, .ref h2, .int 0, .int v6, .int v3])), (h2, .inr (1, [.ref h3, .ref h4, .ref h5, .ref h6])), (h3, .inl (y0, 32768, .inl (fun _ => 0))), (h6, .inr (9, [.ref h7, .ref h8, .int 0, .int 0, .int 0, .int 0])), (h8, .inl (y1, 3, .inl (fun _ => 0))), (h7, .inl (y2, 3, .inl (fun _ => 0))), (h5, .inr (5, [.int 304, .int 0, .int 0, .int 0, .int 0, .int 0])), (h4, .inr (7, [.int 0, .int 0, .int 0, .int 0, .int 0]))]) [0, 1, 2, 3, 4, 5, 6, 7] (by decide) rfl
  have hK9 := hK.sub (tys' := [(y0, .int), (y1, .int), (y2, .int)]) [0, 1, 2] rfl
  exact W.zret (v := 0) hx hb hr rfl (fun t ht hW => ⟨⟨0, (v6, v3), rfl, ⟨rfl, iv_w iv6 (by decide) (by decide), iv_w iv3 (by decide) (by decide), trivial⟩, by rw [ht]; exact hP9, va_K.moved hW.alike hK9, hD9⟩, hS.F ht⟩) hS.2.2 dX8_tellCode_137
set_option maxHeartbeats 4000000 in
set_option maxRecDepth 100000 in
theorem cJ3_checkIndex_8e157_3 (l : Launch) (dC : Nat → ClassId) (dI : Nat → Nat → Nat) (sz : Nat) : Met l yJ3_checkIndex_8e157 (Cond.code yJ3_checkIndex_8e157 cJ3_checkIndex_8e157 3 (some .int) :: lw_G) ({ frames := 0, cells := 0, slots := 0, locals := 0 }) (va_Pc [.int 112, .int 140, .null] (fun U => U.heap.size = sz ∧ va_P (dC, dI) vwCl [] U.heap ∧ va_K (dC, dI) vwCl [] U ∧ va_D (fun _ => True) [])) (va_Qi (fun (r : Int32) (u : Unit) => r = 112 ∧ True) (fun (u : Unit) (t : State) => va_P (dC, dI) vwCl [] t.heap ∧ va_K (dC, dI) vwCl [] t ∧ va_D (va_A [] sz) []) (va_A [] sz)) 0 0 (va_A [] sz) := by
  refine Met.ofW (cc := cJ3_checkIndex_8e157) (maxL := 3) (ret := (some .int)) (by decide) rfl ?_
  intro p e s m args below meth c s₁ B hml hv
  obtain ⟨rfl, hsz, hP, hK, hD0⟩ := hv
  have hx := B.exec
  have hb := B.bytes
  have hr := B.returns
  have hts0 := atoms_spec (ws := Cond.code yJ3_checkIndex_8e157 cJ3_checkIndex_8e157 3 (some .int) :: lw_G) B.pre
  have hG : ∀ w ∈ lw_G, w.before _ s = true := fun w h => hts0 w (List.mem_cons_of_mem _ h)
  have hown : s.vm.findClass RJ3 = some m.cls := findClass_of_methodNamed B.named
  have hlocks := B.notSynchronized
  subst hsz
  have hD := hD0.self (sz := s.heap.size)
  generalize hAe : va_A [] s.heap.size = A at hD ⊢
  have hA : ∀ q : Nat, s.heap.size ≤ q → A q := fun q h => by rw [← hAe]; exact Or.inr h
  have hS : va_S A s.heap s.heap [] := va_S.rf
  have hP : va_P (dC, dI) vwCl [] s.heap := hP
  have hl := lv_entry ([.int 112, .int 140, .null]) (n := 3) (Nat.le_of_ble_eq_true rfl)
  rw [lg_entry_eq]
  generalize (lg_sl ([.int 112, .int 140, .null]) ++ List.replicate (3 - (lg_sl ([.int 112, .int 140, .null])).length) Slot.unset).toArray = ls at hl ⊢
  have hl : lv_has ls 3 [(0, .int 112), (1, .int 140), (2, .null)] := hl
  refine lv_iload_n hx hb dJ3_checkIndex_8e157_0 rfl (lv_at hl 0 rfl) ?_
  refine lv_if_lt (tgt := 9) hx hb dJ3_checkIndex_8e157_1 (by decide) (fun c => absurd c (by decide)) (fun _ => ?_)
  refine lv_iload_n hx hb dJ3_checkIndex_8e157_4 rfl (lv_at hl 0 rfl) ?_
  refine lv_iload_n hx hb dJ3_checkIndex_8e157_5 rfl (lv_at hl 1 rfl) ?_
  refine lv_icmp_lt (tgt := 16) hx hb dJ3_checkIndex_8e157_6 (by decide) (fun _ => ?_) (fun c => absurd (by decide) c)
  refine lv_iload_n hx hb dJ3_checkIndex_8e157_16 rfl (lv_at hl 0 rfl) ?_
  have hP9 := hP.sub (ws' := []) [] rfl
  have hD9 := hD.sub (ws' := []) [] (by decide) rfl
  have hK9 := hK.sub (tys' := []) [] rfl
  exact W.iret (v := 112) hx hb hr (fun t ht hW => ⟨⟨112, (), rfl, ⟨rfl, trivial⟩, by rw [ht]; exact hP9, va_K.moved hW.alike hK9, hD9⟩, hS.F ht⟩) hS.2.2 dJ3_checkIndex_8e157_17
set_option maxHeartbeats 4000000 in
set_option maxRecDepth 100000 in
theorem cJ3_checkIndex_8e157_4 (l : Launch) (dC : Nat → ClassId) (dI : Nat → Nat → Nat) (h0 : Nat) (sz : Nat) : Met l yJ3_checkIndex_8e157 (Cond.code yJ3_checkIndex_8e157 cJ3_checkIndex_8e157 3 (some .int) :: lw_G) ({ frames := 0, cells := 0, slots := 0, locals := 0 }) (va_Pc [.int 112, .int 140, .ref h0] (fun U => U.heap.size = sz ∧ va_P (dC, dI) vwCl [] U.heap ∧ va_K (dC, dI) vwCl [] U ∧ va_D (fun _ => True) [])) (va_Qi (fun (r : Int32) (u : Unit) => r = 112 ∧ True) (fun (u : Unit) (t : State) => va_P (dC, dI) vwCl [] t.heap ∧ va_K (dC, dI) vwCl [] t ∧ va_D (va_A [] sz) []) (va_A [] sz)) 0 0 (va_A [] sz) := by
  refine Met.ofW (cc := cJ3_checkIndex_8e157) (maxL := 3) (ret := (some .int)) (by decide) rfl ?_
  intro p e s m args below meth c s₁ B hml hv
  obtain ⟨rfl, hsz, hP, hK, hD0⟩ := hv
  have hx := B.exec
  have hb := B.bytes
  have hr := B.returns
  have hts0 := atoms_spec (ws := Cond.code yJ3_checkIndex_8e157 cJ3_checkIndex_8e157 3 (some .int) :: lw_G) B.pre
  have hG : ∀ w ∈ lw_G, w.before _ s = true := fun w h => hts0 w (List.mem_cons_of_mem _ h)
  have hown : s.vm.findClass RJ3 = some m.cls := findClass_of_methodNamed B.named
  have hlocks := B.notSynchronized
  subst hsz
  have hD := hD0.self (sz := s.heap.size)
  generalize hAe : va_A [] s.heap.size = A at hD ⊢
  have hA : ∀ q : Nat, s.heap.size ≤ q → A q := fun q h => by rw [← hAe]; exact Or.inr h
  have hS : va_S A s.heap s.heap [] := va_S.rf
  have hP : va_P (dC, dI) vwCl [] s.heap := hP
  have hl := lv_entry ([.int 112, .int 140, .ref h0]) (n := 3) (Nat.le_of_ble_eq_true rfl)
  rw [lg_entry_eq]
  generalize (lg_sl ([.int 112, .int 140, .ref h0]) ++ List.replicate (3 - (lg_sl ([.int 112, .int 140, .ref h0])).length) Slot.unset).toArray = ls at hl ⊢
  have hl : lv_has ls 3 [(0, .int 112), (1, .int 140), (2, .ref h0)] := hl
  refine lv_iload_n hx hb dJ3_checkIndex_8e157_0 rfl (lv_at hl 0 rfl) ?_
  refine lv_if_lt (tgt := 9) hx hb dJ3_checkIndex_8e157_1 (by decide) (fun c => absurd c (by decide)) (fun _ => ?_)
  refine lv_iload_n hx hb dJ3_checkIndex_8e157_4 rfl (lv_at hl 0 rfl) ?_
  refine lv_iload_n hx hb dJ3_checkIndex_8e157_5 rfl (lv_at hl 1 rfl) ?_
  refine lv_icmp_lt (tgt := 16) hx hb dJ3_checkIndex_8e157_6 (by decide) (fun _ => ?_) (fun c => absurd (by decide) c)
  refine lv_iload_n hx hb dJ3_checkIndex_8e157_16 rfl (lv_at hl 0 rfl) ?_
  have hP9 := hP.sub (ws' := []) [] rfl
  have hD9 := hD.sub (ws' := []) [] (by decide) rfl
  have hK9 := hK.sub (tys' := []) [] rfl
  exact W.iret (v := 112) hx hb hr (fun t ht hW => ⟨⟨112, (), rfl, ⟨rfl, trivial⟩, by rw [ht]; exact hP9, va_K.moved hW.alike hK9, hD9⟩, hS.F ht⟩) hS.2.2 dJ3_checkIndex_8e157_17
set_option maxHeartbeats 4000000 in
set_option maxRecDepth 100000 in
theorem cJ0_checkIndex_df160_2 (l : Launch) (dC : Nat → ClassId) (dI : Nat → Nat → Nat) (adK adV : Nat → Nat) (sz : Nat) : Met l yJ0_checkIndex_df160 (Cond.code yJ0_checkIndex_df160 cJ0_checkIndex_df160 2 none :: lw_G) ({ frames := 1, cells := 0, slots := 0, locals := 22 }) (va_Pc [.int 112, .int 140] (fun U => U.heap.size = sz ∧ va_P (dC, dI) vwCl [] U.heap ∧ va_K (dC, dI) vwCl [] U ∧ va_D (fun _ => True) [] ∧ ev adK adV (va_A [] sz) U U.heap)) (va_Qv (fun (u : Unit) => True) (fun (u : Unit) (t : State) => va_P (dC, dI) vwCl [] t.heap ∧ va_K (dC, dI) vwCl [] t ∧ va_D (va_A [] sz) []) (va_A [] sz)) 0 0 (va_A [] sz) := by
  refine Met.ofW (cc := cJ0_checkIndex_df160) (maxL := 2) (ret := none) (by decide) rfl ?_
  intro p e s m args below meth c s₁ B hml hv
  obtain ⟨rfl, hsz, hP, hK, hD0, hE⟩ := hv
  have hx := B.exec
  have hb := B.bytes
  have hr := B.returns
  have hts0 := atoms_spec (ws := Cond.code yJ0_checkIndex_df160 cJ0_checkIndex_df160 2 none :: lw_G) B.pre
  have hG : ∀ w ∈ lw_G, w.before _ s = true := fun w h => hts0 w (List.mem_cons_of_mem _ h)
  have hown : s.vm.findClass RJ0 = some m.cls := findClass_of_methodNamed B.named
  have hlocks := B.notSynchronized
  subst hsz
  have hD := hD0.self (sz := s.heap.size)
  generalize hAe : va_A [] s.heap.size = A at hD hE ⊢
  have hA : ∀ q : Nat, s.heap.size ≤ q → A q := fun q h => by rw [← hAe]; exact Or.inr h
  have hS : va_S A s.heap s.heap [] := va_S.rf
  have hP : va_P (dC, dI) vwCl [] s.heap := hP
  have hl := lv_entry ([.int 112, .int 140]) (n := 2) (Nat.le_of_ble_eq_true rfl)
  rw [lg_entry_eq]
  generalize (lg_sl ([.int 112, .int 140]) ++ List.replicate (2 - (lg_sl ([.int 112, .int 140])).length) Slot.unset).toArray = ls at hl ⊢
  have hl : lv_has ls 2 [(0, .int 112), (1, .int 140)] := hl
  refine lv_iload_n hx hb dJ0_checkIndex_df160_0 rfl (lv_at hl 0 rfl) ?_
  refine lv_iload_n hx hb dJ0_checkIndex_df160_1 rfl (lv_at hl 1 rfl) ?_
  rcases hE.2.2.1 with hZ | ⟨t1, hZ⟩
  · skip
    refine va_gets hx hb hZ hS hown (hG _ wd_259) (fun _ h9 => h9) dJ0_checkIndex_df160_2 ?_
    have hPc := hP.sub (ws' := []) [] rfl
    have hDc := hD.sub (ws' := []) [] (by decide) rfl
    have hKc := hK.sub (tys' := []) [] rfl
    have hFc := va_free (wc := []) hD hS hA [] rfl
    refine va_calli (va_runS (As := [.int 112, .int 140, .null]) (rest := []) ⟨hx, hb, hml, hown, hG⟩ (cJ3_checkIndex_8e157_3 l dC dI s.heap.size) (va_cwS 3 hG (gS wd_261 wd_262 wd_14 wd_263) rfl rfl rfl (by decide +kernel) ⟨Nat.le_of_ble_eq_true rfl, Nat.le_of_ble_eq_true rfl⟩) ⟨fun a U g mk q => by obtain ⟨q0, q1, qP, qK, qD⟩ := q; exact ⟨q0, q1, qP, va_K.moved (u := U) (U := U.calling g mk a) (Vm.Alike.refl U.vm) qK, qD⟩, fun U hU hW => ⟨rfl, by rw [hU], by rw [hU]; exact hPc, va_K.moved hW.alike hKc, hDc.weaken (fun _ _ _ _ => trivial)⟩⟩ rfl rfl hl.1 rfl (lv_room (Nat.le_of_ble_eq_true rfl)) dJ0_checkIndex_df160_5 ⟨by decide, by decide⟩) hS (fun q _ h => hFc q h) hFc (fun r2 u3 t H1 locs ht hvm hw hB hz1 hk1 hS => ?_)
    have hw : r2 = 112 ∧ True := hw
    obtain ⟨er2, -⟩ := hw
    obtain ⟨hP1, hK1, hD1⟩ := hB
    rw [ht] at hP1
    have hK1 := va_K.moved hvm.symm hK1
    obtain ⟨hP, hD⟩ := va_join (wr := []) (w1 := []) hP hD [] [] rfl rfl (by decide) (by decide) hk1 hFc hP1 hD1
    have hK := (hK.sub (tys' := []) [] rfl).app hK1
    generalize H1 = H at hP hS ⊢
    have hP : va_P (dC, dI) vwCl [] H := hP
    have hD : va_D A [] := hD
    have hK : va_K (dC, dI) vwCl [] s := hK
    subst er2
    refine lv_pop hx hb dJ0_checkIndex_df160_8 rfl ?_
    have hP9 := hP.sub (ws' := []) [] rfl
    have hD9 := hD.sub (ws' := []) [] (by decide) rfl
    have hK9 := hK.sub (tys' := []) [] rfl
    exact W.vret hx hb hr (fun t ht hW => ⟨⟨(), rfl, trivial, by rw [ht]; exact hP9, va_K.moved hW.alike hK9, hD9⟩, hS.F ht⟩) hS.2.2 dJ0_checkIndex_df160_9
  · skip
    refine va_gets hx hb hZ hS hown (hG _ wd_259) (fun _ h9 => h9) dJ0_checkIndex_df160_2 ?_
    have hPc := hP.sub (ws' := []) [] rfl
    have hDc := hD.sub (ws' := []) [] (by decide) rfl
    have hKc := hK.sub (tys' := []) [] rfl
    have hFc := va_free (wc := []) hD hS hA [] rfl
    refine va_calli (va_runS (As := [.int 112, .int 140, .ref t1]) (rest := []) ⟨hx, hb, hml, hown, hG⟩ (cJ3_checkIndex_8e157_4 l dC dI t1 s.heap.size) (va_cwS 3 hG (gS wd_261 wd_262 wd_14 wd_263) rfl rfl rfl (by decide +kernel) ⟨Nat.le_of_ble_eq_true rfl, Nat.le_of_ble_eq_true rfl⟩) ⟨fun a U g mk q => by obtain ⟨q0, q1, qP, qK, qD⟩ := q; exact ⟨q0, q1, qP, va_K.moved (u := U) (U := U.calling g mk a) (Vm.Alike.refl U.vm) qK, qD⟩, fun U hU hW => ⟨rfl, by rw [hU], by rw [hU]; exact hPc, va_K.moved hW.alike hKc, hDc.weaken (fun _ _ _ _ => trivial)⟩⟩ rfl rfl hl.1 rfl (lv_room (Nat.le_of_ble_eq_true rfl)) dJ0_checkIndex_df160_5 ⟨by decide, by decide⟩) hS (fun q _ h => hFc q h) hFc (fun r4 u5 t H1 locs ht hvm hw hB hz1 hk1 hS => ?_)
    have hw : r4 = 112 ∧ True := hw
    obtain ⟨er4, -⟩ := hw
    obtain ⟨hP1, hK1, hD1⟩ := hB
    rw [ht] at hP1
    have hK1 := va_K.moved hvm.symm hK1
    obtain ⟨hP, hD⟩ := va_join (wr := []) (w1 := []) hP hD [] [] rfl rfl (by decide) (by decide) hk1 hFc hP1 hD1
    have hK := (hK.sub (tys' := []) [] rfl).app hK1
    generalize H1 = H at hP hS ⊢
    have hP : va_P (dC, dI) vwCl [] H := hP
    have hD : va_D A [] := hD
    have hK : va_K (dC, dI) vwCl [] s := hK
    subst er4
    refine lv_pop hx hb dJ0_checkIndex_df160_8 rfl ?_
    have hP9 := hP.sub (ws' := []) [] rfl
    have hD9 := hD.sub (ws' := []) [] (by decide) rfl
    have hK9 := hK.sub (tys' := []) [] rfl
    exact W.vret hx hb hr (fun t ht hW => ⟨⟨(), rfl, trivial, by rw [ht]; exact hP9, va_K.moved hW.alike hK9, hD9⟩, hS.F ht⟩) hS.2.2 dJ0_checkIndex_df160_9
set_option maxHeartbeats 4000000 in
set_option maxRecDepth 100000 in
theorem cJ1_charAt_3b067_2 (l : Launch) (dC : Nat → ClassId) (dI : Nat → Nat → Nat) (adK adV : Nat → Nat) (sz : Nat) : Met l yJ1_charAt_3b067 (Cond.code yJ1_charAt_3b067 cJ1_charAt_3b067 2 (some .char) :: lw_G) ({ frames := 2, cells := 0, slots := 0, locals := 43 }) (va_Pc [.ref (adV 0), .int 112] (fun U => U.heap.size = sz ∧ va_P (dC, dI) vwCl [] U.heap ∧ va_K (dC, dI) vwCl [] U ∧ va_D (fun _ => True) [] ∧ ev adK adV (va_A [] sz) U U.heap)) (va_Qi (fun (r : Int32) (u : Unit) => r = 119 ∧ True) (fun (u : Unit) (t : State) => va_P (dC, dI) vwCl [] t.heap ∧ va_K (dC, dI) vwCl [] t ∧ va_D (va_A [] sz) []) (va_A [] sz)) 0 0 (va_A [] sz) := by
  refine Met.ofW (cc := cJ1_charAt_3b067) (maxL := 2) (ret := (some .char)) (by decide) rfl ?_
  intro p e s m args below meth c s₁ B hml hv
  obtain ⟨rfl, hsz, hP, hK, hD0, hE⟩ := hv
  have hx := B.exec
  have hb := B.bytes
  have hr := B.returns
  have hts0 := atoms_spec (ws := Cond.code yJ1_charAt_3b067 cJ1_charAt_3b067 2 (some .char) :: lw_G) B.pre
  have hG : ∀ w ∈ lw_G, w.before _ s = true := fun w h => hts0 w (List.mem_cons_of_mem _ h)
  have hown : s.vm.findClass RJ1 = some m.cls := findClass_of_methodNamed B.named
  have hlocks := B.notSynchronized
  subst hsz
  have hD := hD0.self (sz := s.heap.size)
  generalize hAe : va_A [] s.heap.size = A at hD hE ⊢
  have hA : ∀ q : Nat, s.heap.size ≤ q → A q := fun q h => by rw [← hAe]; exact Or.inr h
  have hS : va_S A s.heap s.heap [] := va_S.rf
  have hP : va_P (dC, dI) vwCl [] s.heap := hP
  have hl := lv_entry ([.ref (adV 0), .int 112]) (n := 2) (Nat.le_of_ble_eq_true rfl)
  rw [lg_entry_eq]
  generalize (lg_sl ([.ref (adV 0), .int 112]) ++ List.replicate (2 - (lg_sl ([.ref (adV 0), .int 112])).length) Slot.unset).toArray = ls at hl ⊢
  have hl : lv_has ls 2 [(0, .ref (adV 0)), (1, .int 112)] := hl
  refine lv_iload_n hx hb dJ1_charAt_3b067_0 rfl (lv_at hl 1 rfl) ?_
  refine lv_aload_n hx hb dJ1_charAt_3b067_1 rfl (lv_at hl 0 rfl) ?_
  refine va_tlen (v := 140) hx hb (hE.1.1 0 (by decide)).2.2.2 hS (by decide) dJ1_charAt_3b067_2 ?_
  have hPc := hP.sub (ws' := []) [] rfl
  have hDc := hD.sub (ws' := []) [] (by decide) rfl
  have hKc := hK.sub (tys' := []) [] rfl
  have hFc := va_free (wc := []) hD hS hA [] rfl
  refine va_callv (va_runS (As := [.int 112, .int 140]) (rest := []) ⟨hx, hb, hml, hown, hG⟩ (cJ0_checkIndex_df160_2 l dC dI adK adV s.heap.size) (va_cwS 2 hG (gS wd_256 wd_257 wd_12 wd_258) rfl rfl rfl (by decide +kernel) ⟨Nat.le_of_ble_eq_true rfl, Nat.le_of_ble_eq_true rfl⟩) ⟨fun a U g mk q => by obtain ⟨q0, q1, qP, qK, qD, qE⟩ := q; exact ⟨q0, q1, qP, va_K.moved (u := U) (U := U.calling g mk a) (Vm.Alike.refl U.vm) qK, qD, qE.same rfl⟩, fun U hU hW => ⟨rfl, by rw [hU], by rw [hU]; exact hPc, va_K.moved hW.alike hKc, hDc.weaken (fun _ _ _ _ => trivial), by rw [hU]; exact ((hE.kept hS.2.1).narrow hFc).warm hW⟩⟩ rfl rfl hl.1 rfl (lv_room (Nat.le_of_ble_eq_true rfl)) dJ1_charAt_3b067_3 ⟨by decide, by decide⟩) hS (fun q _ h => hFc q h) hFc (fun u2 t H1 locs ht hvm hw hB hz1 hk1 hS => ?_)
  obtain ⟨hP1, hK1, hD1⟩ := hB
  rw [ht] at hP1
  have hK1 := va_K.moved hvm.symm hK1
  obtain ⟨hP, hD⟩ := va_join (wr := []) (w1 := []) hP hD [] [] rfl rfl (by decide) (by decide) hk1 hFc hP1 hD1
  have hK := (hK.sub (tys' := []) [] rfl).app hK1
  generalize H1 = H at hP hS ⊢
  have hP : va_P (dC, dI) vwCl [] H := hP
  have hD : va_D A [] := hD
  have hK : va_K (dC, dI) vwCl [] s := hK
  refine lv_aload_n hx hb dJ1_charAt_3b067_6 rfl (lv_at hl 0 rfl) ?_
  refine lv_iload_n hx hb dJ1_charAt_3b067_7 rfl (lv_at hl 1 rfl) ?_
  refine va_tb (v := .int 119) hx hb (hE.1.1 0 (by decide)).2.2.2 hS (iv_in (by decide : iv 112 112 112) (by decide) (by decide) : vp_in 112 140) rfl dJ1_charAt_3b067_8 ?_
  refine lv_sipush (v := 255) hx hb dJ1_charAt_3b067_9 (by decide) ?_
  refine lv_iand hx hb dJ1_charAt_3b067_12 ?_
  refine lv_val (y := 119) (by decide +kernel) ?_
  refine lv_i2c (v := _) hx hb dJ1_charAt_3b067_13 rfl ?_
  refine lv_val (y := 119) (by decide +kernel) ?_
  have hP9 := hP.sub (ws' := []) [] rfl
  have hD9 := hD.sub (ws' := []) [] (by decide) rfl
  have hK9 := hK.sub (tys' := []) [] rfl
  exact W.zret (v := 119) hx hb hr rfl (fun t ht hW => ⟨⟨119, (), rfl, ⟨rfl, trivial⟩, by rw [ht]; exact hP9, va_K.moved hW.alike hK9, hD9⟩, hS.F ht⟩) hS.2.2 dJ1_charAt_3b067_14
set_option maxHeartbeats 4000000 in
set_option maxRecDepth 100000 in
theorem cJ0_charAt_5068e_2 (l : Launch) (dC : Nat → ClassId) (dI : Nat → Nat → Nat) (adK adV : Nat → Nat) (sz : Nat) : Met l yJ0_charAt_5068e (Cond.code yJ0_charAt_5068e cJ0_charAt_5068e 2 (some .char) :: lw_G) ({ frames := 3, cells := 0, slots := 0, locals := 64 }) (va_Pc [.ref (adK 0), .int 112] (fun U => U.heap.size = sz ∧ va_P (dC, dI) vwCl [] U.heap ∧ va_K (dC, dI) vwCl [] U ∧ va_D (fun _ => True) [] ∧ ev adK adV (va_A [] sz) U U.heap)) (va_Qi (fun (r : Int32) (u : Unit) => r = 119 ∧ True) (fun (u : Unit) (t : State) => va_P (dC, dI) vwCl [] t.heap ∧ va_K (dC, dI) vwCl [] t ∧ va_D (va_A [] sz) []) (va_A [] sz)) 0 0 (va_A [] sz) := by
  refine Met.ofW (cc := cJ0_charAt_5068e) (maxL := 2) (ret := (some .char)) (by decide) rfl ?_
  intro p e s m args below meth c s₁ B hml hv
  obtain ⟨rfl, hsz, hP, hK, hD0, hE⟩ := hv
  have hx := B.exec
  have hb := B.bytes
  have hr := B.returns
  have hts0 := atoms_spec (ws := Cond.code yJ0_charAt_5068e cJ0_charAt_5068e 2 (some .char) :: lw_G) B.pre
  have hG : ∀ w ∈ lw_G, w.before _ s = true := fun w h => hts0 w (List.mem_cons_of_mem _ h)
  have hown : s.vm.findClass RJ0 = some m.cls := findClass_of_methodNamed B.named
  have hlocks := B.notSynchronized
  subst hsz
  have hD := hD0.self (sz := s.heap.size)
  generalize hAe : va_A [] s.heap.size = A at hD hE ⊢
  have hA : ∀ q : Nat, s.heap.size ≤ q → A q := fun q h => by rw [← hAe]; exact Or.inr h
  have hS : va_S A s.heap s.heap [] := va_S.rf
  have hP : va_P (dC, dI) vwCl [] s.heap := hP
  have hl := lv_entry ([.ref (adK 0), .int 112]) (n := 2) (Nat.le_of_ble_eq_true rfl)
  rw [lg_entry_eq]
  generalize (lg_sl ([.ref (adK 0), .int 112]) ++ List.replicate (2 - (lg_sl ([.ref (adK 0), .int 112])).length) Slot.unset).toArray = ls at hl ⊢
  have hl : lv_has ls 2 [(0, .ref (adK 0)), (1, .int 112)] := hl
  refine lv_aload_n hx hb dJ0_charAt_5068e_0 rfl (lv_at hl 0 rfl) ?_
  have hPc := hP.sub (ws' := []) [] rfl
  have hDc := hD.sub (ws' := []) [] (by decide) rfl
  have hKc := hK.sub (tys' := []) [] rfl
  have hFc := va_free (wc := []) hD hS hA [] rfl
  refine va_calli (va_runV (As := []) (rest := []) ⟨hx, hb, hml, hown, hG⟩ (cJ0_isLatin1_aae02_1 l dC dI adK adV s.heap.size) (cwV 0 hG (gV wd_249 wd_250 wd_251 wd_12 wd_252) rfl rfl rfl (by decide +kernel) ⟨Nat.le_of_ble_eq_true rfl, Nat.le_of_ble_eq_true rfl⟩) ⟨fun a U g mk q => by obtain ⟨q0, q1, qP, qK, qD, qE⟩ := q; exact ⟨q0, q1, qP, va_K.moved (u := U) (U := U.calling g mk a) (Vm.Alike.refl U.vm) qK, qD, qE.same rfl⟩, vk_recv hE.1 (i := 0) (by decide) hS, fun U hU hW => ⟨rfl, by rw [hU], by rw [hU]; exact hPc, va_K.moved hW.alike hKc, hDc.weaken (fun _ _ _ _ => trivial), by rw [hU]; exact ((hE.kept hS.2.1).narrow hFc).warm hW⟩⟩ rfl rfl hl.1 rfl (lv_room (Nat.le_of_ble_eq_true rfl)) dJ0_charAt_5068e_1 ⟨by decide, by decide⟩) hS (fun q _ h => hFc q h) hFc (fun r1 u2 t H1 locs ht hvm hw hB hz1 hk1 hS => ?_)
  have hw : r1 = 1 ∧ True := hw
  obtain ⟨er1, -⟩ := hw
  obtain ⟨hP1, hK1, hD1⟩ := hB
  rw [ht] at hP1
  have hK1 := va_K.moved hvm.symm hK1
  obtain ⟨hP, hD⟩ := va_join (wr := []) (w1 := []) hP hD [] [] rfl rfl (by decide) (by decide) hk1 hFc hP1 hD1
  have hK := (hK.sub (tys' := []) [] rfl).app hK1
  generalize H1 = H at hP hS ⊢
  have hP : va_P (dC, dI) vwCl [] H := hP
  have hD : va_D A [] := hD
  have hK : va_K (dC, dI) vwCl [] s := hK
  subst er1
  refine lv_if_eq (tgt := 16) hx hb dJ0_charAt_5068e_4 (by decide) (fun c => absurd c (by decide)) (fun _ => ?_)
  refine lv_aload_n hx hb dJ0_charAt_5068e_7 rfl (lv_at hl 0 rfl) ?_
  refine vk_getf hx hb (hE.1.1 0 (by decide)).2.2.1 hS hown (hG _ wd_1893) (fun _ h9 => h9) dJ0_charAt_5068e_8 ?_
  refine lv_iload_n hx hb dJ0_charAt_5068e_11 rfl (lv_at hl 1 rfl) ?_
  have hPc := hP.sub (ws' := []) [] rfl
  have hDc := hD.sub (ws' := []) [] (by decide) rfl
  have hKc := hK.sub (tys' := []) [] rfl
  have hFc := va_free (wc := []) hD hS hA [] rfl
  refine va_calli (va_runS (As := [.ref (adV 0), .int 112]) (rest := []) ⟨hx, hb, hml, hown, hG⟩ (cJ1_charAt_3b067_2 l dC dI adK adV H.size) (va_cwS 2 hG (gS wd_253 wd_254 wd_13 wd_255) rfl rfl rfl (by decide +kernel) ⟨Nat.le_of_ble_eq_true rfl, Nat.le_of_ble_eq_true rfl⟩) ⟨fun a U g mk q => by obtain ⟨q0, q1, qP, qK, qD, qE⟩ := q; exact ⟨q0, q1, qP, va_K.moved (u := U) (U := U.calling g mk a) (Vm.Alike.refl U.vm) qK, qD, qE.same rfl⟩, fun U hU hW => ⟨rfl, by rw [hU], by rw [hU]; exact hPc, va_K.moved hW.alike hKc, hDc.weaken (fun _ _ _ _ => trivial), by rw [hU]; exact ((hE.kept hS.2.1).narrow hFc).warm hW⟩⟩ rfl rfl hl.1 rfl (lv_room (Nat.le_of_ble_eq_true rfl)) dJ0_charAt_5068e_12 ⟨by decide, by decide⟩) hS (fun q _ h => hFc q h) hFc (fun r3 u4 t H1 locs ht hvm hw hB hz1 hk1 hS => ?_)
  have hw : r3 = 119 ∧ True := hw
  obtain ⟨er3, -⟩ := hw
  obtain ⟨hP1, hK1, hD1⟩ := hB
  rw [ht] at hP1
  have hK1 := va_K.moved hvm.symm hK1
  obtain ⟨hP, hD⟩ := va_join (wr := []) (w1 := []) hP hD [] [] rfl rfl (by decide) (by decide) hk1 hFc hP1 hD1
  have hK := (hK.sub (tys' := []) [] rfl).app hK1
  generalize H1 = H at hP hS ⊢
  have hP : va_P (dC, dI) vwCl [] H := hP
  have hD : va_D A [] := hD
  have hK : va_K (dC, dI) vwCl [] s := hK
  subst er3
  have hP9 := hP.sub (ws' := []) [] rfl
  have hD9 := hD.sub (ws' := []) [] (by decide) rfl
  have hK9 := hK.sub (tys' := []) [] rfl
  exact W.zret (v := 119) hx hb hr rfl (fun t ht hW => ⟨⟨119, (), rfl, ⟨rfl, trivial⟩, by rw [ht]; exact hP9, va_K.moved hW.alike hK9, hD9⟩, hS.F ht⟩) hS.2.2 dJ0_charAt_5068e_15
set_option maxHeartbeats 4000000 in
set_option maxRecDepth 100000 in
theorem cX10_nameSign_5 (l : Launch) (dC : Nat → ClassId) (dI : Nat → Nat → Nat) (adK adV : Nat → Nat) (sz : Nat) : Met l yX10_nameSign (Cond.code yX10_nameSign cX10_nameSign 3 (some .int) :: lw_G) ({ frames := 4, cells := 0, slots := 0, locals := 85 }) (va_Pc [.int 28, .int 0] (fun U => U.heap.size = sz ∧ va_P (dC, dI) vwCl [] U.heap ∧ va_K (dC, dI) vwCl [] U ∧ va_D (fun _ => True) [] ∧ ev adK adV (va_A [] sz) U U.heap)) (va_Qi (fun (r : Int32) (u : Unit) => r = 119 ∧ True) (fun (u : Unit) (t : State) => va_P (dC, dI) vwCl [] t.heap ∧ va_K (dC, dI) vwCl [] t ∧ va_D (va_A [] sz) []) (va_A [] sz)) 0 0 (va_A [] sz) := by
  refine Met.ofW (cc := cX10_nameSign) (maxL := 3) (ret := (some .int)) (by decide) rfl ?_
  intro p e s m args below meth c s₁ B hml hv
  obtain ⟨rfl, hsz, hP, hK, hD0, hE⟩ := hv
  have hx := B.exec
  have hb := B.bytes
  have hr := B.returns
  have hts0 := atoms_spec (ws := Cond.code yX10_nameSign cX10_nameSign 3 (some .int) :: lw_G) B.pre
  have hG : ∀ w ∈ lw_G, w.before _ s = true := fun w h => hts0 w (List.mem_cons_of_mem _ h)
  have hown : s.vm.findClass RX10 = some m.cls := findClass_of_methodNamed B.named
  have hlocks := B.notSynchronized
  subst hsz
  have hD := hD0.self (sz := s.heap.size)
  generalize hAe : va_A [] s.heap.size = A at hD hE ⊢
  have hA : ∀ q : Nat, s.heap.size ≤ q → A q := fun q h => by rw [← hAe]; exact Or.inr h
  have hS : va_S A s.heap s.heap [] := va_S.rf
  have hP : va_P (dC, dI) vwCl [] s.heap := hP
  have hl := lv_entry ([.int 28, .int 0]) (n := 3) (Nat.le_of_ble_eq_true rfl)
  rw [lg_entry_eq]
  generalize (lg_sl ([.int 28, .int 0]) ++ List.replicate (3 - (lg_sl ([.int 28, .int 0])).length) Slot.unset).toArray = ls at hl ⊢
  have hl : lv_has ls 3 [(0, .int 28), (1, .int 0)] := hl
  refine lv_iload_n hx hb dX10_nameSign_0 rfl (lv_at hl 0 rfl) ?_
  refine lv_iconst (v := 4) hx hb dX10_nameSign_1 (by decide) ?_
  refine lv_imul hx hb dX10_nameSign_2 ?_
  refine lv_val (y := 112) (by decide +kernel) ?_
  refine lv_iload_n hx hb dX10_nameSign_3 rfl (lv_at hl 1 rfl) ?_
  refine lv_iadd hx hb dX10_nameSign_4 ?_
  refine lv_val (y := 112) (by decide +kernel) ?_
  refine lv_istore_n (lv' := [(2, .int 112), (0, .int 28), (1, .int 0)]) hx hb dX10_nameSign_5 rfl hl (by decide) rfl (fun ls hl => ?_)
  refine lv_iload_n hx hb dX10_nameSign_6 rfl (lv_at hl 2 rfl) ?_
  refine lv_iconst (v := 4) hx hb dX10_nameSign_7 (by decide) ?_
  refine lv_icmp_ge (tgt := 33) hx hb dX10_nameSign_8 (by decide) (fun c => absurd c (by decide)) (fun _ => ?_)
  refine lv_iload_n hx hb dX10_nameSign_11 rfl (lv_at hl 0 rfl) ?_
  refine lv_if_lt (tgt := 33) hx hb dX10_nameSign_12 (by decide) (fun c => absurd c (by decide)) (fun _ => ?_)
  refine lv_iload_n hx hb dX10_nameSign_15 rfl (lv_at hl 0 rfl) ?_
  refine va_ldcS (q := adK 0) hx hb hown (evR0 hE) dX10_nameSign_16 ?_
  have hPc := hP.sub (ws' := []) [] rfl
  have hDc := hD.sub (ws' := []) [] (by decide) rfl
  have hKc := hK.sub (tys' := []) [] rfl
  have hFc := va_free (wc := []) hD hS hA [] rfl
  refine va_calli (va_runV (As := []) (rest := [.int 112]) ⟨hx, hb, hml, hown, hG⟩ (cJ0_length_8abf5_1 l dC dI adK adV s.heap.size) (cwV 0 hG (gV wd_235 wd_236 wd_237 wd_12 wd_238) rfl rfl rfl (by decide +kernel) ⟨Nat.le_of_ble_eq_true rfl, Nat.le_of_ble_eq_true rfl⟩) ⟨fun a U g mk q => by obtain ⟨q0, q1, qP, qK, qD, qE⟩ := q; exact ⟨q0, q1, qP, va_K.moved (u := U) (U := U.calling g mk a) (Vm.Alike.refl U.vm) qK, qD, qE.same rfl⟩, vk_recv hE.1 (i := 0) (by decide) hS, fun U hU hW => ⟨rfl, by rw [hU], by rw [hU]; exact hPc, va_K.moved hW.alike hKc, hDc.weaken (fun _ _ _ _ => trivial), by rw [hU]; exact ((hE.kept hS.2.1).narrow hFc).warm hW⟩⟩ rfl rfl hl.1 rfl (lv_room (Nat.le_of_ble_eq_true rfl)) dX10_nameSign_18 ⟨by decide, by decide⟩) hS (fun q _ h => hFc q h) hFc (fun r1 u2 t H1 locs ht hvm hw hB hz1 hk1 hS => ?_)
  have hw : r1 = 140 ∧ True := hw
  obtain ⟨er1, -⟩ := hw
  obtain ⟨hP1, hK1, hD1⟩ := hB
  rw [ht] at hP1
  have hK1 := va_K.moved hvm.symm hK1
  obtain ⟨hP, hD⟩ := va_join (wr := []) (w1 := []) hP hD [] [] rfl rfl (by decide) (by decide) hk1 hFc hP1 hD1
  have hK := (hK.sub (tys' := []) [] rfl).app hK1
  generalize H1 = H at hP hS ⊢
  have hP : va_P (dC, dI) vwCl [] H := hP
  have hD : va_D A [] := hD
  have hK : va_K (dC, dI) vwCl [] s := hK
  subst er1
  refine lv_icmp_ge (tgt := 33) hx hb dX10_nameSign_21 (by decide) (fun c => absurd c (by decide)) (fun _ => ?_)
  refine va_ldcS (q := adK 0) hx hb hown (evR0 hE) dX10_nameSign_24 ?_
  refine lv_iload_n hx hb dX10_nameSign_26 rfl (lv_at hl 0 rfl) ?_
  have hPc := hP.sub (ws' := []) [] rfl
  have hDc := hD.sub (ws' := []) [] (by decide) rfl
  have hKc := hK.sub (tys' := []) [] rfl
  have hFc := va_free (wc := []) hD hS hA [] rfl
  refine va_calli (va_runV (As := [.int 112]) (rest := []) ⟨hx, hb, hml, hown, hG⟩ (cJ0_charAt_5068e_2 l dC dI adK adV H.size) (cwV 1 hG (gV wd_245 wd_246 wd_247 wd_12 wd_248) rfl rfl rfl (by decide +kernel) ⟨Nat.le_of_ble_eq_true rfl, Nat.le_of_ble_eq_true rfl⟩) ⟨fun a U g mk q => by obtain ⟨q0, q1, qP, qK, qD, qE⟩ := q; exact ⟨q0, q1, qP, va_K.moved (u := U) (U := U.calling g mk a) (Vm.Alike.refl U.vm) qK, qD, qE.same rfl⟩, vk_recv hE.1 (i := 0) (by decide) hS, fun U hU hW => ⟨rfl, by rw [hU], by rw [hU]; exact hPc, va_K.moved hW.alike hKc, hDc.weaken (fun _ _ _ _ => trivial), by rw [hU]; exact ((hE.kept hS.2.1).narrow hFc).warm hW⟩⟩ rfl rfl hl.1 rfl (lv_room (Nat.le_of_ble_eq_true rfl)) dX10_nameSign_27 ⟨by decide, by decide⟩) hS (fun q _ h => hFc q h) hFc (fun r3 u4 t H1 locs ht hvm hw hB hz1 hk1 hS => ?_)
  have hw : r3 = 119 ∧ True := hw
  obtain ⟨er3, -⟩ := hw
  obtain ⟨hP1, hK1, hD1⟩ := hB
  rw [ht] at hP1
  have hK1 := va_K.moved hvm.symm hK1
  obtain ⟨hP, hD⟩ := va_join (wr := []) (w1 := []) hP hD [] [] rfl rfl (by decide) (by decide) hk1 hFc hP1 hD1
  have hK := (hK.sub (tys' := []) [] rfl).app hK1
  generalize H1 = H at hP hS ⊢
  have hP : va_P (dC, dI) vwCl [] H := hP
  have hD : va_D A [] := hD
  have hK : va_K (dC, dI) vwCl [] s := hK
  subst er3
  refine lv_goto (tgt := 35) hx hb dX10_nameSign_30 (by decide) ?_
  have hP9 := hP.sub (ws' := []) [] rfl
  have hD9 := hD.sub (ws' := []) [] (by decide) rfl
  have hK9 := hK.sub (tys' := []) [] rfl
  exact W.iret (v := 119) hx hb hr (fun t ht hW => ⟨⟨119, (), rfl, ⟨rfl, trivial⟩, by rw [ht]; exact hP9, va_K.moved hW.alike hK9, hD9⟩, hS.F ht⟩) hS.2.2 dX10_nameSign_35
set_option maxHeartbeats 4000000 in
set_option maxRecDepth 100000 in
theorem cX8_put_1 (l : Launch) (dC : Nat → ClassId) (dI : Nat → Nat → Nat) (h0 h1 h2 : Nat) (y0 : ClassId) (sz : Nat) (x0 x1 : Int32) (ix0 : iv x0 0 65535) (ix1 : iv x1 2 65536) : Met l yX8_put (Cond.code yX8_put cX8_put 2 none :: lw_G) ({ frames := 0, cells := 0, slots := 0, locals := 0 }) (va_Pc [.ref h0, .int 119] (fun U => U.heap.size = sz ∧ va_P (dC, dI) vwCl [(h0, .inr (8, [.ref h1, .ref h2, .int 0, .int x0, .int x1])), (h1, .inl (y0, 64, .inl (fun _ => 0)))] U.heap ∧ va_K (dC, dI) vwCl [(y0, .int)] U ∧ va_D (fun _ => True) [(h0, .inr (8, [.ref h1, .ref h2, .int 0, .int x0, .int x1])), (h1, .inl (y0, 64, .inl (fun _ => 0)))])) (va_Qv (fun (u : (Nat → Int32)) => (∀ j, iv (u j) 0 119) ∧ u 0 = 119 ∧ True) (fun (u : (Nat → Int32)) (t : State) => va_P (dC, dI) vwCl [(h0, .inr (8, [.ref h1, .ref h2, .int 1, .int x0, .int x1])), (h1, .inl (y0, 64, .inl u))] t.heap ∧ va_K (dC, dI) vwCl [(y0, .int)] t ∧ va_D (va_A [(h0, .inr (8, [.ref h1, .ref h2, .int 0, .int x0, .int x1])), (h1, .inl (y0, 64, .inl (fun _ => 0)))] sz) [(h0, .inr (8, [.ref h1, .ref h2, .int 1, .int x0, .int x1])), (h1, .inl (y0, 64, .inl u))]) (va_A [(h0, .inr (8, [.ref h1, .ref h2, .int 0, .int x0, .int x1])), (h1, .inl (y0, 64, .inl (fun _ => 0)))] sz)) 0 0 (va_A [(h0, .inr (8, [.ref h1, .ref h2, .int 0, .int x0, .int x1])), (h1, .inl (y0, 64, .inl (fun _ => 0)))] sz) := by
  refine Met.ofW (cc := cX8_put) (maxL := 2) (ret := none) (by decide) rfl ?_
  intro p e s m args below meth c s₁ B hml hv
  obtain ⟨rfl, hsz, hP, hK, hD0⟩ := hv
  have hx := B.exec
  have hb := B.bytes
  have hr := B.returns
  have hts0 := atoms_spec (ws := Cond.code yX8_put cX8_put 2 none :: lw_G) B.pre
  have hG : ∀ w ∈ lw_G, w.before _ s = true := fun w h => hts0 w (List.mem_cons_of_mem _ h)
  have hown : s.vm.findClass RX8 = some m.cls := findClass_of_methodNamed B.named
  have hlocks := B.notSynchronized
  subst hsz
  have hD := hD0.self (sz := s.heap.size)
  generalize hAe : va_A [(h0, .inr (8, [.ref h1, .ref h2, .int 0, .int x0, .int x1])), (h1, .inl (y0, 64, .inl (fun _ => 0)))] s.heap.size = A at hD ⊢
  have hA : ∀ q : Nat, s.heap.size ≤ q → A q := fun q h => by rw [← hAe]; exact Or.inr h
  have hS : va_S A s.heap s.heap [] := va_S.rf
  have hP : va_P (dC, dI) vwCl [(h0, .inr (8, [.ref h1, .ref h2, .int 0, .int x0, .int x1])), (h1, .inl (y0, 64, .inl (fun _ => 0)))] s.heap := hP
  have hl := lv_entry ([.ref h0, .int 119]) (n := 2) (Nat.le_of_ble_eq_true rfl)
  rw [lg_entry_eq]
  generalize (lg_sl ([.ref h0, .int 119]) ++ List.replicate (2 - (lg_sl ([.ref h0, .int 119])).length) Slot.unset).toArray = ls at hl ⊢
  have hl : lv_has ls 2 [(0, .ref h0), (1, .int 119)] := hl
  refine lv_aload_n hx hb dX8_put_0 rfl (lv_at hl 0 rfl) ?_
  refine va_get (D := (dC, dI)) (ci := 8) (v := .int 0) (C := RX8) (T := TX8) (N := 5) hx hb hG inGX8 hown hK hP 0 rfl rfl 2 (by decide) (hG _ wd_381) (fun _ h9 => h9) rfl dX8_put_1 ?_
  refine lv_bipush (v := 64) hx hb dX8_put_4 (by decide) ?_
  refine lv_icmp_ge (tgt := 29) hx hb dX8_put_6 (by decide) (fun c => absurd c (by decide)) (fun _ => ?_)
  refine lv_aload_n hx hb dX8_put_9 rfl (lv_at hl 0 rfl) ?_
  refine va_get (D := (dC, dI)) (ci := 8) (v := .ref h1) (C := RX8) (T := TX8) (N := 5) hx hb hG inGX8 hown hK hP 0 rfl rfl 0 (by decide) (hG _ wd_379) (fun _ h9 => h9) rfl dX8_put_10 ?_
  refine lv_aload_n hx hb dX8_put_13 rfl (lv_at hl 0 rfl) ?_
  refine va_get (D := (dC, dI)) (ci := 8) (v := .int 0) (C := RX8) (T := TX8) (N := 5) hx hb hG inGX8 hown hK hP 0 rfl rfl 2 (by decide) (hG _ wd_381) (fun _ h9 => h9) rfl dX8_put_14 ?_
  refine lv_iload_n hx hb dX8_put_17 rfl (lv_at hl 1 rfl) ?_
  refine va_iast hx hb hK hP hD hS 1 0 rfl rfl (iv_in (by decide : iv 0 0 0) (by decide) (by decide) : vp_in 0 64) dX8_put_18 (fun H locs hP hD hS => ?_)
  have hP : va_P (dC, dI) vwCl [(h0, .inr (8, [.ref h1, .ref h2, .int 0, .int x0, .int x1])), (h1, .inl (y0, 64, .inl (upd (fun _ => 0) (0 : Int32).toNatClampNeg 119)))] H := hP
  have hD : va_D A [(h0, .inr (8, [.ref h1, .ref h2, .int 0, .int x0, .int x1])), (h1, .inl (y0, 64, .inl (upd (fun _ => 0) (0 : Int32).toNatClampNeg 119)))] := hD
  obtain ⟨f1, ef1⟩ : ∃ z, z = upd (fun _ => 0) (0 : Int32).toNatClampNeg 119 := ⟨_, rfl⟩
  rw [← ef1] at hP hD
  have if1 : ∀ j, iv (f1 j) 0 119 := by rw [ef1]; exact iv_upd (fun _ => (by decide : iv 0 0 0)) (by decide : iv 119 119 119) (by decide) (by decide) (by decide) (by decide)
  refine lv_aload_n hx hb dX8_put_19 rfl (lv_at hl 0 rfl) ?_
  refine lv_dup hx hb dX8_put_20 rfl ?_
  refine va_get (D := (dC, dI)) (ci := 8) (v := .int 0) (C := RX8) (T := TX8) (N := 5) hx hb hG inGX8 hown hK hP 0 rfl rfl 2 (by decide) (hG _ wd_381) (fun _ h9 => h9) rfl dX8_put_21 ?_
  refine lv_iconst (v := 1) hx hb dX8_put_24 (by decide) ?_
  refine lv_iadd hx hb dX8_put_25 ?_
  refine lv_val (y := 1) (by decide +kernel) ?_
  refine va_put (D := (dC, dI)) (ci := 8) (v := .int 1) (ty := .int) (C := RX8) (T := TX8) (N := 5) hx hb hG inGX8 tyX8 tyX8_ok nmX8 hown hK hP hD hS 0 rfl rfl 2 (by decide) (hG _ wd_381) (fun _ h9 => h9) rfl (by decide +kernel) rfl rfl (Nat.le_of_ble_eq_true rfl) dX8_put_26 (fun H locs hP hD hS => ?_)
  have hP : va_P (dC, dI) vwCl [(h0, .inr (8, [.ref h1, .ref h2, .int 1, .int x0, .int x1])), (h1, .inl (y0, 64, .inl f1))] H := hP
  have hD : va_D A [(h0, .inr (8, [.ref h1, .ref h2, .int 1, .int x0, .int x1])), (h1, .inl (y0, 64, .inl f1))] := hD
  have hP9 := hP.sub (ws' := [(h0, .inr (8, [.ref h1, .ref h2, .int 1, .int x0, .int x1])), (h1, .inl (y0, 64, .inl f1))]) [0, 1] rfl
  have hD9 := hD.sub (ws' := [(h0, .inr (8, [.ref h1, .ref h2, .int 1, .int x0, .int x1])), (h1, .inl (y0, 64, .inl f1))]) [0, 1] (by decide) rfl
  have hK9 := hK.sub (tys' := [(y0, .int)]) [0] rfl
  exact W.vret hx hb hr (fun t ht hW => ⟨⟨f1, rfl, ⟨(fun j => iv_w (if1 j) (by decide) (by decide)), (ku ef1 (by decide)), trivial⟩, by rw [ht]; exact hP9, va_K.moved hW.alike hK9, hD9⟩, hS.F ht⟩) hS.2.2 dX8_put_29
set_option maxHeartbeats 4000000 in
set_option maxRecDepth 100000 in
theorem cJ3_checkIndex_8e157_5 (l : Launch) (dC : Nat → ClassId) (dI : Nat → Nat → Nat) (sz : Nat) : Met l yJ3_checkIndex_8e157 (Cond.code yJ3_checkIndex_8e157 cJ3_checkIndex_8e157 3 (some .int) :: lw_G) ({ frames := 0, cells := 0, slots := 0, locals := 0 }) (va_Pc [.int 113, .int 140, .null] (fun U => U.heap.size = sz ∧ va_P (dC, dI) vwCl [] U.heap ∧ va_K (dC, dI) vwCl [] U ∧ va_D (fun _ => True) [])) (va_Qi (fun (r : Int32) (u : Unit) => r = 113 ∧ True) (fun (u : Unit) (t : State) => va_P (dC, dI) vwCl [] t.heap ∧ va_K (dC, dI) vwCl [] t ∧ va_D (va_A [] sz) []) (va_A [] sz)) 0 0 (va_A [] sz) := by
  refine Met.ofW (cc := cJ3_checkIndex_8e157) (maxL := 3) (ret := (some .int)) (by decide) rfl ?_
  intro p e s m args below meth c s₁ B hml hv
  obtain ⟨rfl, hsz, hP, hK, hD0⟩ := hv
  have hx := B.exec
  have hb := B.bytes
  have hr := B.returns
  have hts0 := atoms_spec (ws := Cond.code yJ3_checkIndex_8e157 cJ3_checkIndex_8e157 3 (some .int) :: lw_G) B.pre
  have hG : ∀ w ∈ lw_G, w.before _ s = true := fun w h => hts0 w (List.mem_cons_of_mem _ h)
  have hown : s.vm.findClass RJ3 = some m.cls := findClass_of_methodNamed B.named
  have hlocks := B.notSynchronized
  subst hsz
  have hD := hD0.self (sz := s.heap.size)
  generalize hAe : va_A [] s.heap.size = A at hD ⊢
  have hA : ∀ q : Nat, s.heap.size ≤ q → A q := fun q h => by rw [← hAe]; exact Or.inr h
  have hS : va_S A s.heap s.heap [] := va_S.rf
  have hP : va_P (dC, dI) vwCl [] s.heap := hP
  have hl := lv_entry ([.int 113, .int 140, .null]) (n := 3) (Nat.le_of_ble_eq_true rfl)
  rw [lg_entry_eq]
  generalize (lg_sl ([.int 113, .int 140, .null]) ++ List.replicate (3 - (lg_sl ([.int 113, .int 140, .null])).length) Slot.unset).toArray = ls at hl ⊢
  have hl : lv_has ls 3 [(0, .int 113), (1, .int 140), (2, .null)] := hl
  refine lv_iload_n hx hb dJ3_checkIndex_8e157_0 rfl (lv_at hl 0 rfl) ?_
  refine lv_if_lt (tgt := 9) hx hb dJ3_checkIndex_8e157_1 (by decide) (fun c => absurd c (by decide)) (fun _ => ?_)
  refine lv_iload_n hx hb dJ3_checkIndex_8e157_4 rfl (lv_at hl 0 rfl) ?_
  refine lv_iload_n hx hb dJ3_checkIndex_8e157_5 rfl (lv_at hl 1 rfl) ?_
  refine lv_icmp_lt (tgt := 16) hx hb dJ3_checkIndex_8e157_6 (by decide) (fun _ => ?_) (fun c => absurd (by decide) c)
  refine lv_iload_n hx hb dJ3_checkIndex_8e157_16 rfl (lv_at hl 0 rfl) ?_
  have hP9 := hP.sub (ws' := []) [] rfl
  have hD9 := hD.sub (ws' := []) [] (by decide) rfl
  have hK9 := hK.sub (tys' := []) [] rfl
  exact W.iret (v := 113) hx hb hr (fun t ht hW => ⟨⟨113, (), rfl, ⟨rfl, trivial⟩, by rw [ht]; exact hP9, va_K.moved hW.alike hK9, hD9⟩, hS.F ht⟩) hS.2.2 dJ3_checkIndex_8e157_17
set_option maxHeartbeats 4000000 in
set_option maxRecDepth 100000 in
theorem cJ3_checkIndex_8e157_6 (l : Launch) (dC : Nat → ClassId) (dI : Nat → Nat → Nat) (h0 : Nat) (sz : Nat) : Met l yJ3_checkIndex_8e157 (Cond.code yJ3_checkIndex_8e157 cJ3_checkIndex_8e157 3 (some .int) :: lw_G) ({ frames := 0, cells := 0, slots := 0, locals := 0 }) (va_Pc [.int 113, .int 140, .ref h0] (fun U => U.heap.size = sz ∧ va_P (dC, dI) vwCl [] U.heap ∧ va_K (dC, dI) vwCl [] U ∧ va_D (fun _ => True) [])) (va_Qi (fun (r : Int32) (u : Unit) => r = 113 ∧ True) (fun (u : Unit) (t : State) => va_P (dC, dI) vwCl [] t.heap ∧ va_K (dC, dI) vwCl [] t ∧ va_D (va_A [] sz) []) (va_A [] sz)) 0 0 (va_A [] sz) := by
  refine Met.ofW (cc := cJ3_checkIndex_8e157) (maxL := 3) (ret := (some .int)) (by decide) rfl ?_
  intro p e s m args below meth c s₁ B hml hv
  obtain ⟨rfl, hsz, hP, hK, hD0⟩ := hv
  have hx := B.exec
  have hb := B.bytes
  have hr := B.returns
  have hts0 := atoms_spec (ws := Cond.code yJ3_checkIndex_8e157 cJ3_checkIndex_8e157 3 (some .int) :: lw_G) B.pre
  have hG : ∀ w ∈ lw_G, w.before _ s = true := fun w h => hts0 w (List.mem_cons_of_mem _ h)
  have hown : s.vm.findClass RJ3 = some m.cls := findClass_of_methodNamed B.named
  have hlocks := B.notSynchronized
  subst hsz
  have hD := hD0.self (sz := s.heap.size)
  generalize hAe : va_A [] s.heap.size = A at hD ⊢
  have hA : ∀ q : Nat, s.heap.size ≤ q → A q := fun q h => by rw [← hAe]; exact Or.inr h
  have hS : va_S A s.heap s.heap [] := va_S.rf
  have hP : va_P (dC, dI) vwCl [] s.heap := hP
  have hl := lv_entry ([.int 113, .int 140, .ref h0]) (n := 3) (Nat.le_of_ble_eq_true rfl)
  rw [lg_entry_eq]
  generalize (lg_sl ([.int 113, .int 140, .ref h0]) ++ List.replicate (3 - (lg_sl ([.int 113, .int 140, .ref h0])).length) Slot.unset).toArray = ls at hl ⊢
  have hl : lv_has ls 3 [(0, .int 113), (1, .int 140), (2, .ref h0)] := hl
  refine lv_iload_n hx hb dJ3_checkIndex_8e157_0 rfl (lv_at hl 0 rfl) ?_
  refine lv_if_lt (tgt := 9) hx hb dJ3_checkIndex_8e157_1 (by decide) (fun c => absurd c (by decide)) (fun _ => ?_)
  refine lv_iload_n hx hb dJ3_checkIndex_8e157_4 rfl (lv_at hl 0 rfl) ?_
  refine lv_iload_n hx hb dJ3_checkIndex_8e157_5 rfl (lv_at hl 1 rfl) ?_
  refine lv_icmp_lt (tgt := 16) hx hb dJ3_checkIndex_8e157_6 (by decide) (fun _ => ?_) (fun c => absurd (by decide) c)
  refine lv_iload_n hx hb dJ3_checkIndex_8e157_16 rfl (lv_at hl 0 rfl) ?_
  have hP9 := hP.sub (ws' := []) [] rfl
  have hD9 := hD.sub (ws' := []) [] (by decide) rfl
  have hK9 := hK.sub (tys' := []) [] rfl
  exact W.iret (v := 113) hx hb hr (fun t ht hW => ⟨⟨113, (), rfl, ⟨rfl, trivial⟩, by rw [ht]; exact hP9, va_K.moved hW.alike hK9, hD9⟩, hS.F ht⟩) hS.2.2 dJ3_checkIndex_8e157_17
set_option maxHeartbeats 4000000 in
set_option maxRecDepth 100000 in
theorem cJ0_checkIndex_df160_3 (l : Launch) (dC : Nat → ClassId) (dI : Nat → Nat → Nat) (adK adV : Nat → Nat) (sz : Nat) : Met l yJ0_checkIndex_df160 (Cond.code yJ0_checkIndex_df160 cJ0_checkIndex_df160 2 none :: lw_G) ({ frames := 1, cells := 0, slots := 0, locals := 22 }) (va_Pc [.int 113, .int 140] (fun U => U.heap.size = sz ∧ va_P (dC, dI) vwCl [] U.heap ∧ va_K (dC, dI) vwCl [] U ∧ va_D (fun _ => True) [] ∧ ev adK adV (va_A [] sz) U U.heap)) (va_Qv (fun (u : Unit) => True) (fun (u : Unit) (t : State) => va_P (dC, dI) vwCl [] t.heap ∧ va_K (dC, dI) vwCl [] t ∧ va_D (va_A [] sz) []) (va_A [] sz)) 0 0 (va_A [] sz) := by
  refine Met.ofW (cc := cJ0_checkIndex_df160) (maxL := 2) (ret := none) (by decide) rfl ?_
  intro p e s m args below meth c s₁ B hml hv
  obtain ⟨rfl, hsz, hP, hK, hD0, hE⟩ := hv
  have hx := B.exec
  have hb := B.bytes
  have hr := B.returns
  have hts0 := atoms_spec (ws := Cond.code yJ0_checkIndex_df160 cJ0_checkIndex_df160 2 none :: lw_G) B.pre
  have hG : ∀ w ∈ lw_G, w.before _ s = true := fun w h => hts0 w (List.mem_cons_of_mem _ h)
  have hown : s.vm.findClass RJ0 = some m.cls := findClass_of_methodNamed B.named
  have hlocks := B.notSynchronized
  subst hsz
  have hD := hD0.self (sz := s.heap.size)
  generalize hAe : va_A [] s.heap.size = A at hD hE ⊢
  have hA : ∀ q : Nat, s.heap.size ≤ q → A q := fun q h => by rw [← hAe]; exact Or.inr h
  have hS : va_S A s.heap s.heap [] := va_S.rf
  have hP : va_P (dC, dI) vwCl [] s.heap := hP
  have hl := lv_entry ([.int 113, .int 140]) (n := 2) (Nat.le_of_ble_eq_true rfl)
  rw [lg_entry_eq]
  generalize (lg_sl ([.int 113, .int 140]) ++ List.replicate (2 - (lg_sl ([.int 113, .int 140])).length) Slot.unset).toArray = ls at hl ⊢
  have hl : lv_has ls 2 [(0, .int 113), (1, .int 140)] := hl
  refine lv_iload_n hx hb dJ0_checkIndex_df160_0 rfl (lv_at hl 0 rfl) ?_
  refine lv_iload_n hx hb dJ0_checkIndex_df160_1 rfl (lv_at hl 1 rfl) ?_
  rcases hE.2.2.1 with hZ | ⟨t1, hZ⟩
  · skip
    refine va_gets hx hb hZ hS hown (hG _ wd_259) (fun _ h9 => h9) dJ0_checkIndex_df160_2 ?_
    have hPc := hP.sub (ws' := []) [] rfl
    have hDc := hD.sub (ws' := []) [] (by decide) rfl
    have hKc := hK.sub (tys' := []) [] rfl
    have hFc := va_free (wc := []) hD hS hA [] rfl
    refine va_calli (va_runS (As := [.int 113, .int 140, .null]) (rest := []) ⟨hx, hb, hml, hown, hG⟩ (cJ3_checkIndex_8e157_5 l dC dI s.heap.size) (va_cwS 3 hG (gS wd_261 wd_262 wd_14 wd_263) rfl rfl rfl (by decide +kernel) ⟨Nat.le_of_ble_eq_true rfl, Nat.le_of_ble_eq_true rfl⟩) ⟨fun a U g mk q => by obtain ⟨q0, q1, qP, qK, qD⟩ := q; exact ⟨q0, q1, qP, va_K.moved (u := U) (U := U.calling g mk a) (Vm.Alike.refl U.vm) qK, qD⟩, fun U hU hW => ⟨rfl, by rw [hU], by rw [hU]; exact hPc, va_K.moved hW.alike hKc, hDc.weaken (fun _ _ _ _ => trivial)⟩⟩ rfl rfl hl.1 rfl (lv_room (Nat.le_of_ble_eq_true rfl)) dJ0_checkIndex_df160_5 ⟨by decide, by decide⟩) hS (fun q _ h => hFc q h) hFc (fun r2 u3 t H1 locs ht hvm hw hB hz1 hk1 hS => ?_)
    have hw : r2 = 113 ∧ True := hw
    obtain ⟨er2, -⟩ := hw
    obtain ⟨hP1, hK1, hD1⟩ := hB
    rw [ht] at hP1
    have hK1 := va_K.moved hvm.symm hK1
    obtain ⟨hP, hD⟩ := va_join (wr := []) (w1 := []) hP hD [] [] rfl rfl (by decide) (by decide) hk1 hFc hP1 hD1
    have hK := (hK.sub (tys' := []) [] rfl).app hK1
    generalize H1 = H at hP hS ⊢
    have hP : va_P (dC, dI) vwCl [] H := hP
    have hD : va_D A [] := hD
    have hK : va_K (dC, dI) vwCl [] s := hK
    subst er2
    refine lv_pop hx hb dJ0_checkIndex_df160_8 rfl ?_
    have hP9 := hP.sub (ws' := []) [] rfl
    have hD9 := hD.sub (ws' := []) [] (by decide) rfl
    have hK9 := hK.sub (tys' := []) [] rfl
    exact W.vret hx hb hr (fun t ht hW => ⟨⟨(), rfl, trivial, by rw [ht]; exact hP9, va_K.moved hW.alike hK9, hD9⟩, hS.F ht⟩) hS.2.2 dJ0_checkIndex_df160_9
  · skip
    refine va_gets hx hb hZ hS hown (hG _ wd_259) (fun _ h9 => h9) dJ0_checkIndex_df160_2 ?_
    have hPc := hP.sub (ws' := []) [] rfl
    have hDc := hD.sub (ws' := []) [] (by decide) rfl
    have hKc := hK.sub (tys' := []) [] rfl
    have hFc := va_free (wc := []) hD hS hA [] rfl
    refine va_calli (va_runS (As := [.int 113, .int 140, .ref t1]) (rest := []) ⟨hx, hb, hml, hown, hG⟩ (cJ3_checkIndex_8e157_6 l dC dI t1 s.heap.size) (va_cwS 3 hG (gS wd_261 wd_262 wd_14 wd_263) rfl rfl rfl (by decide +kernel) ⟨Nat.le_of_ble_eq_true rfl, Nat.le_of_ble_eq_true rfl⟩) ⟨fun a U g mk q => by obtain ⟨q0, q1, qP, qK, qD⟩ := q; exact ⟨q0, q1, qP, va_K.moved (u := U) (U := U.calling g mk a) (Vm.Alike.refl U.vm) qK, qD⟩, fun U hU hW => ⟨rfl, by rw [hU], by rw [hU]; exact hPc, va_K.moved hW.alike hKc, hDc.weaken (fun _ _ _ _ => trivial)⟩⟩ rfl rfl hl.1 rfl (lv_room (Nat.le_of_ble_eq_true rfl)) dJ0_checkIndex_df160_5 ⟨by decide, by decide⟩) hS (fun q _ h => hFc q h) hFc (fun r4 u5 t H1 locs ht hvm hw hB hz1 hk1 hS => ?_)
    have hw : r4 = 113 ∧ True := hw
    obtain ⟨er4, -⟩ := hw
    obtain ⟨hP1, hK1, hD1⟩ := hB
    rw [ht] at hP1
    have hK1 := va_K.moved hvm.symm hK1
    obtain ⟨hP, hD⟩ := va_join (wr := []) (w1 := []) hP hD [] [] rfl rfl (by decide) (by decide) hk1 hFc hP1 hD1
    have hK := (hK.sub (tys' := []) [] rfl).app hK1
    generalize H1 = H at hP hS ⊢
    have hP : va_P (dC, dI) vwCl [] H := hP
    have hD : va_D A [] := hD
    have hK : va_K (dC, dI) vwCl [] s := hK
    subst er4
    refine lv_pop hx hb dJ0_checkIndex_df160_8 rfl ?_
    have hP9 := hP.sub (ws' := []) [] rfl
    have hD9 := hD.sub (ws' := []) [] (by decide) rfl
    have hK9 := hK.sub (tys' := []) [] rfl
    exact W.vret hx hb hr (fun t ht hW => ⟨⟨(), rfl, trivial, by rw [ht]; exact hP9, va_K.moved hW.alike hK9, hD9⟩, hS.F ht⟩) hS.2.2 dJ0_checkIndex_df160_9
set_option maxHeartbeats 4000000 in
set_option maxRecDepth 100000 in
theorem cJ1_charAt_3b067_3 (l : Launch) (dC : Nat → ClassId) (dI : Nat → Nat → Nat) (adK adV : Nat → Nat) (sz : Nat) : Met l yJ1_charAt_3b067 (Cond.code yJ1_charAt_3b067 cJ1_charAt_3b067 2 (some .char) :: lw_G) ({ frames := 2, cells := 0, slots := 0, locals := 43 }) (va_Pc [.ref (adV 0), .int 113] (fun U => U.heap.size = sz ∧ va_P (dC, dI) vwCl [] U.heap ∧ va_K (dC, dI) vwCl [] U ∧ va_D (fun _ => True) [] ∧ ev adK adV (va_A [] sz) U U.heap)) (va_Qi (fun (r : Int32) (u : Unit) => r = 111 ∧ True) (fun (u : Unit) (t : State) => va_P (dC, dI) vwCl [] t.heap ∧ va_K (dC, dI) vwCl [] t ∧ va_D (va_A [] sz) []) (va_A [] sz)) 0 0 (va_A [] sz) := by
  refine Met.ofW (cc := cJ1_charAt_3b067) (maxL := 2) (ret := (some .char)) (by decide) rfl ?_
  intro p e s m args below meth c s₁ B hml hv
  obtain ⟨rfl, hsz, hP, hK, hD0, hE⟩ := hv
  have hx := B.exec
  have hb := B.bytes
  have hr := B.returns
  have hts0 := atoms_spec (ws := Cond.code yJ1_charAt_3b067 cJ1_charAt_3b067 2 (some .char) :: lw_G) B.pre
  have hG : ∀ w ∈ lw_G, w.before _ s = true := fun w h => hts0 w (List.mem_cons_of_mem _ h)
  have hown : s.vm.findClass RJ1 = some m.cls := findClass_of_methodNamed B.named
  have hlocks := B.notSynchronized
  subst hsz
  have hD := hD0.self (sz := s.heap.size)
  generalize hAe : va_A [] s.heap.size = A at hD hE ⊢
  have hA : ∀ q : Nat, s.heap.size ≤ q → A q := fun q h => by rw [← hAe]; exact Or.inr h
  have hS : va_S A s.heap s.heap [] := va_S.rf
  have hP : va_P (dC, dI) vwCl [] s.heap := hP
  have hl := lv_entry ([.ref (adV 0), .int 113]) (n := 2) (Nat.le_of_ble_eq_true rfl)
  rw [lg_entry_eq]
  generalize (lg_sl ([.ref (adV 0), .int 113]) ++ List.replicate (2 - (lg_sl ([.ref (adV 0), .int 113])).length) Slot.unset).toArray = ls at hl ⊢
  have hl : lv_has ls 2 [(0, .ref (adV 0)), (1, .int 113)] := hl
  refine lv_iload_n hx hb dJ1_charAt_3b067_0 rfl (lv_at hl 1 rfl) ?_
  refine lv_aload_n hx hb dJ1_charAt_3b067_1 rfl (lv_at hl 0 rfl) ?_
  refine va_tlen (v := 140) hx hb (hE.1.1 0 (by decide)).2.2.2 hS (by decide) dJ1_charAt_3b067_2 ?_
  have hPc := hP.sub (ws' := []) [] rfl
  have hDc := hD.sub (ws' := []) [] (by decide) rfl
  have hKc := hK.sub (tys' := []) [] rfl
  have hFc := va_free (wc := []) hD hS hA [] rfl
  refine va_callv (va_runS (As := [.int 113, .int 140]) (rest := []) ⟨hx, hb, hml, hown, hG⟩ (cJ0_checkIndex_df160_3 l dC dI adK adV s.heap.size) (va_cwS 2 hG (gS wd_256 wd_257 wd_12 wd_258) rfl rfl rfl (by decide +kernel) ⟨Nat.le_of_ble_eq_true rfl, Nat.le_of_ble_eq_true rfl⟩) ⟨fun a U g mk q => by obtain ⟨q0, q1, qP, qK, qD, qE⟩ := q; exact ⟨q0, q1, qP, va_K.moved (u := U) (U := U.calling g mk a) (Vm.Alike.refl U.vm) qK, qD, qE.same rfl⟩, fun U hU hW => ⟨rfl, by rw [hU], by rw [hU]; exact hPc, va_K.moved hW.alike hKc, hDc.weaken (fun _ _ _ _ => trivial), by rw [hU]; exact ((hE.kept hS.2.1).narrow hFc).warm hW⟩⟩ rfl rfl hl.1 rfl (lv_room (Nat.le_of_ble_eq_true rfl)) dJ1_charAt_3b067_3 ⟨by decide, by decide⟩) hS (fun q _ h => hFc q h) hFc (fun u2 t H1 locs ht hvm hw hB hz1 hk1 hS => ?_)
  obtain ⟨hP1, hK1, hD1⟩ := hB
  rw [ht] at hP1
  have hK1 := va_K.moved hvm.symm hK1
  obtain ⟨hP, hD⟩ := va_join (wr := []) (w1 := []) hP hD [] [] rfl rfl (by decide) (by decide) hk1 hFc hP1 hD1
  have hK := (hK.sub (tys' := []) [] rfl).app hK1
  generalize H1 = H at hP hS ⊢
  have hP : va_P (dC, dI) vwCl [] H := hP
  have hD : va_D A [] := hD
  have hK : va_K (dC, dI) vwCl [] s := hK
  refine lv_aload_n hx hb dJ1_charAt_3b067_6 rfl (lv_at hl 0 rfl) ?_
  refine lv_iload_n hx hb dJ1_charAt_3b067_7 rfl (lv_at hl 1 rfl) ?_
  refine va_tb (v := .int 111) hx hb (hE.1.1 0 (by decide)).2.2.2 hS (iv_in (by decide : iv 113 113 113) (by decide) (by decide) : vp_in 113 140) rfl dJ1_charAt_3b067_8 ?_
  refine lv_sipush (v := 255) hx hb dJ1_charAt_3b067_9 (by decide) ?_
  refine lv_iand hx hb dJ1_charAt_3b067_12 ?_
  refine lv_val (y := 111) (by decide +kernel) ?_
  refine lv_i2c (v := _) hx hb dJ1_charAt_3b067_13 rfl ?_
  refine lv_val (y := 111) (by decide +kernel) ?_
  have hP9 := hP.sub (ws' := []) [] rfl
  have hD9 := hD.sub (ws' := []) [] (by decide) rfl
  have hK9 := hK.sub (tys' := []) [] rfl
  exact W.zret (v := 111) hx hb hr rfl (fun t ht hW => ⟨⟨111, (), rfl, ⟨rfl, trivial⟩, by rw [ht]; exact hP9, va_K.moved hW.alike hK9, hD9⟩, hS.F ht⟩) hS.2.2 dJ1_charAt_3b067_14
set_option maxHeartbeats 4000000 in
set_option maxRecDepth 100000 in
theorem cJ0_charAt_5068e_3 (l : Launch) (dC : Nat → ClassId) (dI : Nat → Nat → Nat) (adK adV : Nat → Nat) (sz : Nat) : Met l yJ0_charAt_5068e (Cond.code yJ0_charAt_5068e cJ0_charAt_5068e 2 (some .char) :: lw_G) ({ frames := 3, cells := 0, slots := 0, locals := 64 }) (va_Pc [.ref (adK 0), .int 113] (fun U => U.heap.size = sz ∧ va_P (dC, dI) vwCl [] U.heap ∧ va_K (dC, dI) vwCl [] U ∧ va_D (fun _ => True) [] ∧ ev adK adV (va_A [] sz) U U.heap)) (va_Qi (fun (r : Int32) (u : Unit) => r = 111 ∧ True) (fun (u : Unit) (t : State) => va_P (dC, dI) vwCl [] t.heap ∧ va_K (dC, dI) vwCl [] t ∧ va_D (va_A [] sz) []) (va_A [] sz)) 0 0 (va_A [] sz) := by
  refine Met.ofW (cc := cJ0_charAt_5068e) (maxL := 2) (ret := (some .char)) (by decide) rfl ?_
  intro p e s m args below meth c s₁ B hml hv
  obtain ⟨rfl, hsz, hP, hK, hD0, hE⟩ := hv
  have hx := B.exec
  have hb := B.bytes
  have hr := B.returns
  have hts0 := atoms_spec (ws := Cond.code yJ0_charAt_5068e cJ0_charAt_5068e 2 (some .char) :: lw_G) B.pre
  have hG : ∀ w ∈ lw_G, w.before _ s = true := fun w h => hts0 w (List.mem_cons_of_mem _ h)
  have hown : s.vm.findClass RJ0 = some m.cls := findClass_of_methodNamed B.named
  have hlocks := B.notSynchronized
  subst hsz
  have hD := hD0.self (sz := s.heap.size)
  generalize hAe : va_A [] s.heap.size = A at hD hE ⊢
  have hA : ∀ q : Nat, s.heap.size ≤ q → A q := fun q h => by rw [← hAe]; exact Or.inr h
  have hS : va_S A s.heap s.heap [] := va_S.rf
  have hP : va_P (dC, dI) vwCl [] s.heap := hP
  have hl := lv_entry ([.ref (adK 0), .int 113]) (n := 2) (Nat.le_of_ble_eq_true rfl)
  rw [lg_entry_eq]
  generalize (lg_sl ([.ref (adK 0), .int 113]) ++ List.replicate (2 - (lg_sl ([.ref (adK 0), .int 113])).length) Slot.unset).toArray = ls at hl ⊢
  have hl : lv_has ls 2 [(0, .ref (adK 0)), (1, .int 113)] := hl
  refine lv_aload_n hx hb dJ0_charAt_5068e_0 rfl (lv_at hl 0 rfl) ?_
  have hPc := hP.sub (ws' := []) [] rfl
  have hDc := hD.sub (ws' := []) [] (by decide) rfl
  have hKc := hK.sub (tys' := []) [] rfl
  have hFc := va_free (wc := []) hD hS hA [] rfl
  refine va_calli (va_runV (As := []) (rest := []) ⟨hx, hb, hml, hown, hG⟩ (cJ0_isLatin1_aae02_1 l dC dI adK adV s.heap.size) (cwV 0 hG (gV wd_249 wd_250 wd_251 wd_12 wd_252) rfl rfl rfl (by decide +kernel) ⟨Nat.le_of_ble_eq_true rfl, Nat.le_of_ble_eq_true rfl⟩) ⟨fun a U g mk q => by obtain ⟨q0, q1, qP, qK, qD, qE⟩ := q; exact ⟨q0, q1, qP, va_K.moved (u := U) (U := U.calling g mk a) (Vm.Alike.refl U.vm) qK, qD, qE.same rfl⟩, vk_recv hE.1 (i := 0) (by decide) hS, fun U hU hW => ⟨rfl, by rw [hU], by rw [hU]; exact hPc, va_K.moved hW.alike hKc, hDc.weaken (fun _ _ _ _ => trivial), by rw [hU]; exact ((hE.kept hS.2.1).narrow hFc).warm hW⟩⟩ rfl rfl hl.1 rfl (lv_room (Nat.le_of_ble_eq_true rfl)) dJ0_charAt_5068e_1 ⟨by decide, by decide⟩) hS (fun q _ h => hFc q h) hFc (fun r1 u2 t H1 locs ht hvm hw hB hz1 hk1 hS => ?_)
  have hw : r1 = 1 ∧ True := hw
  obtain ⟨er1, -⟩ := hw
  obtain ⟨hP1, hK1, hD1⟩ := hB
  rw [ht] at hP1
  have hK1 := va_K.moved hvm.symm hK1
  obtain ⟨hP, hD⟩ := va_join (wr := []) (w1 := []) hP hD [] [] rfl rfl (by decide) (by decide) hk1 hFc hP1 hD1
  have hK := (hK.sub (tys' := []) [] rfl).app hK1
  generalize H1 = H at hP hS ⊢
  have hP : va_P (dC, dI) vwCl [] H := hP
  have hD : va_D A [] := hD
  have hK : va_K (dC, dI) vwCl [] s := hK
  subst er1
  refine lv_if_eq (tgt := 16) hx hb dJ0_charAt_5068e_4 (by decide) (fun c => absurd c (by decide)) (fun _ => ?_)
  refine lv_aload_n hx hb dJ0_charAt_5068e_7 rfl (lv_at hl 0 rfl) ?_
  refine vk_getf hx hb (hE.1.1 0 (by decide)).2.2.1 hS hown (hG _ wd_1893) (fun _ h9 => h9) dJ0_charAt_5068e_8 ?_
  refine lv_iload_n hx hb dJ0_charAt_5068e_11 rfl (lv_at hl 1 rfl) ?_
  have hPc := hP.sub (ws' := []) [] rfl
  have hDc := hD.sub (ws' := []) [] (by decide) rfl
  have hKc := hK.sub (tys' := []) [] rfl
  have hFc := va_free (wc := []) hD hS hA [] rfl
  refine va_calli (va_runS (As := [.ref (adV 0), .int 113]) (rest := []) ⟨hx, hb, hml, hown, hG⟩ (cJ1_charAt_3b067_3 l dC dI adK adV H.size) (va_cwS 2 hG (gS wd_253 wd_254 wd_13 wd_255) rfl rfl rfl (by decide +kernel) ⟨Nat.le_of_ble_eq_true rfl, Nat.le_of_ble_eq_true rfl⟩) ⟨fun a U g mk q => by obtain ⟨q0, q1, qP, qK, qD, qE⟩ := q; exact ⟨q0, q1, qP, va_K.moved (u := U) (U := U.calling g mk a) (Vm.Alike.refl U.vm) qK, qD, qE.same rfl⟩, fun U hU hW => ⟨rfl, by rw [hU], by rw [hU]; exact hPc, va_K.moved hW.alike hKc, hDc.weaken (fun _ _ _ _ => trivial), by rw [hU]; exact ((hE.kept hS.2.1).narrow hFc).warm hW⟩⟩ rfl rfl hl.1 rfl (lv_room (Nat.le_of_ble_eq_true rfl)) dJ0_charAt_5068e_12 ⟨by decide, by decide⟩) hS (fun q _ h => hFc q h) hFc (fun r3 u4 t H1 locs ht hvm hw hB hz1 hk1 hS => ?_)
  have hw : r3 = 111 ∧ True := hw
  obtain ⟨er3, -⟩ := hw
  obtain ⟨hP1, hK1, hD1⟩ := hB
  rw [ht] at hP1
  have hK1 := va_K.moved hvm.symm hK1
  obtain ⟨hP, hD⟩ := va_join (wr := []) (w1 := []) hP hD [] [] rfl rfl (by decide) (by decide) hk1 hFc hP1 hD1
  have hK := (hK.sub (tys' := []) [] rfl).app hK1
  generalize H1 = H at hP hS ⊢
  have hP : va_P (dC, dI) vwCl [] H := hP
  have hD : va_D A [] := hD
  have hK : va_K (dC, dI) vwCl [] s := hK
  subst er3
  have hP9 := hP.sub (ws' := []) [] rfl
  have hD9 := hD.sub (ws' := []) [] (by decide) rfl
  have hK9 := hK.sub (tys' := []) [] rfl
  exact W.zret (v := 111) hx hb hr rfl (fun t ht hW => ⟨⟨111, (), rfl, ⟨rfl, trivial⟩, by rw [ht]; exact hP9, va_K.moved hW.alike hK9, hD9⟩, hS.F ht⟩) hS.2.2 dJ0_charAt_5068e_15
