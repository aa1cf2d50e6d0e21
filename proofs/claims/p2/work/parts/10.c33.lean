set_option maxHeartbeats 100000000 in
set_option maxRecDepth 100000 in
theorem cX1_port_1 (l : Launch) (dC : Nat → ClassId) (dI : Nat → Nat → Nat) (h0 h1 h2 h3 h4 : Nat) (sz : Nat) : Met l yX1_port (Cond.code yX1_port cX1_port 1 (some (.object "NapMachine$Port")) :: lw_G) ({ frames := 0, cells := 0, slots := 0, locals := 0 }) (va_Pc [.ref h0] (fun U => U.heap.size = sz ∧ va_P (dC, dI) vwCl [(h0, .inr (1, [.ref h1, .ref h2, .ref h3, .ref h4]))] U.heap ∧ va_K (dC, dI) vwCl [] U ∧ va_D (fun _ => True) [(h0, .inr (1, [.ref h1, .ref h2, .ref h3, .ref h4]))])) (va_Qr (fun (u : Unit) => True) (fun (u : Unit) (a : Nat) (t : State) => a = h2 ∧ va_P (dC, dI) vwCl [(h0, .inr (1, [.ref h1, .ref h2, .ref h3, .ref h4]))] t.heap ∧ va_K (dC, dI) vwCl [] t ∧ va_D (va_A [(h0, .inr (1, [.ref h1, .ref h2, .ref h3, .ref h4]))] sz) [(h0, .inr (1, [.ref h1, .ref h2, .ref h3, .ref h4]))]) (va_A [(h0, .inr (1, [.ref h1, .ref h2, .ref h3, .ref h4]))] sz)) 0 0 (va_A [(h0, .inr (1, [.ref h1, .ref h2, .ref h3, .ref h4]))] sz) := by
  refine Met.ofW (cc := cX1_port) (maxL := 1) (ret := (some (.object "NapMachine$Port"))) (by decide) rfl ?_
  intro p e s m args below meth c s₁ B hml hv
  obtain ⟨rfl, hsz, hP, hK, hD0⟩ := hv
  have hx := B.exec
  have hb := B.bytes
  have hr := B.returns
  have hts0 := atoms_spec (ws := Cond.code yX1_port cX1_port 1 (some (.object "NapMachine$Port")) :: lw_G) B.pre
  have hG : ∀ w ∈ lw_G, w.before _ s = true := fun w h => hts0 w (List.mem_cons_of_mem _ h)
  have hown : s.vm.findClass RX1 = some m.cls := findClass_of_methodNamed B.named
  have hlocks := B.notSynchronized
  subst hsz
  have hD := hD0.self (sz := s.heap.size)
  generalize hAe : va_A [(h0, .inr (1, [.ref h1, .ref h2, .ref h3, .ref h4]))] s.heap.size = A at hD ⊢
  have hA : ∀ q : Nat, s.heap.size ≤ q → A q := fun q h => by rw [← hAe]; exact Or.inr h
  have hS : va_S A s.heap s.heap [] := va_S.rf
  have hP : va_P (dC, dI) vwCl [(h0, .inr (1, [.ref h1, .ref h2, .ref h3, .ref h4]))] s.heap := hP
  have hl := lv_entry ([.ref h0]) (n := 1) (Nat.le_of_ble_eq_true rfl)
  rw [lg_entry_eq]
  generalize (lg_sl ([.ref h0]) ++ List.replicate (1 - (lg_sl ([.ref h0])).length) Slot.unset).toArray = ls at hl ⊢
  have hl : lv_has ls 1 [(0, .ref h0)] := hl
  generalize ([.ref h0] : List Value).toArray = ar at hG ⊢
  refine wq (fun Q hQ => ?_)
  refine lv_aload_n hx hb dX1_port_0 rfl (lv_at hl 0 rfl) ?_
  refine va_get (D := (dC, dI)) (ci := 1) (v := .ref h2) (C := RX1) (T := TX1) (N := 4) hx hb hG inGX1 hown hK hP 0 rfl rfl 1 (by decide) (hG _ wd_115) (fun _ h9 => h9) rfl dX1_port_1 ?_
  rw [hQ]
  obtain ⟨hP9, hD9⟩ := nv_sub2 (wc := [(h0, .inr (1, [.ref h1, .ref h2, .ref h3, .ref h4]))]) hP hD [0] (by decide) rfl
  have hK9 := hK.sub (tys' := []) [] rfl
  exact W.aret (v := .ref h2) hx hb hr (Or.inl ⟨_, rfl⟩) (Or.inr ⟨_, rfl⟩) (fun t ht hW => ⟨⟨(), h2, rfl, trivial, rfl, by rw [ht]; exact hP9, va_K.moved hW.alike hK9, hD9⟩, hS.F ht⟩) hS.2.2 dX1_port_4
set_option maxHeartbeats 100000000 in
set_option maxRecDepth 100000 in
theorem cX7_change_1 (l : Launch) (dC : Nat → ClassId) (dI : Nat → Nat → Nat) (h0 : Nat) (sz : Nat) (x0 x1 x2 x3 x4 x5 : Int32) : Met l yX7_change (Cond.code yX7_change cX7_change 4 none :: lw_G) ({ frames := 0, cells := 0, slots := 0, locals := 0 }) (va_Pc [.ref h0, .int x0] (fun U => U.heap.size = sz ∧ va_P (dC, dI) vwCl [(h0, .inr (7, [.int x1, .int x2, .int x3, .int x4, .int x5]))] U.heap ∧ va_K (dC, dI) vwCl [] U ∧ va_D (fun _ => True) [(h0, .inr (7, [.int x1, .int x2, .int x3, .int x4, .int x5]))])) (va_Qv (fun (u : Int32) => True) (fun (u : Int32) (t : State) => va_P (dC, dI) vwCl [(h0, .inr (7, [.int x0, .int x2, .int u, .int x4, .int x5]))] t.heap ∧ va_K (dC, dI) vwCl [] t ∧ va_D (va_A [(h0, .inr (7, [.int x1, .int x2, .int x3, .int x4, .int x5]))] sz) [(h0, .inr (7, [.int x0, .int x2, .int u, .int x4, .int x5]))]) (va_A [(h0, .inr (7, [.int x1, .int x2, .int x3, .int x4, .int x5]))] sz)) 0 0 (va_A [(h0, .inr (7, [.int x1, .int x2, .int x3, .int x4, .int x5]))] sz) := by
  refine Met.ofW (cc := cX7_change) (maxL := 4) (ret := none) (by decide) rfl ?_
  intro p e s m args below meth c s₁ B hml hv
  obtain ⟨rfl, hsz, hP, hK, hD0⟩ := hv
  have hx := B.exec
  have hb := B.bytes
  have hr := B.returns
  have hts0 := atoms_spec (ws := Cond.code yX7_change cX7_change 4 none :: lw_G) B.pre
  have hG : ∀ w ∈ lw_G, w.before _ s = true := fun w h => hts0 w (List.mem_cons_of_mem _ h)
  have hown : s.vm.findClass RX7 = some m.cls := findClass_of_methodNamed B.named
  have hlocks := B.notSynchronized
  subst hsz
  have hD := hD0.self (sz := s.heap.size)
  generalize hAe : va_A [(h0, .inr (7, [.int x1, .int x2, .int x3, .int x4, .int x5]))] s.heap.size = A at hD ⊢
  have hA : ∀ q : Nat, s.heap.size ≤ q → A q := fun q h => by rw [← hAe]; exact Or.inr h
  have hS : va_S A s.heap s.heap [] := va_S.rf
  have hP : va_P (dC, dI) vwCl [(h0, .inr (7, [.int x1, .int x2, .int x3, .int x4, .int x5]))] s.heap := hP
  have hl := lv_entry ([.ref h0, .int x0]) (n := 4) (Nat.le_of_ble_eq_true rfl)
  rw [lg_entry_eq]
  generalize (lg_sl ([.ref h0, .int x0]) ++ List.replicate (4 - (lg_sl ([.ref h0, .int x0])).length) Slot.unset).toArray = ls at hl ⊢
  have hl : lv_has ls 4 [(0, .ref h0), (1, .int x0)] := hl
  generalize ([.ref h0, .int x0] : List Value).toArray = ar at hG ⊢
  refine wq (fun Q hQ => ?_)
  refine lv_iload_n hx hb dX7_change_0 rfl (lv_at hl 1 rfl) ?_
  refine lv_aload_n hx hb dX7_change_1 rfl (lv_at hl 0 rfl) ?_
  refine va_get (D := (dC, dI)) (ci := 7) (v := .int x1) (C := RX7) (T := TX7) (N := 5) hx hb hG inGX7 hown hK hP 0 rfl rfl 0 (by decide) (hG _ wd_47) (fun _ h9 => h9) rfl dX7_change_2 ?_
  refine lv_iconst (v := (-1)) hx hb dX7_change_5 (by decide) ?_
  refine lv_ixor hx hb dX7_change_6 ?_
  refine lv_topi (fun v1 ev1 => ?_)
  refine lv_iand hx hb dX7_change_7 ?_
  refine lv_topi (fun v2 ev2 => ?_)
  refine lv_istore_n (lv' := [(2, .int v2), (0, .ref h0), (1, .int x0)]) hx hb dX7_change_8 rfl hl (by decide) rfl (fun ls hl => ?_)
  refine lv_aload_n hx hb dX7_change_9 rfl (lv_at hl 1 rfl) ?_
  refine va_get (D := (dC, dI)) (ci := 7) (v := .int x1) (C := RX7) (T := TX7) (N := 5) hx hb hG inGX7 hown hK hP 0 rfl rfl 0 (by decide) (hG _ wd_47) (fun _ h9 => h9) rfl dX7_change_10 ?_
  refine lv_iload_n hx hb dX7_change_13 rfl (lv_at hl 2 rfl) ?_
  refine lv_iconst (v := (-1)) hx hb dX7_change_14 (by decide) ?_
  refine lv_ixor hx hb dX7_change_15 ?_
  refine lv_topi (fun v3 ev3 => ?_)
  refine lv_iand hx hb dX7_change_16 ?_
  refine lv_topi (fun v4 ev4 => ?_)
  refine lv_istore_n (lv' := [(3, .int v4), (2, .int v2), (0, .ref h0), (1, .int x0)]) hx hb dX7_change_17 rfl hl (by decide) rfl (fun ls hl => ?_)
  refine lv_aload_n hx hb dX7_change_18 rfl (lv_at hl 2 rfl) ?_
  refine lv_dup hx hb dX7_change_19 rfl ?_
  refine va_get (D := (dC, dI)) (ci := 7) (v := .int x3) (C := RX7) (T := TX7) (N := 5) hx hb hG inGX7 hown hK hP 0 rfl rfl 2 (by decide) (hG _ wd_49) (fun _ h9 => h9) rfl dX7_change_20 ?_
  refine lv_iload_n hx hb dX7_change_23 rfl (lv_at hl 1 rfl) ?_
  refine lv_aload_n hx hb dX7_change_24 rfl (lv_at hl 2 rfl) ?_
  refine va_get (D := (dC, dI)) (ci := 7) (v := .int x4) (C := RX7) (T := TX7) (N := 5) hx hb hG inGX7 hown hK hP 0 rfl rfl 3 (by decide) (hG _ wd_50) (fun _ h9 => h9) rfl dX7_change_25 ?_
  refine lv_iconst (v := (-1)) hx hb dX7_change_28 (by decide) ?_
  refine lv_ixor hx hb dX7_change_29 ?_
  refine lv_topi (fun v5 ev5 => ?_)
  refine lv_iand hx hb dX7_change_30 ?_
  refine lv_topi (fun v6 ev6 => ?_)
  refine lv_iload_n hx hb dX7_change_31 rfl (lv_at hl 0 rfl) ?_
  refine lv_aload_n hx hb dX7_change_32 rfl (lv_at hl 2 rfl) ?_
  refine va_get (D := (dC, dI)) (ci := 7) (v := .int x4) (C := RX7) (T := TX7) (N := 5) hx hb hG inGX7 hown hK hP 0 rfl rfl 3 (by decide) (hG _ wd_50) (fun _ h9 => h9) rfl dX7_change_33 ?_
  refine lv_iand hx hb dX7_change_36 ?_
  refine lv_topi (fun v7 ev7 => ?_)
  refine lv_ior hx hb dX7_change_37 ?_
  refine lv_topi (fun v8 ev8 => ?_)
  refine lv_ior hx hb dX7_change_38 ?_
  refine lv_topi (fun v9 ev9 => ?_)
  refine va_put (D := (dC, dI)) (ci := 7) (v := .int v9) (ty := .int) (C := RX7) (T := TX7) (N := 5) hx hb hG inGX7 tyX7 tyX7_ok nmX7 hown hK hP hD hS 0 rfl rfl 2 (by decide) (hG _ wd_49) (fun _ h9 => h9) rfl (by decide +kernel) rfl rfl (Nat.le_of_ble_eq_true rfl) dX7_change_39 (fun H locs hP hD hS => ?_)
  obtain ⟨hP, hD⟩ := nv_eq (ws' := [(h0, .inr (7, [.int x1, .int x2, .int v9, .int x4, .int x5]))]) hP hD rfl
  refine lv_aload_n hx hb dX7_change_42 rfl (lv_at hl 2 rfl) ?_
  refine lv_iload_n hx hb dX7_change_43 rfl (lv_at hl 3 rfl) ?_
  refine va_put (D := (dC, dI)) (ci := 7) (v := .int x0) (ty := .int) (C := RX7) (T := TX7) (N := 5) hx hb hG inGX7 tyX7 tyX7_ok nmX7 hown hK hP hD hS 0 rfl rfl 0 (by decide) (hG _ wd_47) (fun _ h9 => h9) rfl (by decide +kernel) rfl rfl (Nat.le_of_ble_eq_true rfl) dX7_change_44 (fun H locs hP hD hS => ?_)
  obtain ⟨hP, hD⟩ := nv_eq (ws' := [(h0, .inr (7, [.int x0, .int x2, .int v9, .int x4, .int x5]))]) hP hD rfl
  rw [hQ]
  obtain ⟨hP9, hD9⟩ := nv_sub2 (wc := [(h0, .inr (7, [.int x0, .int x2, .int v9, .int x4, .int x5]))]) hP hD [0] (by decide) rfl
  have hK9 := hK.sub (tys' := []) [] rfl
  exact W.vret hx hb hr (fun t ht hW => ⟨⟨v9, rfl, trivial, by rw [ht]; exact hP9, va_K.moved hW.alike hK9, hD9⟩, hS.F ht⟩) hS.2.2 dX7_change_47
set_option maxHeartbeats 100000000 in
set_option maxRecDepth 100000 in
theorem cX3_reach_1 (l : Launch) (dC : Nat → ClassId) (dI : Nat → Nat → Nat) (h0 h1 h2 h3 : Nat) (y0 y1 : ClassId) (sz : Nat) (x0 x1 x2 x3 x4 x5 x6 : Int32) (f0 f1 : Nat → Int32) (ix1 : iv x1 0 40) : Met l yX3_reach (Cond.code yX3_reach cX3_reach 5 none :: lw_G) ({ frames := 1, cells := 0, slots := 0, locals := 23 }) (va_Pc [.ref h0, .int x0, .ref h1] (fun U => U.heap.size = sz ∧ va_P (dC, dI) vwCl [(h0, .inr (3, [.ref h2, .ref h3, .int x1])), (h2, .inl (y0, 40, .inl f0)), (h3, .inl (y1, 40, .inl f1)), (h1, .inr (7, [.int x2, .int x3, .int x4, .int x5, .int x6]))] U.heap ∧ va_K (dC, dI) vwCl [(y0, .int), (y1, .int)] U ∧ va_D (fun _ => True) [(h0, .inr (3, [.ref h2, .ref h3, .int x1])), (h2, .inl (y0, 40, .inl f0)), (h3, .inl (y1, 40, .inl f1)), (h1, .inr (7, [.int x2, .int x3, .int x4, .int x5, .int x6]))])) (va_Qv (fun (u : Int32 × (Nat → Int32) × (Nat → Int32) × Int32 × Int32) => iv u.1 0 40 ∧ True) (fun (u : Int32 × (Nat → Int32) × (Nat → Int32) × Int32 × Int32) (t : State) => va_P (dC, dI) vwCl [(h0, .inr (3, [.ref h2, .ref h3, .int u.1])), (h2, .inl (y0, 40, .inl u.2.1)), (h3, .inl (y1, 40, .inl u.2.2.1)), (h1, .inr (7, [.int u.2.2.2.1, .int x3, .int u.2.2.2.2, .int x5, .int x6]))] t.heap ∧ va_K (dC, dI) vwCl [(y0, .int), (y1, .int)] t ∧ va_D (va_A [(h0, .inr (3, [.ref h2, .ref h3, .int x1])), (h2, .inl (y0, 40, .inl f0)), (h3, .inl (y1, 40, .inl f1)), (h1, .inr (7, [.int x2, .int x3, .int x4, .int x5, .int x6]))] sz) [(h0, .inr (3, [.ref h2, .ref h3, .int u.1])), (h2, .inl (y0, 40, .inl u.2.1)), (h3, .inl (y1, 40, .inl u.2.2.1)), (h1, .inr (7, [.int u.2.2.2.1, .int x3, .int u.2.2.2.2, .int x5, .int x6]))]) (va_A [(h0, .inr (3, [.ref h2, .ref h3, .int x1])), (h2, .inl (y0, 40, .inl f0)), (h3, .inl (y1, 40, .inl f1)), (h1, .inr (7, [.int x2, .int x3, .int x4, .int x5, .int x6]))] sz)) 0 0 (va_A [(h0, .inr (3, [.ref h2, .ref h3, .int x1])), (h2, .inl (y0, 40, .inl f0)), (h3, .inl (y1, 40, .inl f1)), (h1, .inr (7, [.int x2, .int x3, .int x4, .int x5, .int x6]))] sz) := by
  refine Met.ofW (cc := cX3_reach) (maxL := 5) (ret := none) (by decide) rfl ?_
  intro p e s m args below meth c s₁ B hml hv
  obtain ⟨rfl, hsz, hP, hK, hD0⟩ := hv
  have hx := B.exec
  have hb := B.bytes
  have hr := B.returns
  have hts0 := atoms_spec (ws := Cond.code yX3_reach cX3_reach 5 none :: lw_G) B.pre
  have hG : ∀ w ∈ lw_G, w.before _ s = true := fun w h => hts0 w (List.mem_cons_of_mem _ h)
  have hown : s.vm.findClass RX3 = some m.cls := findClass_of_methodNamed B.named
  have hlocks := B.notSynchronized
  subst hsz
  have hD := hD0.self (sz := s.heap.size)
  generalize hAe : va_A [(h0, .inr (3, [.ref h2, .ref h3, .int x1])), (h2, .inl (y0, 40, .inl f0)), (h3, .inl (y1, 40, .inl f1)), (h1, .inr (7, [.int x2, .int x3, .int x4, .int x5, .int x6]))] s.heap.size = A at hD ⊢
  have hA : ∀ q : Nat, s.heap.size ≤ q → A q := fun q h => by rw [← hAe]; exact Or.inr h
  have hS : va_S A s.heap s.heap [] := va_S.rf
  have hP : va_P (dC, dI) vwCl [(h0, .inr (3, [.ref h2, .ref h3, .int x1])), (h2, .inl (y0, 40, .inl f0)), (h3, .inl (y1, 40, .inl f1)), (h1, .inr (7, [.int x2, .int x3, .int x4, .int x5, .int x6]))] s.heap := hP
  have hl := lv_entry ([.ref h0, .int x0, .ref h1]) (n := 5) (Nat.le_of_ble_eq_true rfl)
  rw [lg_entry_eq]
  generalize (lg_sl ([.ref h0, .int x0, .ref h1]) ++ List.replicate (5 - (lg_sl ([.ref h0, .int x0, .ref h1])).length) Slot.unset).toArray = ls at hl ⊢
  have hl : lv_has ls 5 [(0, .ref h0), (1, .int x0), (2, .ref h1)] := hl
  generalize ([.ref h0, .int x0, .ref h1] : List Value).toArray = ar at hG ⊢
  refine wq (fun Q hQ => ?_)
  refine lv_iconst (v := 0) hx hb dX3_reach_0 (by decide) ?_
  refine lv_istore_n (lv' := [(3, .int 0), (0, .ref h0), (1, .int x0), (2, .ref h1)]) hx hb dX3_reach_1 rfl hl (by decide) rfl (fun ls hl => ?_)
  refine jcut (a := ∀ (n : Nat) (b2511 : Int32) (b2512 : Int32) (b2513 : Int32) (ib2511 : iv b2511 0 40) (rl2514 : b2511.toInt ≤ x1.toInt) (hm : (40 - b2511.toInt).toNat < n) (H : Heap) (locs : List Loc) (hK : va_K (dC, dI) vwCl [(y0, .int), (y1, .int)] s) (hP : va_P (dC, dI) vwCl [(h0, .inr (3, [.ref h2, .ref h3, .int x1])), (h2, .inl (y0, 40, .inl f0)), (h3, .inl (y1, 40, .inl f1)), (h1, .inr (7, [.int b2512, .int x3, .int b2513, .int x5, .int x6]))] H) (hD : va_D A [(h0, .inr (3, [.ref h2, .ref h3, .int x1])), (h2, .inl (y0, 40, .inl f0)), (h3, .inl (y1, 40, .inl f1)), (h1, .inr (7, [.int b2512, .int x3, .int b2513, .int x5, .int x6]))]) (hS : va_S A s.heap H locs) (ls : Array Slot) (hl : lv_has ls 5 [(3, .int b2511), (0, .ref h0), (1, .int x0), (2, .ref h1)]), W p l e (headSpec (Cond.code yX3_reach cX3_reach 5 none :: lw_G) ({ frames := 1, cells := 0, slots := 0, locals := 23 })).room s m ar below meth c H locs 0 0 Q (F0 m 2 ls [])) ?_ (fun lp2570 => ?_)
  · skip
    intro n
    induction n with
    | zero => intro b2511 b2512 b2513 ib2511 rl2514 hm H locs hK hP hD hS ls hl; exact absurd hm (Nat.not_lt_zero _)
    | succ n ih =>
      intro b2511 b2512 b2513 ib2511 rl2514 hm H locs hK hP hD hS ls hl
      refine lv_iload_n hx hb dX3_reach_2 rfl (lv_at hl 0 rfl) ?_
      refine lv_aload_n hx hb dX3_reach_3 rfl (lv_at hl 1 rfl) ?_
      refine va_get (D := (dC, dI)) (ci := 3) (v := .int x1) (C := RX3) (T := TX3) (N := 3) hx hb hG inGX3 hown hK hP 0 rfl rfl 2 (by decide) (hG _ wd_141) (fun _ h9 => h9) rfl dX3_reach_4 ?_
      refine jcut (a := ∀ (H : Heap) (locs : List Loc) (hK : va_K (dC, dI) vwCl [(y0, .int), (y1, .int)] s) (hP : va_P (dC, dI) vwCl [(h0, .inr (3, [.ref h2, .ref h3, .int x1])), (h2, .inl (y0, 40, .inl f0)), (h3, .inl (y1, 40, .inl f1)), (h1, .inr (7, [.int b2512, .int x3, .int b2513, .int x5, .int x6]))] H) (hD : va_D A [(h0, .inr (3, [.ref h2, .ref h3, .int x1])), (h2, .inl (y0, 40, .inl f0)), (h3, .inl (y1, 40, .inl f1)), (h1, .inr (7, [.int b2512, .int x3, .int b2513, .int x5, .int x6]))]) (hS : va_S A s.heap H locs) (ls : Array Slot) (hl : lv_has ls 5 [(3, .int b2511), (0, .ref h0)]), W p l e (headSpec (Cond.code yX3_reach cX3_reach 5 none :: lw_G) ({ frames := 1, cells := 0, slots := 0, locals := 23 })).room s m ar below meth c H locs 0 0 Q (F0 m 36 ls [])) ?_ (fun j2586 => ?_)
      · skip
        intro H locs hK hP hD hS ls hl
        refine lv_iload_n hx hb dX3_reach_36 rfl (lv_at hl 0 rfl) ?_
        refine lv_if_ne (tgt := 41) hx hb dX3_reach_37 (by decide) (fun c2587 => ?_) (fun c2587 => ?_)
        · skip
          have j2588 : iv b2511 1 40 := iv_neLo ib2511 (by decide : iv 0 0 0) c2587 (by decide)
          refine lv_iload_n hx hb dX3_reach_41 rfl (lv_at hl 0 rfl) ?_
          refine lv_istore (lv' := [(4, .int b2511), (3, .int b2511), (0, .ref h0)]) hx hb dX3_reach_42 hl (by decide) rfl (fun ls hl => ?_)
          refine jcut (a := ∀ (n : Nat) (b2600 : Int32) (b2601 : Nat → Int32) (b2602 : Nat → Int32) (ib2600 : iv b2600 1 40) (rl2603 : b2511.toInt ≤ b2600.toInt) (rl2604 : b2511.toInt ≤ x1.toInt) (hm : (40 - b2600.toInt).toNat < n) (H : Heap) (locs : List Loc) (hK : va_K (dC, dI) vwCl [(y0, .int), (y1, .int)] s) (hP : va_P (dC, dI) vwCl [(h0, .inr (3, [.ref h2, .ref h3, .int x1])), (h2, .inl (y0, 40, .inl b2601)), (h3, .inl (y1, 40, .inl b2602)), (h1, .inr (7, [.int b2512, .int x3, .int b2513, .int x5, .int x6]))] H) (hD : va_D A [(h0, .inr (3, [.ref h2, .ref h3, .int x1])), (h2, .inl (y0, 40, .inl b2601)), (h3, .inl (y1, 40, .inl b2602)), (h1, .inr (7, [.int b2512, .int x3, .int b2513, .int x5, .int x6]))]) (hS : va_S A s.heap H locs) (ls : Array Slot) (hl : lv_has ls 5 [(4, .int b2600), (3, .int b2511), (0, .ref h0)]), W p l e (headSpec (Cond.code yX3_reach cX3_reach 5 none :: lw_G) ({ frames := 1, cells := 0, slots := 0, locals := 23 })).room s m ar below meth c H locs 0 0 Q (F0 m 44 ls [])) ?_ (fun lp2623 => ?_)
          · skip
            intro n
            induction n with
            | zero => intro b2600 b2601 b2602 ib2600 rl2603 rl2604 hm H locs hK hP hD hS ls hl; exact absurd hm (Nat.not_lt_zero _)
            | succ n ih =>
              intro b2600 b2601 b2602 ib2600 rl2603 rl2604 hm H locs hK hP hD hS ls hl
              refine lv_iload hx hb dX3_reach_44 (lv_at hl 0 rfl) ?_
              refine lv_aload_n hx hb dX3_reach_46 rfl (lv_at hl 2 rfl) ?_
              refine va_get (D := (dC, dI)) (ci := 3) (v := .int x1) (C := RX3) (T := TX3) (N := 3) hx hb hG inGX3 hown hK hP 0 rfl rfl 2 (by decide) (hG _ wd_141) (fun _ h9 => h9) rfl dX3_reach_47 ?_
              refine lv_icmp_ge (tgt := 91) hx hb dX3_reach_50 (by decide) (fun c2624 => ?_) (fun c2624 => ?_)
              · skip
                have rl2636 : x1.toInt ≤ b2600.toInt := Int32.le_iff_toInt_le.mp c2624
                refine lv_aload_n hx hb dX3_reach_91 rfl (lv_at hl 2 rfl) ?_
                refine lv_dup hx hb dX3_reach_92 rfl ?_
                refine va_get (D := (dC, dI)) (ci := 3) (v := .int x1) (C := RX3) (T := TX3) (N := 3) hx hb hG inGX3 hown hK hP 0 rfl rfl 2 (by decide) (hG _ wd_141) (fun _ h9 => h9) rfl dX3_reach_93 ?_
                refine lv_iload_n hx hb dX3_reach_96 rfl (lv_at hl 1 rfl) ?_
                refine lv_isub hx hb dX3_reach_97 ?_
                refine lv_topi (fun v2637 ev2637 => ?_)
                have iv2637 : iv v2637 0 39 := iv_eq ev2637 (iv_subR ix1 j2588 rl2604 (by decide) (by decide))
                refine va_put (D := (dC, dI)) (ci := 3) (v := .int v2637) (ty := .int) (C := RX3) (T := TX3) (N := 3) hx hb hG inGX3 tyX3 tyX3_ok nmX3 hown hK hP hD hS 0 rfl rfl 2 (by decide) (hG _ wd_141) (fun _ h9 => h9) rfl (by decide +kernel) rfl rfl (Nat.le_of_ble_eq_true rfl) dX3_reach_98 (fun H locs hP hD hS => ?_)
                obtain ⟨hP, hD⟩ := nv_eq (ws' := [(h0, .inr (3, [.ref h2, .ref h3, .int v2637])), (h2, .inl (y0, 40, .inl b2601)), (h3, .inl (y1, 40, .inl b2602)), (h1, .inr (7, [.int b2512, .int x3, .int b2513, .int x5, .int x6]))]) hP hD rfl
                rw [hQ]
                obtain ⟨hP9, hD9⟩ := nv_sub2 (wc := [(h0, .inr (3, [.ref h2, .ref h3, .int v2637])), (h2, .inl (y0, 40, .inl b2601)), (h3, .inl (y1, 40, .inl b2602)), (h1, .inr (7, [.int b2512, .int x3, .int b2513, .int x5, .int x6]))]) hP hD [0, 1, 2, 3] (by decide) rfl
                have hK9 := hK.sub (tys' := [(y0, .int), (y1, .int)]) [0, 1] rfl
                exact W.vret hx hb hr (fun t ht hW => ⟨⟨(v2637, b2601, b2602, b2512, b2513), rfl, ⟨iv_w iv2637 (by decide) (by decide), trivial⟩, by rw [ht]; exact hP9, va_K.moved hW.alike hK9, hD9⟩, hS.F ht⟩) hS.2.2 dX3_reach_101
              · skip
                have rl2638 : b2600.toInt < x1.toInt := iv_nle2 c2624
                have j2639 : iv x1 2 40 := iv_nleL ix1 ib2600 c2624 (by decide)
                have j2640 : iv b2600 1 39 := iv_nleR ix1 ib2600 c2624 (by decide)
                refine lv_aload_n hx hb dX3_reach_53 rfl (lv_at hl 2 rfl) ?_
                refine va_get (D := (dC, dI)) (ci := 3) (v := .ref h2) (C := RX3) (T := TX3) (N := 3) hx hb hG inGX3 hown hK hP 0 rfl rfl 0 (by decide) (hG _ wd_139) (fun _ h9 => h9) rfl dX3_reach_54 ?_
                refine lv_iload hx hb dX3_reach_57 (lv_at hl 0 rfl) ?_
                refine lv_iload_n hx hb dX3_reach_59 rfl (lv_at hl 1 rfl) ?_
                refine lv_isub hx hb dX3_reach_60 ?_
                refine lv_topi (fun v2641 ev2641 => ?_)
                have iv2641 : iv v2641 0 38 := iv_eq ev2641 (iv_subR j2640 j2588 rl2603 (by decide) (by decide))
                refine lv_aload_n hx hb dX3_reach_61 rfl (lv_at hl 2 rfl) ?_
                refine va_get (D := (dC, dI)) (ci := 3) (v := .ref h2) (C := RX3) (T := TX3) (N := 3) hx hb hG inGX3 hown hK hP 0 rfl rfl 0 (by decide) (hG _ wd_139) (fun _ h9 => h9) rfl dX3_reach_62 ?_
                refine lv_iload hx hb dX3_reach_65 (lv_at hl 0 rfl) ?_
                refine va_iald hx hb hK hP 1 0 rfl rfl (iv_in j2640 (by decide) (by decide) : vp_in b2600 40) dX3_reach_67 ?_
                refine lv_topi (fun v2642 ev2642 => ?_)
                refine va_iast hx hb hK hP hD hS 1 0 rfl rfl (iv_in iv2641 (by decide) (by decide) : vp_in v2641 40) dX3_reach_68 (fun H locs hP hD hS => ?_)
                obtain ⟨nf2643, enf2643⟩ : ∃ z, z = upd b2601 v2641.toNatClampNeg v2642 := ⟨_, rfl⟩
                obtain ⟨hP, hD⟩ := nv_eq (ws' := [(h0, .inr (3, [.ref h2, .ref h3, .int x1])), (h2, .inl (y0, 40, .inl nf2643)), (h3, .inl (y1, 40, .inl b2602)), (h1, .inr (7, [.int b2512, .int x3, .int b2513, .int x5, .int x6]))]) hP hD (by subst enf2643; rfl)
                refine lv_aload_n hx hb dX3_reach_69 rfl (lv_at hl 2 rfl) ?_
                refine va_get (D := (dC, dI)) (ci := 3) (v := .ref h3) (C := RX3) (T := TX3) (N := 3) hx hb hG inGX3 hown hK hP 0 rfl rfl 1 (by decide) (hG _ wd_140) (fun _ h9 => h9) rfl dX3_reach_70 ?_
                refine lv_iload hx hb dX3_reach_73 (lv_at hl 0 rfl) ?_
                refine lv_iload_n hx hb dX3_reach_75 rfl (lv_at hl 1 rfl) ?_
                refine lv_isub hx hb dX3_reach_76 ?_
                refine lv_topi (fun v2644 ev2644 => ?_)
                have iv2644 : iv v2644 0 38 := iv_eq ev2644 (iv_subR j2640 j2588 rl2603 (by decide) (by decide))
                refine lv_aload_n hx hb dX3_reach_77 rfl (lv_at hl 2 rfl) ?_
                refine va_get (D := (dC, dI)) (ci := 3) (v := .ref h3) (C := RX3) (T := TX3) (N := 3) hx hb hG inGX3 hown hK hP 0 rfl rfl 1 (by decide) (hG _ wd_140) (fun _ h9 => h9) rfl dX3_reach_78 ?_
                refine lv_iload hx hb dX3_reach_81 (lv_at hl 0 rfl) ?_
                refine va_iald hx hb hK hP 2 1 rfl rfl (iv_in j2640 (by decide) (by decide) : vp_in b2600 40) dX3_reach_83 ?_
                refine lv_topi (fun v2645 ev2645 => ?_)
                refine va_iast hx hb hK hP hD hS 2 1 rfl rfl (iv_in iv2644 (by decide) (by decide) : vp_in v2644 40) dX3_reach_84 (fun H locs hP hD hS => ?_)
                obtain ⟨nf2646, enf2646⟩ : ∃ z, z = upd b2602 v2644.toNatClampNeg v2645 := ⟨_, rfl⟩
                obtain ⟨hP, hD⟩ := nv_eq (ws' := [(h0, .inr (3, [.ref h2, .ref h3, .int x1])), (h2, .inl (y0, 40, .inl nf2643)), (h3, .inl (y1, 40, .inl nf2646)), (h1, .inr (7, [.int b2512, .int x3, .int b2513, .int x5, .int x6]))]) hP hD (by subst enf2646; rfl)
                obtain ⟨v2647, ev2647⟩ : ∃ y : Int32, y = b2600 + Int32.ofInt 1 := ⟨_, rfl⟩
                have iv2647 : iv v2647 2 40 := iv_eq ev2647 (iv_add j2640 (by decide : iv (Int32.ofInt 1) 1 1) (by decide) (by decide))
                have tv2647 : v2647.toInt = b2600.toInt + 1 := iv_addT ev2647 j2640 (by decide) (by decide) (by decide)
                refine lv_iinc (v := v2647) (lv' := [(4, .int v2647), (3, .int b2511), (0, .ref h0)]) hx hb dX3_reach_85 hl (k := 0) rfl ev2647.symm (by decide) rfl (fun ls hl => ?_)
                refine lv_goto (tgt := 44) hx hb dX3_reach_88 (by decide) ?_
                exact ih v2647 nf2643 nf2646 (iv_w iv2647 (by decide) (by decide)) (by omega) (by omega) (by omega) _ _ hK hP hD hS ls hl
          exact lp2623 _ b2511 f0 f1 j2588 (by omega) (by omega) (Nat.lt_succ_self _) _ _ hK hP hD hS ls hl
        · skip
          subst c2587
          rw [hQ]
          obtain ⟨hP9, hD9⟩ := nv_sub2 (wc := [(h0, .inr (3, [.ref h2, .ref h3, .int x1])), (h2, .inl (y0, 40, .inl f0)), (h3, .inl (y1, 40, .inl f1)), (h1, .inr (7, [.int b2512, .int x3, .int b2513, .int x5, .int x6]))]) hP hD [0, 1, 2, 3] (by decide) rfl
          have hK9 := hK.sub (tys' := [(y0, .int), (y1, .int)]) [0, 1] rfl
          exact W.vret hx hb hr (fun t ht hW => ⟨⟨(x1, f0, f1, b2512, b2513), rfl, ⟨iv_w ix1 (by decide) (by decide), trivial⟩, by rw [ht]; exact hP9, va_K.moved hW.alike hK9, hD9⟩, hS.F ht⟩) hS.2.2 dX3_reach_40
      refine lv_icmp_ge (tgt := 36) hx hb dX3_reach_7 (by decide) (fun c2571 => ?_) (fun c2571 => ?_)
      · skip
        have rl2648 : x1.toInt ≤ b2511.toInt := Int32.le_iff_toInt_le.mp c2571
        exact j2586 _ _ hK hP hD hS ls (lv_sub hl [0, 1] rfl)
      · skip
        have rl2649 : b2511.toInt < x1.toInt := iv_nle2 c2571
        have j2650 : iv x1 1 40 := iv_nleL ix1 ib2511 c2571 (by decide)
        have j2651 : iv b2511 0 39 := iv_nleR ix1 ib2511 c2571 (by decide)
        refine lv_aload_n hx hb dX3_reach_10 rfl (lv_at hl 1 rfl) ?_
        refine va_get (D := (dC, dI)) (ci := 3) (v := .ref h2) (C := RX3) (T := TX3) (N := 3) hx hb hG inGX3 hown hK hP 0 rfl rfl 0 (by decide) (hG _ wd_139) (fun _ h9 => h9) rfl dX3_reach_11 ?_
        refine lv_iload_n hx hb dX3_reach_14 rfl (lv_at hl 0 rfl) ?_
        refine va_iald hx hb hK hP 1 0 rfl rfl (iv_in j2651 (by decide) (by decide) : vp_in b2511 40) dX3_reach_15 ?_
        refine lv_topi (fun v2652 ev2652 => ?_)
        refine lv_iload_n hx hb dX3_reach_16 rfl (lv_at hl 2 rfl) ?_
        refine lv_icmp_gt (tgt := 36) hx hb dX3_reach_17 (by decide) (fun c2653 => ?_) (fun c2653 => ?_)
        · skip
          have rl2654 : x0.toInt < v2652.toInt := Int32.lt_iff_toInt_lt.mp c2653
          have j2655 : iv x0 (-2147483648) 2147483646 := iv_ltL (iv_any x0) (iv_any v2652) c2653 (by decide)
          have j2656 : iv v2652 (-2147483647) 2147483647 := iv_ltR (iv_any x0) (iv_any v2652) c2653 (by decide)
          exact j2586 _ _ hK hP hD hS ls (lv_sub hl [0, 1] rfl)
        · skip
          have rl2657 : v2652.toInt ≤ x0.toInt := iv_nlt2 c2653
          refine lv_aload_n hx hb dX3_reach_20 rfl (lv_at hl 3 rfl) ?_
          refine lv_aload_n hx hb dX3_reach_21 rfl (lv_at hl 1 rfl) ?_
          refine va_get (D := (dC, dI)) (ci := 3) (v := .ref h3) (C := RX3) (T := TX3) (N := 3) hx hb hG inGX3 hown hK hP 0 rfl rfl 1 (by decide) (hG _ wd_140) (fun _ h9 => h9) rfl dX3_reach_22 ?_
          refine lv_iload_n hx hb dX3_reach_25 rfl (lv_at hl 0 rfl) ?_
          refine va_iald hx hb hK hP 2 1 rfl rfl (iv_in j2651 (by decide) (by decide) : vp_in b2511 40) dX3_reach_26 ?_
          refine lv_topi (fun v2658 ev2658 => ?_)
          obtain ⟨hPc, hDc, hFc⟩ := nv_sub3 (wc := [(h1, .inr (7, [.int b2512, .int x3, .int b2513, .int x5, .int x6]))]) hP hD hS hA [3] (by decide) rfl
          have hKc := hK.sub (tys' := []) [] rfl
          refine va_callv (va_runV (As := [.int v2658]) (rest := []) ⟨hx, hb, hml, hown, hG⟩ (cX7_change_1 l dC dI h1 H.size v2658 b2512 x3 b2513 x5 x6) (cwV 1 hG (gV wd_965 wd_966 wd_967 wd_3 wd_968) rfl rfl rfl (by decide +kernel) ⟨Nat.le_of_ble_eq_true rfl, Nat.le_of_ble_eq_true rfl⟩) ⟨fun a U g mk q => by obtain ⟨q0, q1, qP, qK, qD⟩ := q; exact ⟨q0, q1, qP, va_K.moved (u := U) (U := U.calling g mk a) (Vm.Alike.refl U.vm) qK, qD⟩, va_recv hKc hPc (ci := 7) (q0 := 0) rfl rfl, fun U hU hW => ⟨rfl, by rw [hU], by rw [hU]; exact hPc, va_K.moved hW.alike hKc, hDc.weaken (fun _ _ _ _ => trivial)⟩⟩ rfl rfl hl.1 rfl (lv_room (Nat.le_of_ble_eq_true rfl)) dX3_reach_27 ⟨by decide, by decide⟩) hS (fun q _ h => hFc q h) hFc (fun u2660 t H1 locs ht hvm hw hB hz1 hk1 hS => ?_)
          obtain ⟨u2660_0, rfl⟩ : ∃ z, z = u2660 := ⟨_, rfl⟩
          obtain ⟨hP1, hK1, hD1⟩ := hB
          rw [ht] at hP1
          have hK1 := va_K.moved hvm.symm hK1
          obtain ⟨hP, hD⟩ := nv_join (wf := [(h0, .inr (3, [.ref h2, .ref h3, .int x1])), (h2, .inl (y0, 40, .inl f0)), (h3, .inl (y1, 40, .inl f1)), (h1, .inr (7, [.int v2658, .int x3, .int u2660_0, .int x5, .int x6]))]) hP hD [3] [0, 1, 2] rfl rfl (by decide) (by decide) hk1 hFc hP1 hD1 rfl
          have hK := (hK.sub (tys' := [(y0, .int), (y1, .int)]) [0, 1] rfl).app hK1
          generalize H1 = H at hP hS ⊢
          have hK : va_K (dC, dI) vwCl [(y0, .int), (y1, .int)] s := hK
          obtain ⟨v2661, ev2661⟩ : ∃ y : Int32, y = b2511 + Int32.ofInt 1 := ⟨_, rfl⟩
          have iv2661 : iv v2661 1 40 := iv_eq ev2661 (iv_add j2651 (by decide : iv (Int32.ofInt 1) 1 1) (by decide) (by decide))
          have tv2661 : v2661.toInt = b2511.toInt + 1 := iv_addT ev2661 j2651 (by decide) (by decide) (by decide)
          refine lv_iinc (v := v2661) (lv' := [(3, .int v2661), (0, .ref h0), (1, .int x0), (2, .ref h1)]) hx hb dX3_reach_30 hl (k := 0) rfl ev2661.symm (by decide) rfl (fun ls hl => ?_)
          refine lv_goto (tgt := 2) hx hb dX3_reach_33 (by decide) ?_
          exact ih v2661 v2658 u2660_0 (iv_w iv2661 (by decide) (by decide)) (by omega) (by omega) _ _ hK hP hD hS ls hl
  have kc0 : (0 : Int32).toInt = 0 := by decide
  exact lp2570 _ 0 x2 x4 (iv_w (by decide : iv 0 0 0) (by decide) (by decide)) (by omega) (Nat.lt_succ_self _) _ _ hK hP hD hS ls hl
set_option maxHeartbeats 100000000 in
set_option maxRecDepth 100000 in
theorem cX1_timer_1 (l : Launch) (dC : Nat → ClassId) (dI : Nat → Nat → Nat) (h0 h1 h2 h3 h4 : Nat) (sz : Nat) : Met l yX1_timer (Cond.code yX1_timer cX1_timer 1 (some (.object "NapMachine$Timer")) :: lw_G) ({ frames := 0, cells := 0, slots := 0, locals := 0 }) (va_Pc [.ref h0] (fun U => U.heap.size = sz ∧ va_P (dC, dI) vwCl [(h0, .inr (1, [.ref h1, .ref h2, .ref h3, .ref h4]))] U.heap ∧ va_K (dC, dI) vwCl [] U ∧ va_D (fun _ => True) [(h0, .inr (1, [.ref h1, .ref h2, .ref h3, .ref h4]))])) (va_Qr (fun (u : Unit) => True) (fun (u : Unit) (a : Nat) (t : State) => a = h4 ∧ va_P (dC, dI) vwCl [(h0, .inr (1, [.ref h1, .ref h2, .ref h3, .ref h4]))] t.heap ∧ va_K (dC, dI) vwCl [] t ∧ va_D (va_A [(h0, .inr (1, [.ref h1, .ref h2, .ref h3, .ref h4]))] sz) [(h0, .inr (1, [.ref h1, .ref h2, .ref h3, .ref h4]))]) (va_A [(h0, .inr (1, [.ref h1, .ref h2, .ref h3, .ref h4]))] sz)) 0 0 (va_A [(h0, .inr (1, [.ref h1, .ref h2, .ref h3, .ref h4]))] sz) := by
  refine Met.ofW (cc := cX1_timer) (maxL := 1) (ret := (some (.object "NapMachine$Timer"))) (by decide) rfl ?_
  intro p e s m args below meth c s₁ B hml hv
  obtain ⟨rfl, hsz, hP, hK, hD0⟩ := hv
  have hx := B.exec
  have hb := B.bytes
  have hr := B.returns
  have hts0 := atoms_spec (ws := Cond.code yX1_timer cX1_timer 1 (some (.object "NapMachine$Timer")) :: lw_G) B.pre
  have hG : ∀ w ∈ lw_G, w.before _ s = true := fun w h => hts0 w (List.mem_cons_of_mem _ h)
  have hown : s.vm.findClass RX1 = some m.cls := findClass_of_methodNamed B.named
  have hlocks := B.notSynchronized
  subst hsz
  have hD := hD0.self (sz := s.heap.size)
  generalize hAe : va_A [(h0, .inr (1, [.ref h1, .ref h2, .ref h3, .ref h4]))] s.heap.size = A at hD ⊢
  have hA : ∀ q : Nat, s.heap.size ≤ q → A q := fun q h => by rw [← hAe]; exact Or.inr h
  have hS : va_S A s.heap s.heap [] := va_S.rf
  have hP : va_P (dC, dI) vwCl [(h0, .inr (1, [.ref h1, .ref h2, .ref h3, .ref h4]))] s.heap := hP
  have hl := lv_entry ([.ref h0]) (n := 1) (Nat.le_of_ble_eq_true rfl)
  rw [lg_entry_eq]
  generalize (lg_sl ([.ref h0]) ++ List.replicate (1 - (lg_sl ([.ref h0])).length) Slot.unset).toArray = ls at hl ⊢
  have hl : lv_has ls 1 [(0, .ref h0)] := hl
  generalize ([.ref h0] : List Value).toArray = ar at hG ⊢
  refine wq (fun Q hQ => ?_)
  refine lv_aload_n hx hb dX1_timer_0 rfl (lv_at hl 0 rfl) ?_
  refine va_get (D := (dC, dI)) (ci := 1) (v := .ref h4) (C := RX1) (T := TX1) (N := 4) hx hb hG inGX1 hown hK hP 0 rfl rfl 3 (by decide) (hG _ wd_117) (fun _ h9 => h9) rfl dX1_timer_1 ?_
  rw [hQ]
  obtain ⟨hP9, hD9⟩ := nv_sub2 (wc := [(h0, .inr (1, [.ref h1, .ref h2, .ref h3, .ref h4]))]) hP hD [0] (by decide) rfl
  have hK9 := hK.sub (tys' := []) [] rfl
  exact W.aret (v := .ref h4) hx hb hr (Or.inl ⟨_, rfl⟩) (Or.inr ⟨_, rfl⟩) (fun t ht hW => ⟨⟨(), h4, rfl, trivial, rfl, by rw [ht]; exact hP9, va_K.moved hW.alike hK9, hD9⟩, hS.F ht⟩) hS.2.2 dX1_timer_4
set_option maxHeartbeats 100000000 in
set_option maxRecDepth 100000 in
theorem cX9_firstRequests_1 (l : Launch) (dC : Nat → ClassId) (dI : Nat → Nat → Nat) (h0 h1 h2 : Nat) (y0 : ClassId) (sz : Nat) (x0 x1 x2 x3 : Int32) (f0 : Nat → Int32) (ix3 : iv x3 0 1) : Met l yX9_firstRequests (Cond.code yX9_firstRequests cX9_firstRequests 1 (some .boolean) :: lw_G) ({ frames := 0, cells := 0, slots := 0, locals := 0 }) (va_Pc [.ref h0] (fun U => U.heap.size = sz ∧ va_P (dC, dI) vwCl [(h0, .inr (9, [.ref h1, .ref h2, .int x0, .int x1, .int x2, .int x3])), (h1, .inl (y0, 3, .inl f0))] U.heap ∧ va_K (dC, dI) vwCl [(y0, .int)] U ∧ va_D (fun _ => True) [(h0, .inr (9, [.ref h1, .ref h2, .int x0, .int x1, .int x2, .int x3])), (h1, .inl (y0, 3, .inl f0))])) (va_Qi (fun (r : Int32) (u : Unit) => iv r 0 1 ∧ True) (fun (u : Unit) (t : State) => va_P (dC, dI) vwCl [(h0, .inr (9, [.ref h1, .ref h2, .int x0, .int x1, .int x2, .int x3])), (h1, .inl (y0, 3, .inl f0))] t.heap ∧ va_K (dC, dI) vwCl [(y0, .int)] t ∧ va_D (va_A [(h0, .inr (9, [.ref h1, .ref h2, .int x0, .int x1, .int x2, .int x3])), (h1, .inl (y0, 3, .inl f0))] sz) [(h0, .inr (9, [.ref h1, .ref h2, .int x0, .int x1, .int x2, .int x3])), (h1, .inl (y0, 3, .inl f0))]) (va_A [(h0, .inr (9, [.ref h1, .ref h2, .int x0, .int x1, .int x2, .int x3])), (h1, .inl (y0, 3, .inl f0))] sz)) 0 0 (va_A [(h0, .inr (9, [.ref h1, .ref h2, .int x0, .int x1, .int x2, .int x3])), (h1, .inl (y0, 3, .inl f0))] sz) := by
  refine Met.ofW (cc := cX9_firstRequests) (maxL := 1) (ret := (some .boolean)) (by decide) rfl ?_
  intro p e s m args below meth c s₁ B hml hv
  obtain ⟨rfl, hsz, hP, hK, hD0⟩ := hv
  have hx := B.exec
  have hb := B.bytes
  have hr := B.returns
  have hts0 := atoms_spec (ws := Cond.code yX9_firstRequests cX9_firstRequests 1 (some .boolean) :: lw_G) B.pre
  have hG : ∀ w ∈ lw_G, w.before _ s = true := fun w h => hts0 w (List.mem_cons_of_mem _ h)
  have hown : s.vm.findClass RX9 = some m.cls := findClass_of_methodNamed B.named
  have hlocks := B.notSynchronized
  subst hsz
  have hD := hD0.self (sz := s.heap.size)
  generalize hAe : va_A [(h0, .inr (9, [.ref h1, .ref h2, .int x0, .int x1, .int x2, .int x3])), (h1, .inl (y0, 3, .inl f0))] s.heap.size = A at hD ⊢
  have hA : ∀ q : Nat, s.heap.size ≤ q → A q := fun q h => by rw [← hAe]; exact Or.inr h
  have hS : va_S A s.heap s.heap [] := va_S.rf
  have hP : va_P (dC, dI) vwCl [(h0, .inr (9, [.ref h1, .ref h2, .int x0, .int x1, .int x2, .int x3])), (h1, .inl (y0, 3, .inl f0))] s.heap := hP
  have hl := lv_entry ([.ref h0]) (n := 1) (Nat.le_of_ble_eq_true rfl)
  rw [lg_entry_eq]
  generalize (lg_sl ([.ref h0]) ++ List.replicate (1 - (lg_sl ([.ref h0])).length) Slot.unset).toArray = ls at hl ⊢
  have hl : lv_has ls 1 [(0, .ref h0)] := hl
  generalize ([.ref h0] : List Value).toArray = ar at hG ⊢
  refine wq (fun Q hQ => ?_)
  refine lv_aload_n hx hb dX9_firstRequests_0 rfl (lv_at hl 0 rfl) ?_
  refine va_get (D := (dC, dI)) (ci := 9) (v := .ref h1) (C := RX9) (T := TX9) (N := 6) hx hb hG inGX9 hown hK hP 0 rfl rfl 0 (by decide) (hG _ wd_95) (fun _ h9 => h9) rfl dX9_firstRequests_1 ?_
  refine lv_iconst (v := 0) hx hb dX9_firstRequests_4 (by decide) ?_
  refine va_iald hx hb hK hP 1 0 rfl rfl (iv_in (by decide : iv 0 0 0) (by decide) (by decide) : vp_in 0 3) dX9_firstRequests_5 ?_
  refine lv_topi (fun v1 ev1 => ?_)
  refine lv_bipush (v := 17) hx hb dX9_firstRequests_6 (by decide) ?_
  refine jcut (a := ∀ (b3 : Int32) (ib3 : iv b3 0 1) (H : Heap) (locs : List Loc) (hK : va_K (dC, dI) vwCl [(y0, .int)] s) (hP : va_P (dC, dI) vwCl [(h0, .inr (9, [.ref h1, .ref h2, .int x0, .int x1, .int x2, .int x3])), (h1, .inl (y0, 3, .inl f0))] H) (hD : va_D A [(h0, .inr (9, [.ref h1, .ref h2, .int x0, .int x1, .int x2, .int x3])), (h1, .inl (y0, 3, .inl f0))]) (hS : va_S A s.heap H locs) (ls : Array Slot) (hl : lv_has ls 1 []), W p l e (headSpec (Cond.code yX9_firstRequests cX9_firstRequests 1 (some .boolean) :: lw_G) ({ frames := 0, cells := 0, slots := 0, locals := 0 })).room s m ar below meth c H locs 0 0 Q (F0 m 16 ls [.int b3])) ?_ (fun j4 => ?_)
  · skip
    intro b3 ib3 H locs hK hP hD hS ls hl
    rw [hQ]
    obtain ⟨hP9, hD9⟩ := nv_sub2 (wc := [(h0, .inr (9, [.ref h1, .ref h2, .int x0, .int x1, .int x2, .int x3])), (h1, .inl (y0, 3, .inl f0))]) hP hD [0, 1] (by decide) rfl
    have hK9 := hK.sub (tys' := [(y0, .int)]) [0] rfl
    exact W.zret (v := b3) hx hb hr (iv_z (iv_w ib3 (by decide) (by decide))).1 (fun t ht hW => ⟨⟨b3, (), rfl, ⟨iv_w ib3 (by decide) (by decide), trivial⟩, by rw [ht]; exact hP9, va_K.moved hW.alike hK9, hD9⟩, hS.F ht⟩) hS.2.2 dX9_firstRequests_16
  refine lv_icmp_ne (tgt := 15) hx hb dX9_firstRequests_8 (by decide) (fun c2 => ?_) (fun c2 => ?_)
  · skip
    refine lv_iconst (v := 0) hx hb dX9_firstRequests_15 (by decide) ?_
    exact j4 0 (iv_w (by decide : iv 0 0 0) (by decide) (by decide)) _ _ hK hP hD hS ls (lv_sub hl [] rfl)
  · skip
    subst c2
    refine lv_iconst (v := 1) hx hb dX9_firstRequests_11 (by decide) ?_
    refine lv_goto (tgt := 16) hx hb dX9_firstRequests_12 (by decide) ?_
    exact j4 1 (iv_w (by decide : iv 1 1 1) (by decide) (by decide)) _ _ hK hP hD hS ls (lv_sub hl [] rfl)
set_option maxHeartbeats 100000000 in
set_option maxRecDepth 100000 in
theorem cX7_requests_1 (l : Launch) (dC : Nat → ClassId) (dI : Nat → Nat → Nat) (h0 : Nat) (sz : Nat) (x0 x1 x2 x3 x4 : Int32) : Met l yX7_requests (Cond.code yX7_requests cX7_requests 1 (some .boolean) :: lw_G) ({ frames := 0, cells := 0, slots := 0, locals := 0 }) (va_Pc [.ref h0] (fun U => U.heap.size = sz ∧ va_P (dC, dI) vwCl [(h0, .inr (7, [.int x0, .int x1, .int x2, .int x3, .int x4]))] U.heap ∧ va_K (dC, dI) vwCl [] U ∧ va_D (fun _ => True) [(h0, .inr (7, [.int x0, .int x1, .int x2, .int x3, .int x4]))])) (va_Qi (fun (r : Int32) (u : Unit) => iv r 0 1 ∧ True) (fun (u : Unit) (t : State) => va_P (dC, dI) vwCl [(h0, .inr (7, [.int x0, .int x1, .int x2, .int x3, .int x4]))] t.heap ∧ va_K (dC, dI) vwCl [] t ∧ va_D (va_A [(h0, .inr (7, [.int x0, .int x1, .int x2, .int x3, .int x4]))] sz) [(h0, .inr (7, [.int x0, .int x1, .int x2, .int x3, .int x4]))]) (va_A [(h0, .inr (7, [.int x0, .int x1, .int x2, .int x3, .int x4]))] sz)) 0 0 (va_A [(h0, .inr (7, [.int x0, .int x1, .int x2, .int x3, .int x4]))] sz) := by
  refine Met.ofW (cc := cX7_requests) (maxL := 1) (ret := (some .boolean)) (by decide) rfl ?_
  intro p e s m args below meth c s₁ B hml hv
  obtain ⟨rfl, hsz, hP, hK, hD0⟩ := hv
  have hx := B.exec
  have hb := B.bytes
  have hr := B.returns
  have hts0 := atoms_spec (ws := Cond.code yX7_requests cX7_requests 1 (some .boolean) :: lw_G) B.pre
  have hG : ∀ w ∈ lw_G, w.before _ s = true := fun w h => hts0 w (List.mem_cons_of_mem _ h)
  have hown : s.vm.findClass RX7 = some m.cls := findClass_of_methodNamed B.named
  have hlocks := B.notSynchronized
  subst hsz
  have hD := hD0.self (sz := s.heap.size)
  generalize hAe : va_A [(h0, .inr (7, [.int x0, .int x1, .int x2, .int x3, .int x4]))] s.heap.size = A at hD ⊢
  have hA : ∀ q : Nat, s.heap.size ≤ q → A q := fun q h => by rw [← hAe]; exact Or.inr h
  have hS : va_S A s.heap s.heap [] := va_S.rf
  have hP : va_P (dC, dI) vwCl [(h0, .inr (7, [.int x0, .int x1, .int x2, .int x3, .int x4]))] s.heap := hP
  have hl := lv_entry ([.ref h0]) (n := 1) (Nat.le_of_ble_eq_true rfl)
  rw [lg_entry_eq]
  generalize (lg_sl ([.ref h0]) ++ List.replicate (1 - (lg_sl ([.ref h0])).length) Slot.unset).toArray = ls at hl ⊢
  have hl : lv_has ls 1 [(0, .ref h0)] := hl
  generalize ([.ref h0] : List Value).toArray = ar at hG ⊢
  refine wq (fun Q hQ => ?_)
  refine lv_aload_n hx hb dX7_requests_0 rfl (lv_at hl 0 rfl) ?_
  refine va_get (D := (dC, dI)) (ci := 7) (v := .int x2) (C := RX7) (T := TX7) (N := 5) hx hb hG inGX7 hown hK hP 0 rfl rfl 2 (by decide) (hG _ wd_49) (fun _ h9 => h9) rfl dX7_requests_1 ?_
  refine lv_aload_n hx hb dX7_requests_4 rfl (lv_at hl 0 rfl) ?_
  refine va_get (D := (dC, dI)) (ci := 7) (v := .int x4) (C := RX7) (T := TX7) (N := 5) hx hb hG inGX7 hown hK hP 0 rfl rfl 4 (by decide) (hG _ wd_51) (fun _ h9 => h9) rfl dX7_requests_5 ?_
  refine lv_iand hx hb dX7_requests_8 ?_
  refine lv_topi (fun v1 ev1 => ?_)
  refine jcut (a := ∀ (b3 : Int32) (ib3 : iv b3 0 1) (H : Heap) (locs : List Loc) (hK : va_K (dC, dI) vwCl [] s) (hP : va_P (dC, dI) vwCl [(h0, .inr (7, [.int x0, .int x1, .int x2, .int x3, .int x4]))] H) (hD : va_D A [(h0, .inr (7, [.int x0, .int x1, .int x2, .int x3, .int x4]))]) (hS : va_S A s.heap H locs) (ls : Array Slot) (hl : lv_has ls 1 []), W p l e (headSpec (Cond.code yX7_requests cX7_requests 1 (some .boolean) :: lw_G) ({ frames := 0, cells := 0, slots := 0, locals := 0 })).room s m ar below meth c H locs 0 0 Q (F0 m 17 ls [.int b3])) ?_ (fun j4 => ?_)
  · skip
    intro b3 ib3 H locs hK hP hD hS ls hl
    rw [hQ]
    obtain ⟨hP9, hD9⟩ := nv_sub2 (wc := [(h0, .inr (7, [.int x0, .int x1, .int x2, .int x3, .int x4]))]) hP hD [0] (by decide) rfl
    have hK9 := hK.sub (tys' := []) [] rfl
    exact W.zret (v := b3) hx hb hr (iv_z (iv_w ib3 (by decide) (by decide))).1 (fun t ht hW => ⟨⟨b3, (), rfl, ⟨iv_w ib3 (by decide) (by decide), trivial⟩, by rw [ht]; exact hP9, va_K.moved hW.alike hK9, hD9⟩, hS.F ht⟩) hS.2.2 dX7_requests_17
  refine lv_if_eq (tgt := 16) hx hb dX7_requests_9 (by decide) (fun c2 => ?_) (fun c2 => ?_)
  · skip
    subst c2
    refine lv_iconst (v := 0) hx hb dX7_requests_16 (by decide) ?_
    exact j4 0 (iv_w (by decide : iv 0 0 0) (by decide) (by decide)) _ _ hK hP hD hS ls (lv_sub hl [] rfl)
  · skip
    refine lv_iconst (v := 1) hx hb dX7_requests_12 (by decide) ?_
    refine lv_goto (tgt := 17) hx hb dX7_requests_13 (by decide) ?_
    exact j4 1 (iv_w (by decide : iv 1 1 1) (by decide) (by decide)) _ _ hK hP hD hS ls (lv_sub hl [] rfl)
set_option maxHeartbeats 100000000 in
set_option maxRecDepth 100000 in
theorem cX2_request_1 (l : Launch) (dC : Nat → ClassId) (dI : Nat → Nat → Nat) (h0 h1 h2 h3 h4 h5 h6 h7 h8 h9 : Nat) (y0 : ClassId) (sz : Nat) (x0 x1 x2 x3 x4 x5 x6 x7 x8 x9 x10 x11 x12 x13 : Int32) (f0 : Nat → Int32) (ix4 : iv x4 0 1) (ix8 : iv x8 0 1) : Met l yX2_request (Cond.code yX2_request cX2_request 1 (some .int) :: lw_G) ({ frames := 1, cells := 0, slots := 0, locals := 20 }) (va_Pc [.ref h0] (fun U => U.heap.size = sz ∧ va_P (dC, dI) vwCl [(h0, .inr (2, [.ref h1, .ref h2, .ref h3, .int x0, .int x1, .int x2, .int x3, .int x4])), (h3, .inr (1, [.ref h4, .ref h5, .ref h6, .ref h7])), (h7, .inr (9, [.ref h8, .ref h9, .int x5, .int x6, .int x7, .int x8])), (h8, .inl (y0, 3, .inl f0)), (h5, .inr (7, [.int x9, .int x10, .int x11, .int x12, .int x13]))] U.heap ∧ va_K (dC, dI) vwCl [(y0, .int)] U ∧ va_D (fun _ => True) [(h0, .inr (2, [.ref h1, .ref h2, .ref h3, .int x0, .int x1, .int x2, .int x3, .int x4])), (h3, .inr (1, [.ref h4, .ref h5, .ref h6, .ref h7])), (h7, .inr (9, [.ref h8, .ref h9, .int x5, .int x6, .int x7, .int x8])), (h8, .inl (y0, 3, .inl f0)), (h5, .inr (7, [.int x9, .int x10, .int x11, .int x12, .int x13]))])) (va_Qi (fun (r : Int32) (u : Unit) => iv r 0 65522 ∧ True) (fun (u : Unit) (t : State) => va_P (dC, dI) vwCl [(h0, .inr (2, [.ref h1, .ref h2, .ref h3, .int x0, .int x1, .int x2, .int x3, .int x4])), (h3, .inr (1, [.ref h4, .ref h5, .ref h6, .ref h7])), (h7, .inr (9, [.ref h8, .ref h9, .int x5, .int x6, .int x7, .int x8])), (h8, .inl (y0, 3, .inl f0)), (h5, .inr (7, [.int x9, .int x10, .int x11, .int x12, .int x13]))] t.heap ∧ va_K (dC, dI) vwCl [(y0, .int)] t ∧ va_D (va_A [(h0, .inr (2, [.ref h1, .ref h2, .ref h3, .int x0, .int x1, .int x2, .int x3, .int x4])), (h3, .inr (1, [.ref h4, .ref h5, .ref h6, .ref h7])), (h7, .inr (9, [.ref h8, .ref h9, .int x5, .int x6, .int x7, .int x8])), (h8, .inl (y0, 3, .inl f0)), (h5, .inr (7, [.int x9, .int x10, .int x11, .int x12, .int x13]))] sz) [(h0, .inr (2, [.ref h1, .ref h2, .ref h3, .int x0, .int x1, .int x2, .int x3, .int x4])), (h3, .inr (1, [.ref h4, .ref h5, .ref h6, .ref h7])), (h7, .inr (9, [.ref h8, .ref h9, .int x5, .int x6, .int x7, .int x8])), (h8, .inl (y0, 3, .inl f0)), (h5, .inr (7, [.int x9, .int x10, .int x11, .int x12, .int x13]))]) (va_A [(h0, .inr (2, [.ref h1, .ref h2, .ref h3, .int x0, .int x1, .int x2, .int x3, .int x4])), (h3, .inr (1, [.ref h4, .ref h5, .ref h6, .ref h7])), (h7, .inr (9, [.ref h8, .ref h9, .int x5, .int x6, .int x7, .int x8])), (h8, .inl (y0, 3, .inl f0)), (h5, .inr (7, [.int x9, .int x10, .int x11, .int x12, .int x13]))] sz)) 0 0 (va_A [(h0, .inr (2, [.ref h1, .ref h2, .ref h3, .int x0, .int x1, .int x2, .int x3, .int x4])), (h3, .inr (1, [.ref h4, .ref h5, .ref h6, .ref h7])), (h7, .inr (9, [.ref h8, .ref h9, .int x5, .int x6, .int x7, .int x8])), (h8, .inl (y0, 3, .inl f0)), (h5, .inr (7, [.int x9, .int x10, .int x11, .int x12, .int x13]))] sz) := by
  refine Met.ofW (cc := cX2_request) (maxL := 1) (ret := (some .int)) (by decide) rfl ?_
  intro p e s m args below meth c s₁ B hml hv
  obtain ⟨rfl, hsz, hP, hK, hD0⟩ := hv
  have hx := B.exec
  have hb := B.bytes
  have hr := B.returns
  have hts0 := atoms_spec (ws := Cond.code yX2_request cX2_request 1 (some .int) :: lw_G) B.pre
  have hG : ∀ w ∈ lw_G, w.before _ s = true := fun w h => hts0 w (List.mem_cons_of_mem _ h)
  have hown : s.vm.findClass RX2 = some m.cls := findClass_of_methodNamed B.named
  have hlocks := B.notSynchronized
  subst hsz
  have hD := hD0.self (sz := s.heap.size)
  generalize hAe : va_A [(h0, .inr (2, [.ref h1, .ref h2, .ref h3, .int x0, .int x1, .int x2, .int x3, .int x4])), (h3, .inr (1, [.ref h4, .ref h5, .ref h6, .ref h7])), (h7, .inr (9, [.ref h8, .ref h9, .int x5, .int x6, .int x7, .int x8])), (h8, .inl (y0, 3, .inl f0)), (h5, .inr (7, [.int x9, .int x10, .int x11, .int x12, .int x13]))] s.heap.size = A at hD ⊢
  have hA : ∀ q : Nat, s.heap.size ≤ q → A q := fun q h => by rw [← hAe]; exact Or.inr h
  have hS : va_S A s.heap s.heap [] := va_S.rf
  have hP : va_P (dC, dI) vwCl [(h0, .inr (2, [.ref h1, .ref h2, .ref h3, .int x0, .int x1, .int x2, .int x3, .int x4])), (h3, .inr (1, [.ref h4, .ref h5, .ref h6, .ref h7])), (h7, .inr (9, [.ref h8, .ref h9, .int x5, .int x6, .int x7, .int x8])), (h8, .inl (y0, 3, .inl f0)), (h5, .inr (7, [.int x9, .int x10, .int x11, .int x12, .int x13]))] s.heap := hP
  have hl := lv_entry ([.ref h0]) (n := 1) (Nat.le_of_ble_eq_true rfl)
  rw [lg_entry_eq]
  generalize (lg_sl ([.ref h0]) ++ List.replicate (1 - (lg_sl ([.ref h0])).length) Slot.unset).toArray = ls at hl ⊢
  have hl : lv_has ls 1 [(0, .ref h0)] := hl
  generalize ([.ref h0] : List Value).toArray = ar at hG ⊢
  refine wq (fun Q hQ => ?_)
  refine lv_aload_n hx hb dX2_request_0 rfl (lv_at hl 0 rfl) ?_
  refine va_get (D := (dC, dI)) (ci := 2) (v := .ref h3) (C := RX2) (T := TX2) (N := 8) hx hb hG inGX2 hown hK hP 0 rfl rfl 2 (by decide) (hG _ wd_151) (fun _ h9 => h9) rfl dX2_request_1 ?_
  obtain ⟨hPc, hDc, hFc⟩ := nv_sub3 (wc := [(h3, .inr (1, [.ref h4, .ref h5, .ref h6, .ref h7]))]) hP hD hS hA [1] (by decide) rfl
  have hKc := hK.sub (tys' := []) [] rfl
  refine va_callr (va_runV (As := []) (rest := []) ⟨hx, hb, hml, hown, hG⟩ (cX1_timer_1 l dC dI h3 h4 h5 h6 h7 s.heap.size) (cwV 0 hG (gV wd_973 wd_974 wd_975 wd_2 wd_976) rfl rfl rfl (by decide +kernel) ⟨Nat.le_of_ble_eq_true rfl, Nat.le_of_ble_eq_true rfl⟩) ⟨fun a U g mk q => by obtain ⟨q0, q1, qP, qK, qD⟩ := q; exact ⟨q0, q1, qP, va_K.moved (u := U) (U := U.calling g mk a) (Vm.Alike.refl U.vm) qK, qD⟩, va_recv hKc hPc (ci := 1) (q0 := 0) rfl rfl, fun U hU hW => ⟨rfl, by rw [hU], by rw [hU]; exact hPc, va_K.moved hW.alike hKc, hDc.weaken (fun _ _ _ _ => trivial)⟩⟩ rfl rfl hl.1 rfl (lv_room (Nat.le_of_ble_eq_true rfl)) dX2_request_4 ⟨by decide, by decide⟩) hS (fun q _ h => hFc q h) hFc (fun u2 r1a t H1 locs ht hvm hw hB hz1 hk1 hS => ?_)
  obtain ⟨hra, hP1, hK1, hD1⟩ := hB
  rw [ht] at hP1
  have hK1 := va_K.moved hvm.symm hK1
  obtain ⟨hP, hD⟩ := nv_join (wf := [(h0, .inr (2, [.ref h1, .ref h2, .ref h3, .int x0, .int x1, .int x2, .int x3, .int x4])), (h7, .inr (9, [.ref h8, .ref h9, .int x5, .int x6, .int x7, .int x8])), (h8, .inl (y0, 3, .inl f0)), (h5, .inr (7, [.int x9, .int x10, .int x11, .int x12, .int x13])), (h3, .inr (1, [.ref h4, .ref h5, .ref h6, .ref h7]))]) hP hD [1] [0, 2, 3, 4] rfl rfl (by decide) (by decide) hk1 hFc hP1 hD1 rfl
  have hK := (hK.sub (tys' := [(y0, .int)]) [0] rfl).app hK1
  generalize H1 = H at hP hS ⊢
  have hK : va_K (dC, dI) vwCl [(y0, .int)] s := hK
  rw [hra]
  obtain ⟨hPc, hDc, hFc⟩ := nv_sub3 (wc := [(h7, .inr (9, [.ref h8, .ref h9, .int x5, .int x6, .int x7, .int x8])), (h8, .inl (y0, 3, .inl f0))]) hP hD hS hA [1, 2] (by decide) rfl
  have hKc := hK.sub (tys' := [(y0, .int)]) [0] rfl
  refine va_calli (va_runV (As := []) (rest := []) ⟨hx, hb, hml, hown, hG⟩ (cX9_firstRequests_1 l dC dI h7 h8 h9 y0 H.size x5 x6 x7 x8 f0 ix8) (cwV 0 hG (gV wd_977 wd_978 wd_979 wd_5 wd_980) rfl rfl rfl (by decide +kernel) ⟨Nat.le_of_ble_eq_true rfl, Nat.le_of_ble_eq_true rfl⟩) ⟨fun a U g mk q => by obtain ⟨q0, q1, qP, qK, qD⟩ := q; exact ⟨q0, q1, qP, va_K.moved (u := U) (U := U.calling g mk a) (Vm.Alike.refl U.vm) qK, qD⟩, va_recv hKc hPc (ci := 9) (q0 := 0) rfl rfl, fun U hU hW => ⟨rfl, by rw [hU], by rw [hU]; exact hPc, va_K.moved hW.alike hKc, hDc.weaken (fun _ _ _ _ => trivial)⟩⟩ rfl rfl hl.1 rfl (lv_room (Nat.le_of_ble_eq_true rfl)) dX2_request_7 ⟨by decide, by decide⟩) hS (fun q _ h => hFc q h) hFc (fun r3 u4 t H1 locs ht hvm hw hB hz1 hk1 hS => ?_)
  have hw : iv r3 0 1 ∧ True := hw
  obtain ⟨ir3, -⟩ := hw
  obtain ⟨hP1, hK1, hD1⟩ := hB
  rw [ht] at hP1
  have hK1 := va_K.moved hvm.symm hK1
  obtain ⟨hP, hD⟩ := nv_join (wf := [(h0, .inr (2, [.ref h1, .ref h2, .ref h3, .int x0, .int x1, .int x2, .int x3, .int x4])), (h5, .inr (7, [.int x9, .int x10, .int x11, .int x12, .int x13])), (h3, .inr (1, [.ref h4, .ref h5, .ref h6, .ref h7])), (h7, .inr (9, [.ref h8, .ref h9, .int x5, .int x6, .int x7, .int x8])), (h8, .inl (y0, 3, .inl f0))]) hP hD [1, 2] [0, 3, 4] rfl rfl (by decide) (by decide) hk1 hFc hP1 hD1 rfl
  have hK := (hK.sub (tys' := []) [] rfl).app hK1
  generalize H1 = H at hP hS ⊢
  have hK : va_K (dC, dI) vwCl [(y0, .int)] s := hK
  refine lv_if_eq (tgt := 16) hx hb dX2_request_10 (by decide) (fun c5 => ?_) (fun c5 => ?_)
  · skip
    subst c5
    refine lv_aload_n hx hb dX2_request_16 rfl (lv_at hl 0 rfl) ?_
    refine va_get (D := (dC, dI)) (ci := 2) (v := .ref h3) (C := RX2) (T := TX2) (N := 8) hx hb hG inGX2 hown hK hP 0 rfl rfl 2 (by decide) (hG _ wd_151) (fun _ h9 => h9) rfl dX2_request_17 ?_
    obtain ⟨hPc, hDc, hFc⟩ := nv_sub3 (wc := [(h3, .inr (1, [.ref h4, .ref h5, .ref h6, .ref h7]))]) hP hD hS hA [2] (by decide) rfl
    have hKc := hK.sub (tys' := []) [] rfl
    refine va_callr (va_runV (As := []) (rest := []) ⟨hx, hb, hml, hown, hG⟩ (cX1_timer_1 l dC dI h3 h4 h5 h6 h7 H.size) (cwV 0 hG (gV wd_973 wd_974 wd_975 wd_2 wd_976) rfl rfl rfl (by decide +kernel) ⟨Nat.le_of_ble_eq_true rfl, Nat.le_of_ble_eq_true rfl⟩) ⟨fun a U g mk q => by obtain ⟨q0, q1, qP, qK, qD⟩ := q; exact ⟨q0, q1, qP, va_K.moved (u := U) (U := U.calling g mk a) (Vm.Alike.refl U.vm) qK, qD⟩, va_recv hKc hPc (ci := 1) (q0 := 0) rfl rfl, fun U hU hW => ⟨rfl, by rw [hU], by rw [hU]; exact hPc, va_K.moved hW.alike hKc, hDc.weaken (fun _ _ _ _ => trivial)⟩⟩ rfl rfl hl.1 rfl (lv_room (Nat.le_of_ble_eq_true rfl)) dX2_request_20 ⟨by decide, by decide⟩) hS (fun q _ h => hFc q h) hFc (fun u7 r6a t H1 locs ht hvm hw hB hz1 hk1 hS => ?_)
    obtain ⟨hra, hP1, hK1, hD1⟩ := hB
    rw [ht] at hP1
    have hK1 := va_K.moved hvm.symm hK1
    obtain ⟨hP, hD⟩ := nv_join (wf := [(h0, .inr (2, [.ref h1, .ref h2, .ref h3, .int x0, .int x1, .int x2, .int x3, .int x4])), (h5, .inr (7, [.int x9, .int x10, .int x11, .int x12, .int x13])), (h7, .inr (9, [.ref h8, .ref h9, .int x5, .int x6, .int x7, .int x8])), (h8, .inl (y0, 3, .inl f0)), (h3, .inr (1, [.ref h4, .ref h5, .ref h6, .ref h7]))]) hP hD [2] [0, 1, 3, 4] rfl rfl (by decide) (by decide) hk1 hFc hP1 hD1 rfl
    have hK := (hK.sub (tys' := [(y0, .int)]) [0] rfl).app hK1
    generalize H1 = H at hP hS ⊢
    have hK : va_K (dC, dI) vwCl [(y0, .int)] s := hK
    rw [hra]
    obtain ⟨hPc, hDc, hFc⟩ := nv_sub3 (wc := [(h7, .inr (9, [.ref h8, .ref h9, .int x5, .int x6, .int x7, .int x8])), (h8, .inl (y0, 3, .inl f0))]) hP hD hS hA [2, 3] (by decide) rfl
    have hKc := hK.sub (tys' := [(y0, .int)]) [0] rfl
    refine va_calli (va_runV (As := []) (rest := []) ⟨hx, hb, hml, hown, hG⟩ (cX9_vector_1 l dC dI h7 h8 h9 y0 H.size x5 x6 x7 x8 f0 ix8) (cwV 0 hG (gV wd_982 wd_729 wd_730 wd_5 wd_731) rfl rfl rfl (by decide +kernel) ⟨Nat.le_of_ble_eq_true rfl, Nat.le_of_ble_eq_true rfl⟩) ⟨fun a U g mk q => by obtain ⟨q0, q1, qP, qK, qD⟩ := q; exact ⟨q0, q1, qP, va_K.moved (u := U) (U := U.calling g mk a) (Vm.Alike.refl U.vm) qK, qD⟩, va_recv hKc hPc (ci := 9) (q0 := 0) rfl rfl, fun U hU hW => ⟨rfl, by rw [hU], by rw [hU]; exact hPc, va_K.moved hW.alike hKc, hDc.weaken (fun _ _ _ _ => trivial)⟩⟩ rfl rfl hl.1 rfl (lv_room (Nat.le_of_ble_eq_true rfl)) dX2_request_23 ⟨by decide, by decide⟩) hS (fun q _ h => hFc q h) hFc (fun r8 u9 t H1 locs ht hvm hw hB hz1 hk1 hS => ?_)
    have hw : iv r8 0 10 ∧ True := hw
    obtain ⟨ir8, -⟩ := hw
    obtain ⟨hP1, hK1, hD1⟩ := hB
    rw [ht] at hP1
    have hK1 := va_K.moved hvm.symm hK1
    obtain ⟨hP, hD⟩ := nv_join (wf := [(h0, .inr (2, [.ref h1, .ref h2, .ref h3, .int x0, .int x1, .int x2, .int x3, .int x4])), (h5, .inr (7, [.int x9, .int x10, .int x11, .int x12, .int x13])), (h3, .inr (1, [.ref h4, .ref h5, .ref h6, .ref h7])), (h7, .inr (9, [.ref h8, .ref h9, .int x5, .int x6, .int x7, .int x8])), (h8, .inl (y0, 3, .inl f0))]) hP hD [2, 3] [0, 1, 4] rfl rfl (by decide) (by decide) hk1 hFc hP1 hD1 rfl
    have hK := (hK.sub (tys' := []) [] rfl).app hK1
    generalize H1 = H at hP hS ⊢
    have hK : va_K (dC, dI) vwCl [(y0, .int)] s := hK
    refine lv_if_eq (tgt := 32) hx hb dX2_request_26 (by decide) (fun c10 => ?_) (fun c10 => ?_)
    · skip
      subst c10
      refine lv_aload_n hx hb dX2_request_32 rfl (lv_at hl 0 rfl) ?_
      refine va_get (D := (dC, dI)) (ci := 2) (v := .ref h3) (C := RX2) (T := TX2) (N := 8) hx hb hG inGX2 hown hK hP 0 rfl rfl 2 (by decide) (hG _ wd_151) (fun _ h9 => h9) rfl dX2_request_33 ?_
      obtain ⟨hPc, hDc, hFc⟩ := nv_sub3 (wc := [(h3, .inr (1, [.ref h4, .ref h5, .ref h6, .ref h7]))]) hP hD hS hA [2] (by decide) rfl
      have hKc := hK.sub (tys' := []) [] rfl
      refine va_callr (va_runV (As := []) (rest := []) ⟨hx, hb, hml, hown, hG⟩ (cX1_port_1 l dC dI h3 h4 h5 h6 h7 H.size) (cwV 0 hG (gV wd_957 wd_958 wd_959 wd_2 wd_960) rfl rfl rfl (by decide +kernel) ⟨Nat.le_of_ble_eq_true rfl, Nat.le_of_ble_eq_true rfl⟩) ⟨fun a U g mk q => by obtain ⟨q0, q1, qP, qK, qD⟩ := q; exact ⟨q0, q1, qP, va_K.moved (u := U) (U := U.calling g mk a) (Vm.Alike.refl U.vm) qK, qD⟩, va_recv hKc hPc (ci := 1) (q0 := 0) rfl rfl, fun U hU hW => ⟨rfl, by rw [hU], by rw [hU]; exact hPc, va_K.moved hW.alike hKc, hDc.weaken (fun _ _ _ _ => trivial)⟩⟩ rfl rfl hl.1 rfl (lv_room (Nat.le_of_ble_eq_true rfl)) dX2_request_36 ⟨by decide, by decide⟩) hS (fun q _ h => hFc q h) hFc (fun u12 r11a t H1 locs ht hvm hw hB hz1 hk1 hS => ?_)
      obtain ⟨hra, hP1, hK1, hD1⟩ := hB
      rw [ht] at hP1
      have hK1 := va_K.moved hvm.symm hK1
      obtain ⟨hP, hD⟩ := nv_join (wf := [(h0, .inr (2, [.ref h1, .ref h2, .ref h3, .int x0, .int x1, .int x2, .int x3, .int x4])), (h5, .inr (7, [.int x9, .int x10, .int x11, .int x12, .int x13])), (h7, .inr (9, [.ref h8, .ref h9, .int x5, .int x6, .int x7, .int x8])), (h8, .inl (y0, 3, .inl f0)), (h3, .inr (1, [.ref h4, .ref h5, .ref h6, .ref h7]))]) hP hD [2] [0, 1, 3, 4] rfl rfl (by decide) (by decide) hk1 hFc hP1 hD1 rfl
      have hK := (hK.sub (tys' := [(y0, .int)]) [0] rfl).app hK1
      generalize H1 = H at hP hS ⊢
      have hK : va_K (dC, dI) vwCl [(y0, .int)] s := hK
      rw [hra]
      obtain ⟨hPc, hDc, hFc⟩ := nv_sub3 (wc := [(h5, .inr (7, [.int x9, .int x10, .int x11, .int x12, .int x13]))]) hP hD hS hA [1] (by decide) rfl
      have hKc := hK.sub (tys' := []) [] rfl
      refine va_calli (va_runV (As := []) (rest := []) ⟨hx, hb, hml, hown, hG⟩ (cX7_requests_1 l dC dI h5 H.size x9 x10 x11 x12 x13) (cwV 0 hG (gV wd_984 wd_985 wd_986 wd_3 wd_987) rfl rfl rfl (by decide +kernel) ⟨Nat.le_of_ble_eq_true rfl, Nat.le_of_ble_eq_true rfl⟩) ⟨fun a U g mk q => by obtain ⟨q0, q1, qP, qK, qD⟩ := q; exact ⟨q0, q1, qP, va_K.moved (u := U) (U := U.calling g mk a) (Vm.Alike.refl U.vm) qK, qD⟩, va_recv hKc hPc (ci := 7) (q0 := 0) rfl rfl, fun U hU hW => ⟨rfl, by rw [hU], by rw [hU]; exact hPc, va_K.moved hW.alike hKc, hDc.weaken (fun _ _ _ _ => trivial)⟩⟩ rfl rfl hl.1 rfl (lv_room (Nat.le_of_ble_eq_true rfl)) dX2_request_39 ⟨by decide, by decide⟩) hS (fun q _ h => hFc q h) hFc (fun r13 u14 t H1 locs ht hvm hw hB hz1 hk1 hS => ?_)
      have hw : iv r13 0 1 ∧ True := hw
      obtain ⟨ir13, -⟩ := hw
      obtain ⟨hP1, hK1, hD1⟩ := hB
      rw [ht] at hP1
      have hK1 := va_K.moved hvm.symm hK1
      obtain ⟨hP, hD⟩ := nv_join (wf := [(h0, .inr (2, [.ref h1, .ref h2, .ref h3, .int x0, .int x1, .int x2, .int x3, .int x4])), (h7, .inr (9, [.ref h8, .ref h9, .int x5, .int x6, .int x7, .int x8])), (h8, .inl (y0, 3, .inl f0)), (h3, .inr (1, [.ref h4, .ref h5, .ref h6, .ref h7])), (h5, .inr (7, [.int x9, .int x10, .int x11, .int x12, .int x13]))]) hP hD [1] [0, 2, 3, 4] rfl rfl (by decide) (by decide) hk1 hFc hP1 hD1 rfl
      have hK := (hK.sub (tys' := [(y0, .int)]) [0] rfl).app hK1
      generalize H1 = H at hP hS ⊢
      have hK : va_K (dC, dI) vwCl [(y0, .int)] s := hK
      refine jcut (a := ∀ (b17 : Int32) (ib17 : iv b17 0 65508) (H : Heap) (locs : List Loc) (hK : va_K (dC, dI) vwCl [(y0, .int)] s) (hP : va_P (dC, dI) vwCl [(h0, .inr (2, [.ref h1, .ref h2, .ref h3, .int x0, .int x1, .int x2, .int x3, .int x4])), (h7, .inr (9, [.ref h8, .ref h9, .int x5, .int x6, .int x7, .int x8])), (h8, .inl (y0, 3, .inl f0)), (h3, .inr (1, [.ref h4, .ref h5, .ref h6, .ref h7])), (h5, .inr (7, [.int x9, .int x10, .int x11, .int x12, .int x13]))] H) (hD : va_D A [(h0, .inr (2, [.ref h1, .ref h2, .ref h3, .int x0, .int x1, .int x2, .int x3, .int x4])), (h7, .inr (9, [.ref h8, .ref h9, .int x5, .int x6, .int x7, .int x8])), (h8, .inl (y0, 3, .inl f0)), (h3, .inr (1, [.ref h4, .ref h5, .ref h6, .ref h7])), (h5, .inr (7, [.int x9, .int x10, .int x11, .int x12, .int x13]))]) (hS : va_S A s.heap H locs) (ls : Array Slot) (hl : lv_has ls 1 []), W p l e (headSpec (Cond.code yX2_request cX2_request 1 (some .int) :: lw_G) ({ frames := 1, cells := 0, slots := 0, locals := 20 })).room s m ar below meth c H locs 0 0 Q (F0 m 51 ls [.int b17])) ?_ (fun j18 => ?_)
      · skip
        intro b17 ib17 H locs hK hP hD hS ls hl
        rw [hQ]
        obtain ⟨hP9, hD9⟩ := nv_sub2 (wc := [(h0, .inr (2, [.ref h1, .ref h2, .ref h3, .int x0, .int x1, .int x2, .int x3, .int x4])), (h3, .inr (1, [.ref h4, .ref h5, .ref h6, .ref h7])), (h7, .inr (9, [.ref h8, .ref h9, .int x5, .int x6, .int x7, .int x8])), (h8, .inl (y0, 3, .inl f0)), (h5, .inr (7, [.int x9, .int x10, .int x11, .int x12, .int x13]))]) hP hD [0, 3, 1, 2, 4] (by decide) rfl
        have hK9 := hK.sub (tys' := [(y0, .int)]) [0] rfl
        exact W.iret (v := b17) hx hb hr (fun t ht hW => ⟨⟨b17, (), rfl, ⟨iv_w ib17 (by decide) (by decide), trivial⟩, by rw [ht]; exact hP9, va_K.moved hW.alike hK9, hD9⟩, hS.F ht⟩) hS.2.2 dX2_request_51
      refine lv_if_eq (tgt := 50) hx hb dX2_request_42 (by decide) (fun c15 => ?_) (fun c15 => ?_)
      · skip
        subst c15
        refine lv_iconst (v := 0) hx hb dX2_request_50 (by decide) ?_
        exact j18 0 (iv_w (by decide : iv 0 0 0) (by decide) (by decide)) _ _ hK hP hD hS ls (lv_sub hl [] rfl)
      · skip
        have j19 : iv r13 1 1 := iv_neLo ir13 (by decide : iv 0 0 0) c15 (by decide)
        refine lv_ldc hx hb hown (hG _ wd_988) dX2_request_45 ?_
        refine lv_goto (tgt := 51) hx hb dX2_request_47 (by decide) ?_
        exact j18 65508 (iv_w (by decide : iv 65508 65508 65508) (by decide) (by decide)) _ _ hK hP hD hS ls (lv_sub hl [] rfl)
    · skip
      have j20 : iv r8 1 10 := iv_neLo ir8 (by decide : iv 0 0 0) c10 (by decide)
      refine lv_ldc hx hb hown (hG _ wd_983) dX2_request_29 ?_
      rw [hQ]
      obtain ⟨hP9, hD9⟩ := nv_sub2 (wc := [(h0, .inr (2, [.ref h1, .ref h2, .ref h3, .int x0, .int x1, .int x2, .int x3, .int x4])), (h3, .inr (1, [.ref h4, .ref h5, .ref h6, .ref h7])), (h7, .inr (9, [.ref h8, .ref h9, .int x5, .int x6, .int x7, .int x8])), (h8, .inl (y0, 3, .inl f0)), (h5, .inr (7, [.int x9, .int x10, .int x11, .int x12, .int x13]))]) hP hD [0, 2, 3, 4, 1] (by decide) rfl
      have hK9 := hK.sub (tys' := [(y0, .int)]) [0] rfl
      exact W.iret (v := 65520) hx hb hr (fun t ht hW => ⟨⟨65520, (), rfl, ⟨iv_w (by decide : iv 65520 65520 65520) (by decide) (by decide), trivial⟩, by rw [ht]; exact hP9, va_K.moved hW.alike hK9, hD9⟩, hS.F ht⟩) hS.2.2 dX2_request_31
  · skip
    have j21 : iv r3 1 1 := iv_neLo ir3 (by decide : iv 0 0 0) c5 (by decide)
    refine lv_ldc hx hb hown (hG _ wd_981) dX2_request_13 ?_
    rw [hQ]
    obtain ⟨hP9, hD9⟩ := nv_sub2 (wc := [(h0, .inr (2, [.ref h1, .ref h2, .ref h3, .int x0, .int x1, .int x2, .int x3, .int x4])), (h3, .inr (1, [.ref h4, .ref h5, .ref h6, .ref h7])), (h7, .inr (9, [.ref h8, .ref h9, .int x5, .int x6, .int x7, .int x8])), (h8, .inl (y0, 3, .inl f0)), (h5, .inr (7, [.int x9, .int x10, .int x11, .int x12, .int x13]))]) hP hD [0, 2, 3, 4, 1] (by decide) rfl
    have hK9 := hK.sub (tys' := [(y0, .int)]) [0] rfl
    exact W.iret (v := 65522) hx hb hr (fun t ht hW => ⟨⟨65522, (), rfl, ⟨iv_w (by decide : iv 65522 65522 65522) (by decide) (by decide), trivial⟩, by rw [ht]; exact hP9, va_K.moved hW.alike hK9, hD9⟩, hS.F ht⟩) hS.2.2 dX2_request_15
set_option maxHeartbeats 100000000 in
set_option maxRecDepth 100000 in
theorem cX2_isCode_1 (l : Launch) (dC : Nat → ClassId) (dI : Nat → Nat → Nat) (sz : Nat) (x0 : Int32) : Met l yX2_isCode (Cond.code yX2_isCode cX2_isCode 3 (some .boolean) :: lw_G) ({ frames := 0, cells := 0, slots := 0, locals := 0 }) (va_Pc [.int x0] (fun U => U.heap.size = sz ∧ va_P (dC, dI) vwCl [] U.heap ∧ va_K (dC, dI) vwCl [] U ∧ va_D (fun _ => True) [])) (va_Qi (fun (r : Int32) (u : Unit) => iv r 0 1 ∧ True) (fun (u : Unit) (t : State) => va_P (dC, dI) vwCl [] t.heap ∧ va_K (dC, dI) vwCl [] t ∧ va_D (va_A [] sz) []) (va_A [] sz)) 0 0 (va_A [] sz) := by
  refine Met.ofW (cc := cX2_isCode) (maxL := 3) (ret := (some .boolean)) (by decide) rfl ?_
  intro p e s m args below meth c s₁ B hml hv
  obtain ⟨rfl, hsz, hP, hK, hD0⟩ := hv
  have hx := B.exec
  have hb := B.bytes
  have hr := B.returns
  have hts0 := atoms_spec (ws := Cond.code yX2_isCode cX2_isCode 3 (some .boolean) :: lw_G) B.pre
  have hG : ∀ w ∈ lw_G, w.before _ s = true := fun w h => hts0 w (List.mem_cons_of_mem _ h)
  have hown : s.vm.findClass RX2 = some m.cls := findClass_of_methodNamed B.named
  have hlocks := B.notSynchronized
  subst hsz
  have hD := hD0.self (sz := s.heap.size)
  generalize hAe : va_A [] s.heap.size = A at hD ⊢
  have hA : ∀ q : Nat, s.heap.size ≤ q → A q := fun q h => by rw [← hAe]; exact Or.inr h
  have hS : va_S A s.heap s.heap [] := va_S.rf
  have hP : va_P (dC, dI) vwCl [] s.heap := hP
  have hl := lv_entry ([.int x0]) (n := 3) (Nat.le_of_ble_eq_true rfl)
  rw [lg_entry_eq]
  generalize (lg_sl ([.int x0]) ++ List.replicate (3 - (lg_sl ([.int x0])).length) Slot.unset).toArray = ls at hl ⊢
  have hl : lv_has ls 3 [(0, .int x0)] := hl
  generalize ([.int x0] : List Value).toArray = ar at hG ⊢
  refine wq (fun Q hQ => ?_)
  refine lv_iload_n hx hb dX2_isCode_0 rfl (lv_at hl 0 rfl) ?_
  refine lv_sipush (v := 8192) hx hb dX2_isCode_1 (by decide) ?_
  refine lv_icmp_lt (tgt := 9) hx hb dX2_isCode_4 (by decide) (fun c1 => ?_) (fun c1 => ?_)
  · skip
    have j2 : iv x0 (-2147483648) 8191 := iv_ltL (iv_any x0) (by decide : iv 8192 8192 8192) c1 (by decide)
    refine lv_iload_n hx hb dX2_isCode_9 rfl (lv_at hl 0 rfl) ?_
    refine lv_bipush (v := 10) hx hb dX2_isCode_10 (by decide) ?_
    refine lv_ishr hx hb dX2_isCode_12 ?_
    refine lv_topi (fun v3 ev3 => ?_)
    have iv3 : iv v3 (-2097152) 7 := iv_eq ev3 (iv_shr 10 (by decide) j2 (by decide) (by decide))
    refine lv_iconst (v := 4) hx hb dX2_isCode_13 (by decide) ?_
    refine lv_icmp_eq (tgt := 19) hx hb dX2_isCode_14 (by decide) (fun c4 => ?_) (fun c4 => ?_)
    · skip
      subst c4
      refine lv_iload_n hx hb dX2_isCode_19 rfl (lv_at hl 0 rfl) ?_
      refine lv_bipush (v := 7) hx hb dX2_isCode_20 (by decide) ?_
      refine lv_ishr hx hb dX2_isCode_22 ?_
      refine lv_topi (fun v5 ev5 => ?_)
      have iv5 : iv v5 (-16777216) 63 := iv_eq ev5 (iv_shr 7 (by decide) j2 (by decide) (by decide))
      refine lv_bipush (v := 7) hx hb dX2_isCode_23 (by decide) ?_
      refine lv_iand hx hb dX2_isCode_25 ?_
      refine lv_topi (fun v6 ev6 => ?_)
      have iv6 : iv v6 0 7 := iv_eq ev6 (iv_and (x := v5) (iv_w (by decide : iv 7 7 7) (by decide) (by decide) : iv 7 0 7))
      refine lv_istore_n (lv' := [(1, .int v6), (0, .int x0)]) hx hb dX2_isCode_26 rfl hl (by decide) rfl (fun ls hl => ?_)
      refine lv_iload_n hx hb dX2_isCode_27 rfl (lv_at hl 1 rfl) ?_
      refine lv_bipush (v := 64) hx hb dX2_isCode_28 (by decide) ?_
      refine lv_iand hx hb dX2_isCode_30 ?_
      refine lv_topi (fun v7 ev7 => ?_)
      have iv7 : iv v7 0 64 := iv_eq ev7 (iv_and (x := x0) (iv_w (by decide : iv 64 64 64) (by decide) (by decide) : iv 64 0 64))
      refine jcut (a := ∀ (b10 : Int32) (ib10 : iv b10 0 1) (H : Heap) (locs : List Loc) (hK : va_K (dC, dI) vwCl [] s) (hP : va_P (dC, dI) vwCl [] H) (hD : va_D A []) (hS : va_S A s.heap H locs) (ls : Array Slot) (hl : lv_has ls 3 [(1, .int v6)]), W p l e (headSpec (Cond.code yX2_isCode cX2_isCode 3 (some .boolean) :: lw_G) ({ frames := 0, cells := 0, slots := 0, locals := 0 })).room s m ar below meth c H locs 0 0 Q (F0 m 39 ls [.int b10])) ?_ (fun j11 => ?_)
      · skip
        intro b10 ib10 H locs hK hP hD hS ls hl
        refine lv_istore_n (lv' := [(2, .int b10), (1, .int v6)]) hx hb dX2_isCode_39 rfl hl (by decide) rfl (fun ls hl => ?_)
        refine lv_iload_n hx hb dX2_isCode_40 rfl (lv_at hl 1 rfl) ?_
        refine lv_bipush (v := 7) hx hb dX2_isCode_41 (by decide) ?_
        refine jcut (a := ∀ (b20 : Int32) (ib20 : iv b20 0 1) (H : Heap) (locs : List Loc) (hK : va_K (dC, dI) vwCl [] s) (hP : va_P (dC, dI) vwCl [] H) (hD : va_D A []) (hS : va_S A s.heap H locs) (ls : Array Slot) (hl : lv_has ls 3 []), W p l e (headSpec (Cond.code yX2_isCode cX2_isCode 3 (some .boolean) :: lw_G) ({ frames := 0, cells := 0, slots := 0, locals := 0 })).room s m ar below meth c H locs 0 0 Q (F0 m 69 ls [.int b20])) ?_ (fun j21 => ?_)
        · skip
          intro b20 ib20 H locs hK hP hD hS ls hl
          rw [hQ]
          obtain ⟨hP9, hD9⟩ := nv_sub2 (wc := []) hP hD [] (by decide) rfl
          have hK9 := hK.sub (tys' := []) [] rfl
          exact W.zret (v := b20) hx hb hr (iv_z (iv_w ib20 (by decide) (by decide))).1 (fun t ht hW => ⟨⟨b20, (), rfl, ⟨iv_w ib20 (by decide) (by decide), trivial⟩, by rw [ht]; exact hP9, va_K.moved hW.alike hK9, hD9⟩, hS.F ht⟩) hS.2.2 dX2_isCode_69
        refine lv_icmp_eq (tgt := 68) hx hb dX2_isCode_43 (by decide) (fun c12 => ?_) (fun c12 => ?_)
        · skip
          subst c12
          refine lv_iconst (v := 0) hx hb dX2_isCode_68 (by decide) ?_
          exact j21 0 (iv_w (by decide : iv 0 0 0) (by decide) (by decide)) _ _ hK hP hD hS ls (lv_sub hl [] rfl)
        · skip
          have j22 : iv v6 0 6 := iv_neHi iv6 (by decide : iv 7 7 7) c12 (by decide)
          refine lv_iload_n hx hb dX2_isCode_46 rfl (lv_at hl 0 rfl) ?_
          refine lv_if_eq (tgt := 64) hx hb dX2_isCode_47 (by decide) (fun c23 => ?_) (fun c23 => ?_)
          · skip
            subst c23
            refine lv_iconst (v := 1) hx hb dX2_isCode_64 (by decide) ?_
            refine lv_goto (tgt := 69) hx hb dX2_isCode_65 (by decide) ?_
            exact j21 1 (iv_w (by decide : iv 1 1 1) (by decide) (by decide)) _ _ hK hP hD hS ls (lv_sub hl [] rfl)
          · skip
            have j24 : iv b10 1 1 := iv_neLo ib10 (by decide : iv 0 0 0) c23 (by decide)
            refine lv_iload_n hx hb dX2_isCode_50 rfl (lv_at hl 1 rfl) ?_
            refine lv_if_eq (tgt := 64) hx hb dX2_isCode_51 (by decide) (fun c25 => ?_) (fun c25 => ?_)
            · skip
              subst c25
              refine lv_iconst (v := 1) hx hb dX2_isCode_64 (by decide) ?_
              refine lv_goto (tgt := 69) hx hb dX2_isCode_65 (by decide) ?_
              exact j21 1 (iv_w (by decide : iv 1 1 1) (by decide) (by decide)) _ _ hK hP hD hS ls (lv_sub hl [] rfl)
            · skip
              have j26 : iv v6 1 6 := iv_neLo j22 (by decide : iv 0 0 0) c25 (by decide)
              refine lv_iload_n hx hb dX2_isCode_54 rfl (lv_at hl 1 rfl) ?_
              refine lv_iconst (v := 2) hx hb dX2_isCode_55 (by decide) ?_
              refine lv_icmp_eq (tgt := 64) hx hb dX2_isCode_56 (by decide) (fun c27 => ?_) (fun c27 => ?_)
              · skip
                subst c27
                refine lv_iconst (v := 1) hx hb dX2_isCode_64 (by decide) ?_
                refine lv_goto (tgt := 69) hx hb dX2_isCode_65 (by decide) ?_
                exact j21 1 (iv_w (by decide : iv 1 1 1) (by decide) (by decide)) _ _ hK hP hD hS ls (lv_sub hl [] rfl)
              · skip
                refine lv_iload_n hx hb dX2_isCode_59 rfl (lv_at hl 1 rfl) ?_
                refine lv_iconst (v := 4) hx hb dX2_isCode_60 (by decide) ?_
                refine lv_icmp_ne (tgt := 68) hx hb dX2_isCode_61 (by decide) (fun c28 => ?_) (fun c28 => ?_)
                · skip
                  refine lv_iconst (v := 0) hx hb dX2_isCode_68 (by decide) ?_
                  exact j21 0 (iv_w (by decide : iv 0 0 0) (by decide) (by decide)) _ _ hK hP hD hS ls (lv_sub hl [] rfl)
                · skip
                  subst c28
                  refine lv_iconst (v := 1) hx hb dX2_isCode_64 (by decide) ?_
                  refine lv_goto (tgt := 69) hx hb dX2_isCode_65 (by decide) ?_
                  exact j21 1 (iv_w (by decide : iv 1 1 1) (by decide) (by decide)) _ _ hK hP hD hS ls (lv_sub hl [] rfl)
      refine lv_if_eq (tgt := 38) hx hb dX2_isCode_31 (by decide) (fun c8 => ?_) (fun c8 => ?_)
      · skip
        subst c8
        refine lv_iconst (v := 0) hx hb dX2_isCode_38 (by decide) ?_
        exact j11 0 (iv_w (by decide : iv 0 0 0) (by decide) (by decide)) _ _ hK hP hD hS ls (lv_sub hl [0] rfl)
      · skip
        have j29 : iv v7 1 64 := iv_neLo iv7 (by decide : iv 0 0 0) c8 (by decide)
        refine lv_iconst (v := 1) hx hb dX2_isCode_34 (by decide) ?_
        refine lv_goto (tgt := 39) hx hb dX2_isCode_35 (by decide) ?_
        exact j11 1 (iv_w (by decide : iv 1 1 1) (by decide) (by decide)) _ _ hK hP hD hS ls (lv_sub hl [0] rfl)
    · skip
      refine lv_iconst (v := 0) hx hb dX2_isCode_17 (by decide) ?_
      rw [hQ]
      obtain ⟨hP9, hD9⟩ := nv_sub2 (wc := []) hP hD [] (by decide) rfl
      have hK9 := hK.sub (tys' := []) [] rfl
      exact W.zret (v := 0) hx hb hr rfl (fun t ht hW => ⟨⟨0, (), rfl, ⟨iv_w (by decide : iv 0 0 0) (by decide) (by decide), trivial⟩, by rw [ht]; exact hP9, va_K.moved hW.alike hK9, hD9⟩, hS.F ht⟩) hS.2.2 dX2_isCode_18
  · skip
    have j30 : iv x0 8192 2147483647 := iv_nltL (iv_any x0) (by decide : iv 8192 8192 8192) c1 (by decide)
    refine lv_iconst (v := 1) hx hb dX2_isCode_7 (by decide) ?_
    rw [hQ]
    obtain ⟨hP9, hD9⟩ := nv_sub2 (wc := []) hP hD [] (by decide) rfl
    have hK9 := hK.sub (tys' := []) [] rfl
    exact W.zret (v := 1) hx hb hr rfl (fun t ht hW => ⟨⟨1, (), rfl, ⟨iv_w (by decide : iv 1 1 1) (by decide) (by decide), trivial⟩, by rw [ht]; exact hP9, va_K.moved hW.alike hK9, hD9⟩, hS.F ht⟩) hS.2.2 dX2_isCode_8
set_option maxHeartbeats 100000000 in
set_option maxRecDepth 100000 in
theorem cX2_isConstant_1 (l : Launch) (dC : Nat → ClassId) (dI : Nat → Nat → Nat) (sz : Nat) (x0 x1 : Int32) : Met l yX2_isConstant (Cond.code yX2_isConstant cX2_isConstant 2 (some .boolean) :: lw_G) ({ frames := 0, cells := 0, slots := 0, locals := 0 }) (va_Pc [.int x0, .int x1] (fun U => U.heap.size = sz ∧ va_P (dC, dI) vwCl [] U.heap ∧ va_K (dC, dI) vwCl [] U ∧ va_D (fun _ => True) [])) (va_Qi (fun (r : Int32) (u : Unit) => iv r 0 1 ∧ True) (fun (u : Unit) (t : State) => va_P (dC, dI) vwCl [] t.heap ∧ va_K (dC, dI) vwCl [] t ∧ va_D (va_A [] sz) []) (va_A [] sz)) 0 0 (va_A [] sz) := by
  refine Met.ofW (cc := cX2_isConstant) (maxL := 2) (ret := (some .boolean)) (by decide) rfl ?_
  intro p e s m args below meth c s₁ B hml hv
  obtain ⟨rfl, hsz, hP, hK, hD0⟩ := hv
  have hx := B.exec
  have hb := B.bytes
  have hr := B.returns
  have hts0 := atoms_spec (ws := Cond.code yX2_isConstant cX2_isConstant 2 (some .boolean) :: lw_G) B.pre
  have hG : ∀ w ∈ lw_G, w.before _ s = true := fun w h => hts0 w (List.mem_cons_of_mem _ h)
  have hown : s.vm.findClass RX2 = some m.cls := findClass_of_methodNamed B.named
  have hlocks := B.notSynchronized
  subst hsz
  have hD := hD0.self (sz := s.heap.size)
  generalize hAe : va_A [] s.heap.size = A at hD ⊢
  have hA : ∀ q : Nat, s.heap.size ≤ q → A q := fun q h => by rw [← hAe]; exact Or.inr h
  have hS : va_S A s.heap s.heap [] := va_S.rf
  have hP : va_P (dC, dI) vwCl [] s.heap := hP
  have hl := lv_entry ([.int x0, .int x1]) (n := 2) (Nat.le_of_ble_eq_true rfl)
  rw [lg_entry_eq]
  generalize (lg_sl ([.int x0, .int x1]) ++ List.replicate (2 - (lg_sl ([.int x0, .int x1])).length) Slot.unset).toArray = ls at hl ⊢
  have hl : lv_has ls 2 [(0, .int x0), (1, .int x1)] := hl
  generalize ([.int x0, .int x1] : List Value).toArray = ar at hG ⊢
  refine wq (fun Q hQ => ?_)
  refine lv_iload_n hx hb dX2_isConstant_0 rfl (lv_at hl 1 rfl) ?_
  refine lv_iconst (v := 3) hx hb dX2_isConstant_1 (by decide) ?_
  refine jcut (a := ∀ (b9 : Int32) (ib9 : iv b9 0 1) (H : Heap) (locs : List Loc) (hK : va_K (dC, dI) vwCl [] s) (hP : va_P (dC, dI) vwCl [] H) (hD : va_D A []) (hS : va_S A s.heap H locs) (ls : Array Slot) (hl : lv_has ls 2 []), W p l e (headSpec (Cond.code yX2_isConstant cX2_isConstant 2 (some .boolean) :: lw_G) ({ frames := 0, cells := 0, slots := 0, locals := 0 })).room s m ar below meth c H locs 0 0 Q (F0 m 24 ls [.int b9])) ?_ (fun j10 => ?_)
  · skip
    intro b9 ib9 H locs hK hP hD hS ls hl
    rw [hQ]
    obtain ⟨hP9, hD9⟩ := nv_sub2 (wc := []) hP hD [] (by decide) rfl
    have hK9 := hK.sub (tys' := []) [] rfl
    exact W.zret (v := b9) hx hb hr (iv_z (iv_w ib9 (by decide) (by decide))).1 (fun t ht hW => ⟨⟨b9, (), rfl, ⟨iv_w ib9 (by decide) (by decide), trivial⟩, by rw [ht]; exact hP9, va_K.moved hW.alike hK9, hD9⟩, hS.F ht⟩) hS.2.2 dX2_isConstant_24
  refine lv_icmp_ne (tgt := 9) hx hb dX2_isConstant_2 (by decide) (fun c1 => ?_) (fun c1 => ?_)
  · skip
    refine lv_iload_n hx hb dX2_isConstant_9 rfl (lv_at hl 1 rfl) ?_
    refine lv_iconst (v := 2) hx hb dX2_isConstant_10 (by decide) ?_
    refine lv_icmp_ne (tgt := 23) hx hb dX2_isConstant_11 (by decide) (fun c11 => ?_) (fun c11 => ?_)
    · skip
      refine lv_iconst (v := 0) hx hb dX2_isConstant_23 (by decide) ?_
      exact j10 0 (iv_w (by decide : iv 0 0 0) (by decide) (by decide)) _ _ hK hP hD hS ls (lv_sub hl [] rfl)
    · skip
      subst c11
      refine lv_iload_n hx hb dX2_isConstant_14 rfl (lv_at hl 0 rfl) ?_
      refine lv_iconst (v := 1) hx hb dX2_isConstant_15 (by decide) ?_
      refine lv_icmp_le (tgt := 23) hx hb dX2_isConstant_16 (by decide) (fun c12 => ?_) (fun c12 => ?_)
      · skip
        have j13 : iv x0 (-2147483648) 1 := iv_leL (iv_any x0) (by decide : iv 1 1 1) c12 (by decide)
        refine lv_iconst (v := 0) hx hb dX2_isConstant_23 (by decide) ?_
        exact j10 0 (iv_w (by decide : iv 0 0 0) (by decide) (by decide)) _ _ hK hP hD hS ls (lv_sub hl [] rfl)
      · skip
        have j14 : iv x0 2 2147483647 := iv_nleL (iv_any x0) (by decide : iv 1 1 1) c12 (by decide)
        refine lv_iconst (v := 1) hx hb dX2_isConstant_19 (by decide) ?_
        refine lv_goto (tgt := 24) hx hb dX2_isConstant_20 (by decide) ?_
        exact j10 1 (iv_w (by decide : iv 1 1 1) (by decide) (by decide)) _ _ hK hP hD hS ls (lv_sub hl [] rfl)
  · skip
    subst c1
    refine lv_iload_n hx hb dX2_isConstant_5 rfl (lv_at hl 0 rfl) ?_
    refine lv_if_gt (tgt := 19) hx hb dX2_isConstant_6 (by decide) (fun c15 => ?_) (fun c15 => ?_)
    · skip
      have j16 : iv x0 1 2147483647 := iv_ltR (by decide : iv 0 0 0) (iv_any x0) c15 (by decide)
      refine lv_iconst (v := 1) hx hb dX2_isConstant_19 (by decide) ?_
      refine lv_goto (tgt := 24) hx hb dX2_isConstant_20 (by decide) ?_
      exact j10 1 (iv_w (by decide : iv 1 1 1) (by decide) (by decide)) _ _ hK hP hD hS ls (lv_sub hl [] rfl)
    · skip
      have j17 : iv x0 (-2147483648) 0 := iv_nltR (by decide : iv 0 0 0) (iv_any x0) c15 (by decide)
      refine lv_iload_n hx hb dX2_isConstant_9 rfl (lv_at hl 1 rfl) ?_
      refine lv_iconst (v := 2) hx hb dX2_isConstant_10 (by decide) ?_
      refine lv_icmp_ne (tgt := 23) hx hb dX2_isConstant_11 (by decide) (fun _ => ?_) (fun c => absurd c (by decide))
      refine lv_iconst (v := 0) hx hb dX2_isConstant_23 (by decide) ?_
      exact j10 0 (iv_w (by decide : iv 0 0 0) (by decide) (by decide)) _ _ hK hP hD hS ls (lv_sub hl [] rfl)
set_option maxHeartbeats 100000000 in
set_option maxRecDepth 100000 in
theorem cX1_readWord_1 (l : Launch) (dC : Nat → ClassId) (dI : Nat → Nat → Nat) (h0 h1 h2 h3 h4 h5 h6 : Nat) (y0 y1 y2 : ClassId) (sz : Nat) (x0 x1 x2 x3 x4 x5 x6 x7 x8 x9 x10 x11 x12 x13 x14 x15 : Int32) (f0 f1 f2 : Nat → Int32) (ix4 : iv x4 0 1) : Met l yX1_readWord (Cond.code yX1_readWord cX1_readWord 3 (some .int) :: lw_G) ({ frames := 2, cells := 0, slots := 0, locals := 42 }) (va_Pc [.ref h0, .int x0] (fun U => U.heap.size = sz ∧ va_P (dC, dI) vwCl [(h0, .inr (1, [.ref h1, .ref h2, .ref h3, .ref h4])), (h1, .inl (y0, 32768, .inl f0)), (h4, .inr (9, [.ref h5, .ref h6, .int x1, .int x2, .int x3, .int x4])), (h6, .inl (y1, 3, .inl f1)), (h5, .inl (y2, 3, .inl f2)), (h3, .inr (5, [.int x5, .int x6, .int x7, .int x8, .int x9, .int x10])), (h2, .inr (7, [.int x11, .int x12, .int x13, .int x14, .int x15]))] U.heap ∧ va_K (dC, dI) vwCl [(y0, .int), (y1, .int), (y2, .int)] U ∧ va_D (fun _ => True) [(h0, .inr (1, [.ref h1, .ref h2, .ref h3, .ref h4])), (h1, .inl (y0, 32768, .inl f0)), (h4, .inr (9, [.ref h5, .ref h6, .int x1, .int x2, .int x3, .int x4])), (h6, .inl (y1, 3, .inl f1)), (h5, .inl (y2, 3, .inl f2)), (h3, .inr (5, [.int x5, .int x6, .int x7, .int x8, .int x9, .int x10])), (h2, .inr (7, [.int x11, .int x12, .int x13, .int x14, .int x15]))])) (va_Qi (fun (r : Int32) (u : Int32 × (Nat → Int32)) => True) (fun (u : Int32 × (Nat → Int32)) (t : State) => va_P (dC, dI) vwCl [(h0, .inr (1, [.ref h1, .ref h2, .ref h3, .ref h4])), (h1, .inl (y0, 32768, .inl f0)), (h4, .inr (9, [.ref h5, .ref h6, .int u.1, .int x2, .int x3, .int x4])), (h6, .inl (y1, 3, .inl f1)), (h5, .inl (y2, 3, .inl u.2)), (h3, .inr (5, [.int x5, .int x6, .int x7, .int x8, .int x9, .int x10])), (h2, .inr (7, [.int x11, .int x12, .int x13, .int x14, .int x15]))] t.heap ∧ va_K (dC, dI) vwCl [(y0, .int), (y1, .int), (y2, .int)] t ∧ va_D (va_A [(h0, .inr (1, [.ref h1, .ref h2, .ref h3, .ref h4])), (h1, .inl (y0, 32768, .inl f0)), (h4, .inr (9, [.ref h5, .ref h6, .int x1, .int x2, .int x3, .int x4])), (h6, .inl (y1, 3, .inl f1)), (h5, .inl (y2, 3, .inl f2)), (h3, .inr (5, [.int x5, .int x6, .int x7, .int x8, .int x9, .int x10])), (h2, .inr (7, [.int x11, .int x12, .int x13, .int x14, .int x15]))] sz) [(h0, .inr (1, [.ref h1, .ref h2, .ref h3, .ref h4])), (h1, .inl (y0, 32768, .inl f0)), (h4, .inr (9, [.ref h5, .ref h6, .int u.1, .int x2, .int x3, .int x4])), (h6, .inl (y1, 3, .inl f1)), (h5, .inl (y2, 3, .inl u.2)), (h3, .inr (5, [.int x5, .int x6, .int x7, .int x8, .int x9, .int x10])), (h2, .inr (7, [.int x11, .int x12, .int x13, .int x14, .int x15]))]) (va_A [(h0, .inr (1, [.ref h1, .ref h2, .ref h3, .ref h4])), (h1, .inl (y0, 32768, .inl f0)), (h4, .inr (9, [.ref h5, .ref h6, .int x1, .int x2, .int x3, .int x4])), (h6, .inl (y1, 3, .inl f1)), (h5, .inl (y2, 3, .inl f2)), (h3, .inr (5, [.int x5, .int x6, .int x7, .int x8, .int x9, .int x10])), (h2, .inr (7, [.int x11, .int x12, .int x13, .int x14, .int x15]))] sz)) 0 0 (va_A [(h0, .inr (1, [.ref h1, .ref h2, .ref h3, .ref h4])), (h1, .inl (y0, 32768, .inl f0)), (h4, .inr (9, [.ref h5, .ref h6, .int x1, .int x2, .int x3, .int x4])), (h6, .inl (y1, 3, .inl f1)), (h5, .inl (y2, 3, .inl f2)), (h3, .inr (5, [.int x5, .int x6, .int x7, .int x8, .int x9, .int x10])), (h2, .inr (7, [.int x11, .int x12, .int x13, .int x14, .int x15]))] sz) := by
  refine Met.ofW (cc := cX1_readWord) (maxL := 3) (ret := (some .int)) (by decide) rfl ?_
  intro p e s m args below meth c s₁ B hml hv
  obtain ⟨rfl, hsz, hP, hK, hD0⟩ := hv
  have hx := B.exec
  have hb := B.bytes
  have hr := B.returns
  have hts0 := atoms_spec (ws := Cond.code yX1_readWord cX1_readWord 3 (some .int) :: lw_G) B.pre
  have hG : ∀ w ∈ lw_G, w.before _ s = true := fun w h => hts0 w (List.mem_cons_of_mem _ h)
  have hown : s.vm.findClass RX1 = some m.cls := findClass_of_methodNamed B.named
  have hlocks := B.notSynchronized
  subst hsz
  have hD := hD0.self (sz := s.heap.size)
  generalize hAe : va_A [(h0, .inr (1, [.ref h1, .ref h2, .ref h3, .ref h4])), (h1, .inl (y0, 32768, .inl f0)), (h4, .inr (9, [.ref h5, .ref h6, .int x1, .int x2, .int x3, .int x4])), (h6, .inl (y1, 3, .inl f1)), (h5, .inl (y2, 3, .inl f2)), (h3, .inr (5, [.int x5, .int x6, .int x7, .int x8, .int x9, .int x10])), (h2, .inr (7, [.int x11, .int x12, .int x13, .int x14, .int x15]))] s.heap.size = A at hD ⊢
  have hA : ∀ q : Nat, s.heap.size ≤ q → A q := fun q h => by rw [← hAe]; exact Or.inr h
  have hS : va_S A s.heap s.heap [] := va_S.rf
  have hP : va_P (dC, dI) vwCl [(h0, .inr (1, [.ref h1, .ref h2, .ref h3, .ref h4])), (h1, .inl (y0, 32768, .inl f0)), (h4, .inr (9, [.ref h5, .ref h6, .int x1, .int x2, .int x3, .int x4])), (h6, .inl (y1, 3, .inl f1)), (h5, .inl (y2, 3, .inl f2)), (h3, .inr (5, [.int x5, .int x6, .int x7, .int x8, .int x9, .int x10])), (h2, .inr (7, [.int x11, .int x12, .int x13, .int x14, .int x15]))] s.heap := hP
  have hl := lv_entry ([.ref h0, .int x0]) (n := 3) (Nat.le_of_ble_eq_true rfl)
  rw [lg_entry_eq]
  generalize (lg_sl ([.ref h0, .int x0]) ++ List.replicate (3 - (lg_sl ([.ref h0, .int x0])).length) Slot.unset).toArray = ls at hl ⊢
  have hl : lv_has ls 3 [(0, .ref h0), (1, .int x0)] := hl
  generalize ([.ref h0, .int x0] : List Value).toArray = ar at hG ⊢
  refine wq (fun Q hQ => ?_)
  refine lv_iload_n hx hb dX1_readWord_0 rfl (lv_at hl 1 rfl) ?_
  refine lv_ldc hx hb hown (hG _ wd_719) dX1_readWord_1 ?_
  refine lv_iand hx hb dX1_readWord_3 ?_
  refine lv_topi (fun v1 ev1 => ?_)
  have iv1 : iv v1 0 65534 := iv_eq ev1 (iv_and (x := x0) (iv_w (by decide : iv 65534 65534 65534) (by decide) (by decide) : iv 65534 0 65534))
  refine lv_istore_n (lv' := [(2, .int v1), (0, .ref h0), (1, .int x0)]) hx hb dX1_readWord_4 rfl hl (by decide) rfl (fun ls hl => ?_)
  refine lv_iload_n hx hb dX1_readWord_5 rfl (lv_at hl 0 rfl) ?_
  refine lv_sipush (v := 302) hx hb dX1_readWord_6 (by decide) ?_
  refine lv_icmp_ne (tgt := 20) hx hb dX1_readWord_9 (by decide) (fun c2 => ?_) (fun c2 => ?_)
  · skip
    refine lv_iload_n hx hb dX1_readWord_20 rfl (lv_at hl 0 rfl) ?_
    refine lv_sipush (v := 512) hx hb dX1_readWord_21 (by decide) ?_
    refine jcut (a := ∀ (b10 : Int32) (H : Heap) (locs : List Loc) (hK : va_K (dC, dI) vwCl [(y0, .int), (y1, .int), (y2, .int)] s) (hP : va_P (dC, dI) vwCl [(h0, .inr (1, [.ref h1, .ref h2, .ref h3, .ref h4])), (h1, .inl (y0, 32768, .inl f0)), (h4, .inr (9, [.ref h5, .ref h6, .int x1, .int x2, .int x3, .int x4])), (h6, .inl (y1, 3, .inl f1)), (h5, .inl (y2, 3, .inl f2)), (h3, .inr (5, [.int x5, .int x6, .int x7, .int x8, .int x9, .int x10])), (h2, .inr (7, [.int x11, .int x12, .int x13, .int x14, .int x15]))] H) (hD : va_D A [(h0, .inr (1, [.ref h1, .ref h2, .ref h3, .ref h4])), (h1, .inl (y0, 32768, .inl f0)), (h4, .inr (9, [.ref h5, .ref h6, .int x1, .int x2, .int x3, .int x4])), (h6, .inl (y1, 3, .inl f1)), (h5, .inl (y2, 3, .inl f2)), (h3, .inr (5, [.int x5, .int x6, .int x7, .int x8, .int x9, .int x10])), (h2, .inr (7, [.int x11, .int x12, .int x13, .int x14, .int x15]))]) (hS : va_S A s.heap H locs) (ls : Array Slot) (hl : lv_has ls 3 []), W p l e (headSpec (Cond.code yX1_readWord cX1_readWord 3 (some .int) :: lw_G) ({ frames := 2, cells := 0, slots := 0, locals := 42 })).room s m ar below meth c H locs 0 0 Q (F0 m 43 ls [.int b10])) ?_ (fun j11 => ?_)
    · skip
      intro b10 H locs hK hP hD hS ls hl
      rw [hQ]
      obtain ⟨hP9, hD9⟩ := nv_sub2 (wc := [(h0, .inr (1, [.ref h1, .ref h2, .ref h3, .ref h4])), (h1, .inl (y0, 32768, .inl f0)), (h4, .inr (9, [.ref h5, .ref h6, .int x1, .int x2, .int x3, .int x4])), (h6, .inl (y1, 3, .inl f1)), (h5, .inl (y2, 3, .inl f2)), (h3, .inr (5, [.int x5, .int x6, .int x7, .int x8, .int x9, .int x10])), (h2, .inr (7, [.int x11, .int x12, .int x13, .int x14, .int x15]))]) hP hD [0, 1, 2, 3, 4, 5, 6] (by decide) rfl
      have hK9 := hK.sub (tys' := [(y0, .int), (y1, .int), (y2, .int)]) [0, 1, 2] rfl
      exact W.iret (v := b10) hx hb hr (fun t ht hW => ⟨⟨b10, (x1, f2), rfl, trivial, by rw [ht]; exact hP9, va_K.moved hW.alike hK9, hD9⟩, hS.F ht⟩) hS.2.2 dX1_readWord_43
    refine lv_icmp_ge (tgt := 35) hx hb dX1_readWord_24 (by decide) (fun c3 => ?_) (fun c3 => ?_)
    · skip
      have j12 : iv v1 512 65534 := iv_leR (by decide : iv 512 512 512) iv1 c3 (by decide)
      refine lv_aload_n hx hb dX1_readWord_35 rfl (lv_at hl 1 rfl) ?_
      refine va_get (D := (dC, dI)) (ci := 1) (v := .ref h1) (C := RX1) (T := TX1) (N := 4) hx hb hG inGX1 hown hK hP 0 rfl rfl 0 (by decide) (hG _ wd_114) (fun _ h9 => h9) rfl dX1_readWord_36 ?_
      refine lv_iload_n hx hb dX1_readWord_39 rfl (lv_at hl 0 rfl) ?_
      refine lv_iconst (v := 1) hx hb dX1_readWord_40 (by decide) ?_
      refine lv_ishr hx hb dX1_readWord_41 ?_
      refine lv_topi (fun v13 ev13 => ?_)
      have iv13 : iv v13 256 32767 := iv_eq ev13 (iv_shr 1 (by decide) j12 (by decide) (by decide))
      refine va_iald hx hb hK hP 1 0 rfl rfl (iv_in iv13 (by decide) (by decide) : vp_in v13 32768) dX1_readWord_42 ?_
      refine lv_topi (fun v14 ev14 => ?_)
      exact j11 v14 _ _ hK hP hD hS ls (lv_sub hl [] rfl)
    · skip
      have j15 : iv v1 0 511 := iv_nleR (by decide : iv 512 512 512) iv1 c3 (by decide)
      refine lv_aload_n hx hb dX1_readWord_27 rfl (lv_at hl 1 rfl) ?_
      refine lv_iload_n hx hb dX1_readWord_28 rfl (lv_at hl 0 rfl) ?_
      obtain ⟨hPc, hDc, hFc⟩ := nv_sub3 (wc := [(h0, .inr (1, [.ref h1, .ref h2, .ref h3, .ref h4])), (h4, .inr (9, [.ref h5, .ref h6, .int x1, .int x2, .int x3, .int x4])), (h6, .inl (y1, 3, .inl f1)), (h5, .inl (y2, 3, .inl f2)), (h3, .inr (5, [.int x5, .int x6, .int x7, .int x8, .int x9, .int x10])), (h2, .inr (7, [.int x11, .int x12, .int x13, .int x14, .int x15]))]) hP hD hS hA [0, 2, 3, 4, 5, 6] (by decide) rfl
      have hKc := hK.sub (tys' := [(y1, .int), (y2, .int)]) [1, 2] rfl
      refine va_calli (va_runV (As := [.int v1]) (rest := []) ⟨hx, hb, hml, hown, hG⟩ (cX1_thingWord_1 l dC dI h0 h1 h2 h3 h4 h5 h6 y1 y2 s.heap.size v1 x1 x2 x3 x4 x5 x6 x7 x8 x9 x10 x11 x12 x13 x14 x15 f1 f2 ix4) (cwV 1 hG (gV wd_720 wd_722 wp_27 wd_2 wd_723) rfl rfl rfl (by decide +kernel) ⟨Nat.le_of_ble_eq_true rfl, Nat.le_of_ble_eq_true rfl⟩) ⟨fun a U g mk q => by obtain ⟨q0, q1, qP, qK, qD⟩ := q; exact ⟨q0, q1, qP, va_K.moved (u := U) (U := U.calling g mk a) (Vm.Alike.refl U.vm) qK, qD⟩, va_recv hKc hPc (ci := 1) (q0 := 0) rfl rfl, fun U hU hW => ⟨rfl, by rw [hU], by rw [hU]; exact hPc, va_K.moved hW.alike hKc, hDc.weaken (fun _ _ _ _ => trivial)⟩⟩ rfl rfl hl.1 rfl (lv_room (Nat.le_of_ble_eq_true rfl)) dX1_readWord_29 ⟨by decide, by decide⟩) hS (fun q _ h => hFc q h) hFc (fun r16 u17 t H1 locs ht hvm hw hB hz1 hk1 hS => ?_)
      obtain ⟨hP1, hK1, hD1⟩ := hB
      rw [ht] at hP1
      have hK1 := va_K.moved hvm.symm hK1
      obtain ⟨hP, hD⟩ := nv_join (wf := [(h1, .inl (y0, 32768, .inl f0)), (h0, .inr (1, [.ref h1, .ref h2, .ref h3, .ref h4])), (h4, .inr (9, [.ref h5, .ref h6, .int x1, .int x2, .int x3, .int x4])), (h6, .inl (y1, 3, .inl f1)), (h5, .inl (y2, 3, .inl f2)), (h3, .inr (5, [.int x5, .int x6, .int x7, .int x8, .int x9, .int x10])), (h2, .inr (7, [.int x11, .int x12, .int x13, .int x14, .int x15]))]) hP hD [0, 2, 3, 4, 5, 6] [1] rfl rfl (by decide) (by decide) hk1 hFc hP1 hD1 rfl
      have hK := (hK.sub (tys' := [(y0, .int)]) [0] rfl).app hK1
      generalize H1 = H at hP hS ⊢
      have hK : va_K (dC, dI) vwCl [(y0, .int), (y1, .int), (y2, .int)] s := hK
      refine lv_goto (tgt := 43) hx hb dX1_readWord_32 (by decide) ?_
      exact j11 r16 _ _ hK (hP.sub (ws' := _) [1, 0, 2, 3, 4, 5, 6] rfl) (hD.sub (ws' := _) [1, 0, 2, 3, 4, 5, 6] (by decide) rfl) hS ls (lv_sub hl [] rfl)
  · skip
    subst c2
    refine lv_aload_n hx hb dX1_readWord_12 rfl (lv_at hl 1 rfl) ?_
    refine va_get (D := (dC, dI)) (ci := 1) (v := .ref h4) (C := RX1) (T := TX1) (N := 4) hx hb hG inGX1 hown hK hP 0 rfl rfl 3 (by decide) (hG _ wd_117) (fun _ h9 => h9) rfl dX1_readWord_13 ?_
    obtain ⟨hPc, hDc, hFc⟩ := nv_sub3 (wc := [(h4, .inr (9, [.ref h5, .ref h6, .int x1, .int x2, .int x3, .int x4])), (h5, .inl (y2, 3, .inl f2))]) hP hD hS hA [2, 4] (by decide) rfl
    have hKc := hK.sub (tys' := [(y2, .int)]) [2] rfl
    refine va_calli (va_runV (As := []) (rest := []) ⟨hx, hb, hml, hown, hG⟩ (cX9_takeVector_1 l dC dI h4 h5 h6 y2 s.heap.size x1 x2 x3 x4 f2 ix4) (cwV 0 hG (gV wd_745 wd_746 wd_747 wd_5 wd_748) rfl rfl rfl (by decide +kernel) ⟨Nat.le_of_ble_eq_true rfl, Nat.le_of_ble_eq_true rfl⟩) ⟨fun a U g mk q => by obtain ⟨q0, q1, qP, qK, qD⟩ := q; exact ⟨q0, q1, qP, va_K.moved (u := U) (U := U.calling g mk a) (Vm.Alike.refl U.vm) qK, qD⟩, va_recv hKc hPc (ci := 9) (q0 := 0) rfl rfl, fun U hU hW => ⟨rfl, by rw [hU], by rw [hU]; exact hPc, va_K.moved hW.alike hKc, hDc.weaken (fun _ _ _ _ => trivial)⟩⟩ rfl rfl hl.1 rfl (lv_room (Nat.le_of_ble_eq_true rfl)) dX1_readWord_16 ⟨by decide, by decide⟩) hS (fun q _ h => hFc q h) hFc (fun r18 u19 t H1 locs ht hvm hw hB hz1 hk1 hS => ?_)
    obtain ⟨u19_0, u19_1⟩ := u19
    have hw : iv r18 0 10 ∧ True := hw
    obtain ⟨ir18, -⟩ := hw
    obtain ⟨hP1, hK1, hD1⟩ := hB
    rw [ht] at hP1
    have hK1 := va_K.moved hvm.symm hK1
    obtain ⟨hP, hD⟩ := nv_join (wf := [(h0, .inr (1, [.ref h1, .ref h2, .ref h3, .ref h4])), (h1, .inl (y0, 32768, .inl f0)), (h6, .inl (y1, 3, .inl f1)), (h3, .inr (5, [.int x5, .int x6, .int x7, .int x8, .int x9, .int x10])), (h2, .inr (7, [.int x11, .int x12, .int x13, .int x14, .int x15])), (h4, .inr (9, [.ref h5, .ref h6, .int u19_0, .int x2, .int x3, .int x4])), (h5, .inl (y2, 3, .inl u19_1))]) hP hD [2, 4] [0, 1, 3, 5, 6] rfl rfl (by decide) (by decide) hk1 hFc hP1 hD1 rfl
    have hK := (hK.sub (tys' := [(y0, .int), (y1, .int)]) [0, 1] rfl).app hK1
    generalize H1 = H at hP hS ⊢
    have hK : va_K (dC, dI) vwCl [(y0, .int), (y1, .int), (y2, .int)] s := hK
    rw [hQ]
    obtain ⟨hP9, hD9⟩ := nv_sub2 (wc := [(h0, .inr (1, [.ref h1, .ref h2, .ref h3, .ref h4])), (h1, .inl (y0, 32768, .inl f0)), (h4, .inr (9, [.ref h5, .ref h6, .int u19_0, .int x2, .int x3, .int x4])), (h6, .inl (y1, 3, .inl f1)), (h5, .inl (y2, 3, .inl u19_1)), (h3, .inr (5, [.int x5, .int x6, .int x7, .int x8, .int x9, .int x10])), (h2, .inr (7, [.int x11, .int x12, .int x13, .int x14, .int x15]))]) hP hD [0, 1, 5, 2, 6, 3, 4] (by decide) rfl
    have hK9 := hK.sub (tys' := [(y0, .int), (y1, .int), (y2, .int)]) [0, 1, 2] rfl
    exact W.iret (v := r18) hx hb hr (fun t ht hW => ⟨⟨r18, (u19_0, u19_1), rfl, trivial, by rw [ht]; exact hP9, va_K.moved hW.alike hK9, hD9⟩, hS.F ht⟩) hS.2.2 dX1_readWord_19
set_option maxHeartbeats 100000000 in
set_option maxRecDepth 100000 in
theorem cX2_indexed_1 (l : Launch) (dC : Nat → ClassId) (dI : Nat → Nat → Nat) (h0 h1 h2 h3 h4 h5 h6 h7 h8 h9 : Nat) (y0 y1 y2 y3 : ClassId) (sz : Nat) (x0 x1 x2 x3 x4 x5 x6 x7 x8 x9 x10 x11 x12 x13 x14 x15 x16 x17 x18 x19 x20 : Int32) (f0 f1 f2 f3 : Nat → Int32) (ix0 : iv x0 0 15) (ix5 : iv x5 0 1) (ix9 : iv x9 0 1) : Met l yX2_indexed (Cond.code yX2_indexed cX2_indexed 4 (some .int) :: lw_G) ({ frames := 3, cells := 0, slots := 0, locals := 64 }) (va_Pc [.ref h0, .int x0] (fun U => U.heap.size = sz ∧ va_P (dC, dI) vwCl [(h0, .inr (2, [.ref h1, .ref h2, .ref h3, .int x1, .int x2, .int x3, .int x4, .int x5])), (h1, .inl (y0, 16, .inl f0)), (h3, .inr (1, [.ref h4, .ref h5, .ref h6, .ref h7])), (h4, .inl (y1, 32768, .inl f1)), (h7, .inr (9, [.ref h8, .ref h9, .int x6, .int x7, .int x8, .int x9])), (h9, .inl (y2, 3, .inl f2)), (h8, .inl (y3, 3, .inl f3)), (h6, .inr (5, [.int x10, .int x11, .int x12, .int x13, .int x14, .int x15])), (h5, .inr (7, [.int x16, .int x17, .int x18, .int x19, .int x20]))] U.heap ∧ va_K (dC, dI) vwCl [(y0, .int), (y1, .int), (y2, .int), (y3, .int)] U ∧ va_D (fun _ => True) [(h0, .inr (2, [.ref h1, .ref h2, .ref h3, .int x1, .int x2, .int x3, .int x4, .int x5])), (h1, .inl (y0, 16, .inl f0)), (h3, .inr (1, [.ref h4, .ref h5, .ref h6, .ref h7])), (h4, .inl (y1, 32768, .inl f1)), (h7, .inr (9, [.ref h8, .ref h9, .int x6, .int x7, .int x8, .int x9])), (h9, .inl (y2, 3, .inl f2)), (h8, .inl (y3, 3, .inl f3)), (h6, .inr (5, [.int x10, .int x11, .int x12, .int x13, .int x14, .int x15])), (h5, .inr (7, [.int x16, .int x17, .int x18, .int x19, .int x20]))])) (va_Qi (fun (r : Int32) (u : (Nat → Int32) × Int32 × (Nat → Int32)) => True) (fun (u : (Nat → Int32) × Int32 × (Nat → Int32)) (t : State) => va_P (dC, dI) vwCl [(h0, .inr (2, [.ref h1, .ref h2, .ref h3, .int x1, .int x2, .int x3, .int x4, .int x5])), (h1, .inl (y0, 16, .inl u.1)), (h3, .inr (1, [.ref h4, .ref h5, .ref h6, .ref h7])), (h4, .inl (y1, 32768, .inl f1)), (h7, .inr (9, [.ref h8, .ref h9, .int u.2.1, .int x7, .int x8, .int x9])), (h9, .inl (y2, 3, .inl f2)), (h8, .inl (y3, 3, .inl u.2.2)), (h6, .inr (5, [.int x10, .int x11, .int x12, .int x13, .int x14, .int x15])), (h5, .inr (7, [.int x16, .int x17, .int x18, .int x19, .int x20]))] t.heap ∧ va_K (dC, dI) vwCl [(y0, .int), (y1, .int), (y2, .int), (y3, .int)] t ∧ va_D (va_A [(h0, .inr (2, [.ref h1, .ref h2, .ref h3, .int x1, .int x2, .int x3, .int x4, .int x5])), (h1, .inl (y0, 16, .inl f0)), (h3, .inr (1, [.ref h4, .ref h5, .ref h6, .ref h7])), (h4, .inl (y1, 32768, .inl f1)), (h7, .inr (9, [.ref h8, .ref h9, .int x6, .int x7, .int x8, .int x9])), (h9, .inl (y2, 3, .inl f2)), (h8, .inl (y3, 3, .inl f3)), (h6, .inr (5, [.int x10, .int x11, .int x12, .int x13, .int x14, .int x15])), (h5, .inr (7, [.int x16, .int x17, .int x18, .int x19, .int x20]))] sz) [(h0, .inr (2, [.ref h1, .ref h2, .ref h3, .int x1, .int x2, .int x3, .int x4, .int x5])), (h1, .inl (y0, 16, .inl u.1)), (h3, .inr (1, [.ref h4, .ref h5, .ref h6, .ref h7])), (h4, .inl (y1, 32768, .inl f1)), (h7, .inr (9, [.ref h8, .ref h9, .int u.2.1, .int x7, .int x8, .int x9])), (h9, .inl (y2, 3, .inl f2)), (h8, .inl (y3, 3, .inl u.2.2)), (h6, .inr (5, [.int x10, .int x11, .int x12, .int x13, .int x14, .int x15])), (h5, .inr (7, [.int x16, .int x17, .int x18, .int x19, .int x20]))]) (va_A [(h0, .inr (2, [.ref h1, .ref h2, .ref h3, .int x1, .int x2, .int x3, .int x4, .int x5])), (h1, .inl (y0, 16, .inl f0)), (h3, .inr (1, [.ref h4, .ref h5, .ref h6, .ref h7])), (h4, .inl (y1, 32768, .inl f1)), (h7, .inr (9, [.ref h8, .ref h9, .int x6, .int x7, .int x8, .int x9])), (h9, .inl (y2, 3, .inl f2)), (h8, .inl (y3, 3, .inl f3)), (h6, .inr (5, [.int x10, .int x11, .int x12, .int x13, .int x14, .int x15])), (h5, .inr (7, [.int x16, .int x17, .int x18, .int x19, .int x20]))] sz)) 0 0 (va_A [(h0, .inr (2, [.ref h1, .ref h2, .ref h3, .int x1, .int x2, .int x3, .int x4, .int x5])), (h1, .inl (y0, 16, .inl f0)), (h3, .inr (1, [.ref h4, .ref h5, .ref h6, .ref h7])), (h4, .inl (y1, 32768, .inl f1)), (h7, .inr (9, [.ref h8, .ref h9, .int x6, .int x7, .int x8, .int x9])), (h9, .inl (y2, 3, .inl f2)), (h8, .inl (y3, 3, .inl f3)), (h6, .inr (5, [.int x10, .int x11, .int x12, .int x13, .int x14, .int x15])), (h5, .inr (7, [.int x16, .int x17, .int x18, .int x19, .int x20]))] sz) := by
  refine Met.ofW (cc := cX2_indexed) (maxL := 4) (ret := (some .int)) (by decide) rfl ?_
  intro p e s m args below meth c s₁ B hml hv
  obtain ⟨rfl, hsz, hP, hK, hD0⟩ := hv
  have hx := B.exec
  have hb := B.bytes
  have hr := B.returns
  have hts0 := atoms_spec (ws := Cond.code yX2_indexed cX2_indexed 4 (some .int) :: lw_G) B.pre
  have hG : ∀ w ∈ lw_G, w.before _ s = true := fun w h => hts0 w (List.mem_cons_of_mem _ h)
  have hown : s.vm.findClass RX2 = some m.cls := findClass_of_methodNamed B.named
  have hlocks := B.notSynchronized
  subst hsz
  have hD := hD0.self (sz := s.heap.size)
  generalize hAe : va_A [(h0, .inr (2, [.ref h1, .ref h2, .ref h3, .int x1, .int x2, .int x3, .int x4, .int x5])), (h1, .inl (y0, 16, .inl f0)), (h3, .inr (1, [.ref h4, .ref h5, .ref h6, .ref h7])), (h4, .inl (y1, 32768, .inl f1)), (h7, .inr (9, [.ref h8, .ref h9, .int x6, .int x7, .int x8, .int x9])), (h9, .inl (y2, 3, .inl f2)), (h8, .inl (y3, 3, .inl f3)), (h6, .inr (5, [.int x10, .int x11, .int x12, .int x13, .int x14, .int x15])), (h5, .inr (7, [.int x16, .int x17, .int x18, .int x19, .int x20]))] s.heap.size = A at hD ⊢
  have hA : ∀ q : Nat, s.heap.size ≤ q → A q := fun q h => by rw [← hAe]; exact Or.inr h
  have hS : va_S A s.heap s.heap [] := va_S.rf
  have hP : va_P (dC, dI) vwCl [(h0, .inr (2, [.ref h1, .ref h2, .ref h3, .int x1, .int x2, .int x3, .int x4, .int x5])), (h1, .inl (y0, 16, .inl f0)), (h3, .inr (1, [.ref h4, .ref h5, .ref h6, .ref h7])), (h4, .inl (y1, 32768, .inl f1)), (h7, .inr (9, [.ref h8, .ref h9, .int x6, .int x7, .int x8, .int x9])), (h9, .inl (y2, 3, .inl f2)), (h8, .inl (y3, 3, .inl f3)), (h6, .inr (5, [.int x10, .int x11, .int x12, .int x13, .int x14, .int x15])), (h5, .inr (7, [.int x16, .int x17, .int x18, .int x19, .int x20]))] s.heap := hP
  have hl := lv_entry ([.ref h0, .int x0]) (n := 4) (Nat.le_of_ble_eq_true rfl)
  rw [lg_entry_eq]
  generalize (lg_sl ([.ref h0, .int x0]) ++ List.replicate (4 - (lg_sl ([.ref h0, .int x0])).length) Slot.unset).toArray = ls at hl ⊢
  have hl : lv_has ls 4 [(0, .ref h0), (1, .int x0)] := hl
  generalize ([.ref h0, .int x0] : List Value).toArray = ar at hG ⊢
  refine wq (fun Q hQ => ?_)
  refine lv_aload_n hx hb dX2_indexed_0 rfl (lv_at hl 0 rfl) ?_
  refine va_get (D := (dC, dI)) (ci := 2) (v := .ref h1) (C := RX2) (T := TX2) (N := 8) hx hb hG inGX2 hown hK hP 0 rfl rfl 0 (by decide) (hG _ wd_149) (fun _ h9 => h9) rfl dX2_indexed_1 ?_
  refine lv_iconst (v := 0) hx hb dX2_indexed_4 (by decide) ?_
  refine va_iald hx hb hK hP 1 0 rfl rfl (iv_in (by decide : iv 0 0 0) (by decide) (by decide) : vp_in 0 16) dX2_indexed_5 ?_
  refine lv_topi (fun v1 ev1 => ?_)
  refine lv_istore_n (lv' := [(2, .int v1), (0, .ref h0), (1, .int x0)]) hx hb dX2_indexed_6 rfl hl (by decide) rfl (fun ls hl => ?_)
  refine lv_aload_n hx hb dX2_indexed_7 rfl (lv_at hl 1 rfl) ?_
  refine va_get (D := (dC, dI)) (ci := 2) (v := .ref h3) (C := RX2) (T := TX2) (N := 8) hx hb hG inGX2 hown hK hP 0 rfl rfl 2 (by decide) (hG _ wd_151) (fun _ h9 => h9) rfl dX2_indexed_8 ?_
  refine lv_iload_n hx hb dX2_indexed_11 rfl (lv_at hl 0 rfl) ?_
  obtain ⟨hPc, hDc, hFc⟩ := nv_sub3 (wc := [(h3, .inr (1, [.ref h4, .ref h5, .ref h6, .ref h7])), (h4, .inl (y1, 32768, .inl f1)), (h7, .inr (9, [.ref h8, .ref h9, .int x6, .int x7, .int x8, .int x9])), (h9, .inl (y2, 3, .inl f2)), (h8, .inl (y3, 3, .inl f3)), (h6, .inr (5, [.int x10, .int x11, .int x12, .int x13, .int x14, .int x15])), (h5, .inr (7, [.int x16, .int x17, .int x18, .int x19, .int x20]))]) hP hD hS hA [2, 3, 4, 5, 6, 7, 8] (by decide) rfl
  have hKc := hK.sub (tys' := [(y1, .int), (y2, .int), (y3, .int)]) [1, 2, 3] rfl
  refine va_calli (va_runV (As := [.int v1]) (rest := []) ⟨hx, hb, hml, hown, hG⟩ (cX1_readWord_1 l dC dI h3 h4 h5 h6 h7 h8 h9 y1 y2 y3 s.heap.size v1 x6 x7 x8 x9 x10 x11 x12 x13 x14 x15 x16 x17 x18 x19 x20 f1 f2 f3 ix9) (cwV 1 hG (gV wd_1005 wd_1006 wd_1007 wd_2 wd_1008) rfl rfl rfl (by decide +kernel) ⟨Nat.le_of_ble_eq_true rfl, Nat.le_of_ble_eq_true rfl⟩) ⟨fun a U g mk q => by obtain ⟨q0, q1, qP, qK, qD⟩ := q; exact ⟨q0, q1, qP, va_K.moved (u := U) (U := U.calling g mk a) (Vm.Alike.refl U.vm) qK, qD⟩, va_recv hKc hPc (ci := 1) (q0 := 0) rfl rfl, fun U hU hW => ⟨rfl, by rw [hU], by rw [hU]; exact hPc, va_K.moved hW.alike hKc, hDc.weaken (fun _ _ _ _ => trivial)⟩⟩ rfl rfl hl.1 rfl (lv_room (Nat.le_of_ble_eq_true rfl)) dX2_indexed_12 ⟨by decide, by decide⟩) hS (fun q _ h => hFc q h) hFc (fun r2 u3 t H1 locs ht hvm hw hB hz1 hk1 hS => ?_)
  obtain ⟨u3_0, u3_1⟩ := u3
  obtain ⟨hP1, hK1, hD1⟩ := hB
  rw [ht] at hP1
  have hK1 := va_K.moved hvm.symm hK1
  obtain ⟨hP, hD⟩ := nv_join (wf := [(h0, .inr (2, [.ref h1, .ref h2, .ref h3, .int x1, .int x2, .int x3, .int x4, .int x5])), (h1, .inl (y0, 16, .inl f0)), (h3, .inr (1, [.ref h4, .ref h5, .ref h6, .ref h7])), (h4, .inl (y1, 32768, .inl f1)), (h7, .inr (9, [.ref h8, .ref h9, .int u3_0, .int x7, .int x8, .int x9])), (h9, .inl (y2, 3, .inl f2)), (h8, .inl (y3, 3, .inl u3_1)), (h6, .inr (5, [.int x10, .int x11, .int x12, .int x13, .int x14, .int x15])), (h5, .inr (7, [.int x16, .int x17, .int x18, .int x19, .int x20]))]) hP hD [2, 3, 4, 5, 6, 7, 8] [0, 1] rfl rfl (by decide) (by decide) hk1 hFc hP1 hD1 rfl
  have hK := (hK.sub (tys' := [(y0, .int)]) [0] rfl).app hK1
  generalize H1 = H at hP hS ⊢
  have hK : va_K (dC, dI) vwCl [(y0, .int), (y1, .int), (y2, .int), (y3, .int)] s := hK
  refine lv_istore_n (lv' := [(3, .int r2), (2, .int v1), (0, .ref h0), (1, .int x0)]) hx hb dX2_indexed_15 rfl hl (by decide) rfl (fun ls hl => ?_)
  refine lv_aload_n hx hb dX2_indexed_16 rfl (lv_at hl 2 rfl) ?_
  refine lv_iconst (v := 0) hx hb dX2_indexed_17 (by decide) ?_
  refine lv_iload_n hx hb dX2_indexed_18 rfl (lv_at hl 1 rfl) ?_
  refine lv_iconst (v := 2) hx hb dX2_indexed_19 (by decide) ?_
  refine lv_iadd hx hb dX2_indexed_20 ?_
  refine lv_topi (fun v4 ev4 => ?_)
  obtain ⟨hPc, hDc, hFc⟩ := nv_sub3 (wc := [(h0, .inr (2, [.ref h1, .ref h2, .ref h3, .int x1, .int x2, .int x3, .int x4, .int x5])), (h1, .inl (y0, 16, .inl f0))]) hP hD hS hA [0, 1] (by decide) rfl
  have hKc := hK.sub (tys' := [(y0, .int)]) [0] rfl
  refine va_callv (va_runV (As := [.int 0, .int v4]) (rest := []) ⟨hx, hb, hml, hown, hG⟩ (cX2_writeRegister_1 l dC dI h0 h1 h2 h3 y0 H.size 0 v4 x1 x2 x3 x4 x5 f0 ix5) (cwV 2 hG (gV wd_825 wd_826 wd_827 wd_6 wd_828) rfl rfl rfl (by decide +kernel) ⟨Nat.le_of_ble_eq_true rfl, Nat.le_of_ble_eq_true rfl⟩) ⟨fun a U g mk q => by obtain ⟨q0, q1, qP, qK, qD⟩ := q; exact ⟨q0, q1, qP, va_K.moved (u := U) (U := U.calling g mk a) (Vm.Alike.refl U.vm) qK, qD⟩, va_recv hKc hPc (ci := 2) (q0 := 0) rfl rfl, fun U hU hW => ⟨rfl, by rw [hU], by rw [hU]; exact hPc, va_K.moved hW.alike hKc, hDc.weaken (fun _ _ _ _ => trivial)⟩⟩ rfl rfl hl.1 rfl (lv_room (Nat.le_of_ble_eq_true rfl)) dX2_indexed_21 ⟨by decide, by decide⟩) hS (fun q _ h => hFc q h) hFc (fun u6 t H1 locs ht hvm hw hB hz1 hk1 hS => ?_)
  obtain ⟨u6_0, rfl⟩ : ∃ z, z = u6 := ⟨_, rfl⟩
  obtain ⟨hP1, hK1, hD1⟩ := hB
  rw [ht] at hP1
  have hK1 := va_K.moved hvm.symm hK1
  obtain ⟨hP, hD⟩ := nv_join (wf := [(h3, .inr (1, [.ref h4, .ref h5, .ref h6, .ref h7])), (h4, .inl (y1, 32768, .inl f1)), (h7, .inr (9, [.ref h8, .ref h9, .int u3_0, .int x7, .int x8, .int x9])), (h9, .inl (y2, 3, .inl f2)), (h8, .inl (y3, 3, .inl u3_1)), (h6, .inr (5, [.int x10, .int x11, .int x12, .int x13, .int x14, .int x15])), (h5, .inr (7, [.int x16, .int x17, .int x18, .int x19, .int x20])), (h0, .inr (2, [.ref h1, .ref h2, .ref h3, .int x1, .int x2, .int x3, .int x4, .int x5])), (h1, .inl (y0, 16, .inl u6_0))]) hP hD [0, 1] [2, 3, 4, 5, 6, 7, 8] rfl rfl (by decide) (by decide) hk1 hFc hP1 hD1 rfl
  have hK := (hK.sub (tys' := [(y1, .int), (y2, .int), (y3, .int)]) [1, 2, 3] rfl).app hK1
  generalize H1 = H at hP hS ⊢
  have hK : va_K (dC, dI) vwCl [(y1, .int), (y2, .int), (y3, .int), (y0, .int)] s := hK
  refine lv_iload_n hx hb dX2_indexed_24 rfl (lv_at hl 3 rfl) ?_
  refine lv_if_ne (tgt := 35) hx hb dX2_indexed_25 (by decide) (fun c7 => ?_) (fun c7 => ?_)
  · skip
    have j8 : iv x0 1 15 := iv_neLo ix0 (by decide : iv 0 0 0) c7 (by decide)
    refine lv_iload_n hx hb dX2_indexed_35 rfl (lv_at hl 3 rfl) ?_
    refine lv_iconst (v := 2) hx hb dX2_indexed_36 (by decide) ?_
    refine jcut (a := ∀ (b14 : Int32) (H : Heap) (locs : List Loc) (hK : va_K (dC, dI) vwCl [(y1, .int), (y2, .int), (y3, .int), (y0, .int)] s) (hP : va_P (dC, dI) vwCl [(h3, .inr (1, [.ref h4, .ref h5, .ref h6, .ref h7])), (h4, .inl (y1, 32768, .inl f1)), (h7, .inr (9, [.ref h8, .ref h9, .int u3_0, .int x7, .int x8, .int x9])), (h9, .inl (y2, 3, .inl f2)), (h8, .inl (y3, 3, .inl u3_1)), (h6, .inr (5, [.int x10, .int x11, .int x12, .int x13, .int x14, .int x15])), (h5, .inr (7, [.int x16, .int x17, .int x18, .int x19, .int x20])), (h0, .inr (2, [.ref h1, .ref h2, .ref h3, .int x1, .int x2, .int x3, .int x4, .int x5])), (h1, .inl (y0, 16, .inl u6_0))] H) (hD : va_D A [(h3, .inr (1, [.ref h4, .ref h5, .ref h6, .ref h7])), (h4, .inl (y1, 32768, .inl f1)), (h7, .inr (9, [.ref h8, .ref h9, .int u3_0, .int x7, .int x8, .int x9])), (h9, .inl (y2, 3, .inl f2)), (h8, .inl (y3, 3, .inl u3_1)), (h6, .inr (5, [.int x10, .int x11, .int x12, .int x13, .int x14, .int x15])), (h5, .inr (7, [.int x16, .int x17, .int x18, .int x19, .int x20])), (h0, .inr (2, [.ref h1, .ref h2, .ref h3, .int x1, .int x2, .int x3, .int x4, .int x5])), (h1, .inl (y0, 16, .inl u6_0))]) (hS : va_S A s.heap H locs) (ls : Array Slot) (hl : lv_has ls 4 []), W p l e (headSpec (Cond.code yX2_indexed cX2_indexed 4 (some .int) :: lw_G) ({ frames := 3, cells := 0, slots := 0, locals := 64 })).room s m ar below meth c H locs 0 0 Q (F0 m 60 ls [.int b14])) ?_ (fun j15 => ?_)
    · skip
      intro b14 H locs hK hP hD hS ls hl
      rw [hQ]
      obtain ⟨hP9, hD9⟩ := nv_sub2 (wc := [(h0, .inr (2, [.ref h1, .ref h2, .ref h3, .int x1, .int x2, .int x3, .int x4, .int x5])), (h1, .inl (y0, 16, .inl u6_0)), (h3, .inr (1, [.ref h4, .ref h5, .ref h6, .ref h7])), (h4, .inl (y1, 32768, .inl f1)), (h7, .inr (9, [.ref h8, .ref h9, .int u3_0, .int x7, .int x8, .int x9])), (h9, .inl (y2, 3, .inl f2)), (h8, .inl (y3, 3, .inl u3_1)), (h6, .inr (5, [.int x10, .int x11, .int x12, .int x13, .int x14, .int x15])), (h5, .inr (7, [.int x16, .int x17, .int x18, .int x19, .int x20]))]) hP hD [7, 8, 0, 1, 2, 3, 4, 5, 6] (by decide) rfl
      have hK9 := hK.sub (tys' := [(y0, .int), (y1, .int), (y2, .int), (y3, .int)]) [3, 0, 1, 2] rfl
      exact W.iret (v := b14) hx hb hr (fun t ht hW => ⟨⟨b14, (u6_0, u3_0, u3_1), rfl, trivial, by rw [ht]; exact hP9, va_K.moved hW.alike hK9, hD9⟩, hS.F ht⟩) hS.2.2 dX2_indexed_60
    refine lv_icmp_eq (tgt := 45) hx hb dX2_indexed_37 (by decide) (fun c9 => ?_) (fun c9 => ?_)
    · skip
      subst c9
      refine lv_iload_n hx hb dX2_indexed_45 rfl (lv_at hl 0 rfl) ?_
      refine lv_goto (tgt := 60) hx hb dX2_indexed_46 (by decide) ?_
      exact j15 r2 _ _ hK hP hD hS ls (lv_sub hl [] rfl)
    · skip
      refine lv_iload_n hx hb dX2_indexed_40 rfl (lv_at hl 3 rfl) ?_
      refine lv_iconst (v := 3) hx hb dX2_indexed_41 (by decide) ?_
      refine lv_icmp_ne (tgt := 49) hx hb dX2_indexed_42 (by decide) (fun c16 => ?_) (fun c16 => ?_)
      · skip
        refine lv_aload_n hx hb dX2_indexed_49 rfl (lv_at hl 2 rfl) ?_
        refine va_get (D := (dC, dI)) (ci := 2) (v := .ref h1) (C := RX2) (T := TX2) (N := 8) hx hb hG inGX2 hown hK hP 7 rfl rfl 0 (by decide) (hG _ wd_149) (fun _ h9 => h9) rfl dX2_indexed_50 ?_
        refine lv_iload_n hx hb dX2_indexed_53 rfl (lv_at hl 3 rfl) ?_
        refine va_iald hx hb hK hP 8 3 rfl rfl (iv_in j8 (by decide) (by decide) : vp_in x0 16) dX2_indexed_54 ?_
        refine lv_topi (fun v17 ev17 => ?_)
        refine lv_iload_n hx hb dX2_indexed_55 rfl (lv_at hl 0 rfl) ?_
        refine lv_iadd hx hb dX2_indexed_56 ?_
        refine lv_topi (fun v18 ev18 => ?_)
        refine lv_ldc hx hb hown (hG _ wd_829) dX2_indexed_57 ?_
        refine lv_iand hx hb dX2_indexed_59 ?_
        refine lv_topi (fun v19 ev19 => ?_)
        have iv19 : iv v19 0 65535 := iv_eq ev19 (iv_and (x := v18) (iv_w (by decide : iv 65535 65535 65535) (by decide) (by decide) : iv 65535 0 65535))
        exact j15 v19 _ _ hK hP hD hS ls (lv_sub hl [] rfl)
      · skip
        subst c16
        refine lv_iload_n hx hb dX2_indexed_45 rfl (lv_at hl 0 rfl) ?_
        refine lv_goto (tgt := 60) hx hb dX2_indexed_46 (by decide) ?_
        exact j15 r2 _ _ hK hP hD hS ls (lv_sub hl [] rfl)
  · skip
    subst c7
    refine lv_iload_n hx hb dX2_indexed_28 rfl (lv_at hl 1 rfl) ?_
    refine lv_iload_n hx hb dX2_indexed_29 rfl (lv_at hl 0 rfl) ?_
    refine lv_iadd hx hb dX2_indexed_30 ?_
    refine lv_topi (fun v20 ev20 => ?_)
    refine lv_ldc hx hb hown (hG _ wd_829) dX2_indexed_31 ?_
    refine lv_iand hx hb dX2_indexed_33 ?_
    refine lv_topi (fun v21 ev21 => ?_)
    have iv21 : iv v21 0 65535 := iv_eq ev21 (iv_and (x := v20) (iv_w (by decide : iv 65535 65535 65535) (by decide) (by decide) : iv 65535 0 65535))
    rw [hQ]
    obtain ⟨hP9, hD9⟩ := nv_sub2 (wc := [(h0, .inr (2, [.ref h1, .ref h2, .ref h3, .int x1, .int x2, .int x3, .int x4, .int x5])), (h1, .inl (y0, 16, .inl u6_0)), (h3, .inr (1, [.ref h4, .ref h5, .ref h6, .ref h7])), (h4, .inl (y1, 32768, .inl f1)), (h7, .inr (9, [.ref h8, .ref h9, .int u3_0, .int x7, .int x8, .int x9])), (h9, .inl (y2, 3, .inl f2)), (h8, .inl (y3, 3, .inl u3_1)), (h6, .inr (5, [.int x10, .int x11, .int x12, .int x13, .int x14, .int x15])), (h5, .inr (7, [.int x16, .int x17, .int x18, .int x19, .int x20]))]) hP hD [7, 8, 0, 1, 2, 3, 4, 5, 6] (by decide) rfl
    have hK9 := hK.sub (tys' := [(y0, .int), (y1, .int), (y2, .int), (y3, .int)]) [3, 0, 1, 2] rfl
    exact W.iret (v := v21) hx hb hr (fun t ht hW => ⟨⟨v21, (u6_0, u3_0, u3_1), rfl, trivial, by rw [ht]; exact hP9, va_K.moved hW.alike hK9, hD9⟩, hS.F ht⟩) hS.2.2 dX2_indexed_34
set_option maxHeartbeats 100000000 in
set_option maxRecDepth 100000 in
theorem cX1_readByte_1 (l : Launch) (dC : Nat → ClassId) (dI : Nat → Nat → Nat) (h0 h1 h2 h3 h4 h5 h6 : Nat) (y0 y1 y2 : ClassId) (sz : Nat) (x0 x1 x2 x3 x4 x5 x6 x7 x8 x9 x10 x11 x12 x13 x14 x15 : Int32) (f0 f1 f2 : Nat → Int32) (ix4 : iv x4 0 1) : Met l yX1_readByte (Cond.code yX1_readByte cX1_readByte 4 (some .int) :: lw_G) ({ frames := 2, cells := 0, slots := 0, locals := 42 }) (va_Pc [.ref h0, .int x0] (fun U => U.heap.size = sz ∧ va_P (dC, dI) vwCl [(h0, .inr (1, [.ref h1, .ref h2, .ref h3, .ref h4])), (h1, .inl (y0, 32768, .inl f0)), (h4, .inr (9, [.ref h5, .ref h6, .int x1, .int x2, .int x3, .int x4])), (h6, .inl (y1, 3, .inl f1)), (h5, .inl (y2, 3, .inl f2)), (h3, .inr (5, [.int x5, .int x6, .int x7, .int x8, .int x9, .int x10])), (h2, .inr (7, [.int x11, .int x12, .int x13, .int x14, .int x15]))] U.heap ∧ va_K (dC, dI) vwCl [(y0, .int), (y1, .int), (y2, .int)] U ∧ va_D (fun _ => True) [(h0, .inr (1, [.ref h1, .ref h2, .ref h3, .ref h4])), (h1, .inl (y0, 32768, .inl f0)), (h4, .inr (9, [.ref h5, .ref h6, .int x1, .int x2, .int x3, .int x4])), (h6, .inl (y1, 3, .inl f1)), (h5, .inl (y2, 3, .inl f2)), (h3, .inr (5, [.int x5, .int x6, .int x7, .int x8, .int x9, .int x10])), (h2, .inr (7, [.int x11, .int x12, .int x13, .int x14, .int x15]))])) (va_Qi (fun (r : Int32) (u : Int32 × (Nat → Int32)) => iv r (-8388608) 8388607 ∧ True) (fun (u : Int32 × (Nat → Int32)) (t : State) => va_P (dC, dI) vwCl [(h0, .inr (1, [.ref h1, .ref h2, .ref h3, .ref h4])), (h1, .inl (y0, 32768, .inl f0)), (h4, .inr (9, [.ref h5, .ref h6, .int u.1, .int x2, .int x3, .int x4])), (h6, .inl (y1, 3, .inl f1)), (h5, .inl (y2, 3, .inl u.2)), (h3, .inr (5, [.int x5, .int x6, .int x7, .int x8, .int x9, .int x10])), (h2, .inr (7, [.int x11, .int x12, .int x13, .int x14, .int x15]))] t.heap ∧ va_K (dC, dI) vwCl [(y0, .int), (y1, .int), (y2, .int)] t ∧ va_D (va_A [(h0, .inr (1, [.ref h1, .ref h2, .ref h3, .ref h4])), (h1, .inl (y0, 32768, .inl f0)), (h4, .inr (9, [.ref h5, .ref h6, .int x1, .int x2, .int x3, .int x4])), (h6, .inl (y1, 3, .inl f1)), (h5, .inl (y2, 3, .inl f2)), (h3, .inr (5, [.int x5, .int x6, .int x7, .int x8, .int x9, .int x10])), (h2, .inr (7, [.int x11, .int x12, .int x13, .int x14, .int x15]))] sz) [(h0, .inr (1, [.ref h1, .ref h2, .ref h3, .ref h4])), (h1, .inl (y0, 32768, .inl f0)), (h4, .inr (9, [.ref h5, .ref h6, .int u.1, .int x2, .int x3, .int x4])), (h6, .inl (y1, 3, .inl f1)), (h5, .inl (y2, 3, .inl u.2)), (h3, .inr (5, [.int x5, .int x6, .int x7, .int x8, .int x9, .int x10])), (h2, .inr (7, [.int x11, .int x12, .int x13, .int x14, .int x15]))]) (va_A [(h0, .inr (1, [.ref h1, .ref h2, .ref h3, .ref h4])), (h1, .inl (y0, 32768, .inl f0)), (h4, .inr (9, [.ref h5, .ref h6, .int x1, .int x2, .int x3, .int x4])), (h6, .inl (y1, 3, .inl f1)), (h5, .inl (y2, 3, .inl f2)), (h3, .inr (5, [.int x5, .int x6, .int x7, .int x8, .int x9, .int x10])), (h2, .inr (7, [.int x11, .int x12, .int x13, .int x14, .int x15]))] sz)) 0 0 (va_A [(h0, .inr (1, [.ref h1, .ref h2, .ref h3, .ref h4])), (h1, .inl (y0, 32768, .inl f0)), (h4, .inr (9, [.ref h5, .ref h6, .int x1, .int x2, .int x3, .int x4])), (h6, .inl (y1, 3, .inl f1)), (h5, .inl (y2, 3, .inl f2)), (h3, .inr (5, [.int x5, .int x6, .int x7, .int x8, .int x9, .int x10])), (h2, .inr (7, [.int x11, .int x12, .int x13, .int x14, .int x15]))] sz) := by
  refine Met.ofW (cc := cX1_readByte) (maxL := 4) (ret := (some .int)) (by decide) rfl ?_
  intro p e s m args below meth c s₁ B hml hv
  obtain ⟨rfl, hsz, hP, hK, hD0⟩ := hv
  have hx := B.exec
  have hb := B.bytes
  have hr := B.returns
  have hts0 := atoms_spec (ws := Cond.code yX1_readByte cX1_readByte 4 (some .int) :: lw_G) B.pre
  have hG : ∀ w ∈ lw_G, w.before _ s = true := fun w h => hts0 w (List.mem_cons_of_mem _ h)
  have hown : s.vm.findClass RX1 = some m.cls := findClass_of_methodNamed B.named
  have hlocks := B.notSynchronized
  subst hsz
  have hD := hD0.self (sz := s.heap.size)
  generalize hAe : va_A [(h0, .inr (1, [.ref h1, .ref h2, .ref h3, .ref h4])), (h1, .inl (y0, 32768, .inl f0)), (h4, .inr (9, [.ref h5, .ref h6, .int x1, .int x2, .int x3, .int x4])), (h6, .inl (y1, 3, .inl f1)), (h5, .inl (y2, 3, .inl f2)), (h3, .inr (5, [.int x5, .int x6, .int x7, .int x8, .int x9, .int x10])), (h2, .inr (7, [.int x11, .int x12, .int x13, .int x14, .int x15]))] s.heap.size = A at hD ⊢
  have hA : ∀ q : Nat, s.heap.size ≤ q → A q := fun q h => by rw [← hAe]; exact Or.inr h
  have hS : va_S A s.heap s.heap [] := va_S.rf
  have hP : va_P (dC, dI) vwCl [(h0, .inr (1, [.ref h1, .ref h2, .ref h3, .ref h4])), (h1, .inl (y0, 32768, .inl f0)), (h4, .inr (9, [.ref h5, .ref h6, .int x1, .int x2, .int x3, .int x4])), (h6, .inl (y1, 3, .inl f1)), (h5, .inl (y2, 3, .inl f2)), (h3, .inr (5, [.int x5, .int x6, .int x7, .int x8, .int x9, .int x10])), (h2, .inr (7, [.int x11, .int x12, .int x13, .int x14, .int x15]))] s.heap := hP
  have hl := lv_entry ([.ref h0, .int x0]) (n := 4) (Nat.le_of_ble_eq_true rfl)
  rw [lg_entry_eq]
  generalize (lg_sl ([.ref h0, .int x0]) ++ List.replicate (4 - (lg_sl ([.ref h0, .int x0])).length) Slot.unset).toArray = ls at hl ⊢
  have hl : lv_has ls 4 [(0, .ref h0), (1, .int x0)] := hl
  generalize ([.ref h0, .int x0] : List Value).toArray = ar at hG ⊢
  refine wq (fun Q hQ => ?_)
  refine lv_iload_n hx hb dX1_readByte_0 rfl (lv_at hl 1 rfl) ?_
  refine lv_ldc hx hb hown (hG _ wd_719) dX1_readByte_1 ?_
  refine lv_iand hx hb dX1_readByte_3 ?_
  refine lv_topi (fun v1 ev1 => ?_)
  have iv1 : iv v1 0 65534 := iv_eq ev1 (iv_and (x := x0) (iv_w (by decide : iv 65534 65534 65534) (by decide) (by decide) : iv 65534 0 65534))
  refine lv_istore_n (lv' := [(2, .int v1), (0, .ref h0), (1, .int x0)]) hx hb dX1_readByte_4 rfl hl (by decide) rfl (fun ls hl => ?_)
  refine lv_iload_n hx hb dX1_readByte_5 rfl (lv_at hl 0 rfl) ?_
  refine lv_sipush (v := 302) hx hb dX1_readByte_6 (by decide) ?_
  refine jcut (a := ∀ (b13 : Int32) (b14 : Int32) (b15 : Nat → Int32) (H : Heap) (locs : List Loc) (hK : va_K (dC, dI) vwCl [(y0, .int), (y1, .int), (y2, .int)] s) (hP : va_P (dC, dI) vwCl [(h0, .inr (1, [.ref h1, .ref h2, .ref h3, .ref h4])), (h1, .inl (y0, 32768, .inl f0)), (h4, .inr (9, [.ref h5, .ref h6, .int b14, .int x2, .int x3, .int x4])), (h6, .inl (y1, 3, .inl f1)), (h5, .inl (y2, 3, .inl b15)), (h3, .inr (5, [.int x5, .int x6, .int x7, .int x8, .int x9, .int x10])), (h2, .inr (7, [.int x11, .int x12, .int x13, .int x14, .int x15]))] H) (hD : va_D A [(h0, .inr (1, [.ref h1, .ref h2, .ref h3, .ref h4])), (h1, .inl (y0, 32768, .inl f0)), (h4, .inr (9, [.ref h5, .ref h6, .int b14, .int x2, .int x3, .int x4])), (h6, .inl (y1, 3, .inl f1)), (h5, .inl (y2, 3, .inl b15)), (h3, .inr (5, [.int x5, .int x6, .int x7, .int x8, .int x9, .int x10])), (h2, .inr (7, [.int x11, .int x12, .int x13, .int x14, .int x15]))]) (hS : va_S A s.heap H locs) (ls : Array Slot) (hl : lv_has ls 4 [(3, .int b13), (1, .int x0)]), W p l e (headSpec (Cond.code yX1_readByte cX1_readByte 4 (some .int) :: lw_G) ({ frames := 2, cells := 0, slots := 0, locals := 42 })).room s m ar below meth c H locs 0 0 Q (F0 m 47 ls [])) ?_ (fun j16 => ?_)
  · skip
    intro b13 b14 b15 H locs hK hP hD hS ls hl
    refine lv_iload_n hx hb dX1_readByte_47 rfl (lv_at hl 1 rfl) ?_
    refine lv_iconst (v := 1) hx hb dX1_readByte_48 (by decide) ?_
    refine lv_iand hx hb dX1_readByte_49 ?_
    refine lv_topi (fun v17 ev17 => ?_)
    have iv17 : iv v17 0 1 := iv_eq ev17 (iv_and (x := x0) (iv_w (by decide : iv 1 1 1) (by decide) (by decide) : iv 1 0 1))
    refine jcut (a := ∀ (b22 : Int32) (ib22 : iv b22 (-8388608) 8388607) (H : Heap) (locs : List Loc) (hK : va_K (dC, dI) vwCl [(y0, .int), (y1, .int), (y2, .int)] s) (hP : va_P (dC, dI) vwCl [(h0, .inr (1, [.ref h1, .ref h2, .ref h3, .ref h4])), (h1, .inl (y0, 32768, .inl f0)), (h4, .inr (9, [.ref h5, .ref h6, .int b14, .int x2, .int x3, .int x4])), (h6, .inl (y1, 3, .inl f1)), (h5, .inl (y2, 3, .inl b15)), (h3, .inr (5, [.int x5, .int x6, .int x7, .int x8, .int x9, .int x10])), (h2, .inr (7, [.int x11, .int x12, .int x13, .int x14, .int x15]))] H) (hD : va_D A [(h0, .inr (1, [.ref h1, .ref h2, .ref h3, .ref h4])), (h1, .inl (y0, 32768, .inl f0)), (h4, .inr (9, [.ref h5, .ref h6, .int b14, .int x2, .int x3, .int x4])), (h6, .inl (y1, 3, .inl f1)), (h5, .inl (y2, 3, .inl b15)), (h3, .inr (5, [.int x5, .int x6, .int x7, .int x8, .int x9, .int x10])), (h2, .inr (7, [.int x11, .int x12, .int x13, .int x14, .int x15]))]) (hS : va_S A s.heap H locs) (ls : Array Slot) (hl : lv_has ls 4 []), W p l e (headSpec (Cond.code yX1_readByte cX1_readByte 4 (some .int) :: lw_G) ({ frames := 2, cells := 0, slots := 0, locals := 42 })).room s m ar below meth c H locs 0 0 Q (F0 m 65 ls [.int b22])) ?_ (fun j23 => ?_)
    · skip
      intro b22 ib22 H locs hK hP hD hS ls hl
      rw [hQ]
      obtain ⟨hP9, hD9⟩ := nv_sub2 (wc := [(h0, .inr (1, [.ref h1, .ref h2, .ref h3, .ref h4])), (h1, .inl (y0, 32768, .inl f0)), (h4, .inr (9, [.ref h5, .ref h6, .int b14, .int x2, .int x3, .int x4])), (h6, .inl (y1, 3, .inl f1)), (h5, .inl (y2, 3, .inl b15)), (h3, .inr (5, [.int x5, .int x6, .int x7, .int x8, .int x9, .int x10])), (h2, .inr (7, [.int x11, .int x12, .int x13, .int x14, .int x15]))]) hP hD [0, 1, 2, 3, 4, 5, 6] (by decide) rfl
      have hK9 := hK.sub (tys' := [(y0, .int), (y1, .int), (y2, .int)]) [0, 1, 2] rfl
      exact W.iret (v := b22) hx hb hr (fun t ht hW => ⟨⟨b22, (b14, b15), rfl, ⟨iv_w ib22 (by decide) (by decide), trivial⟩, by rw [ht]; exact hP9, va_K.moved hW.alike hK9, hD9⟩, hS.F ht⟩) hS.2.2 dX1_readByte_65
    refine lv_if_ne (tgt := 61) hx hb dX1_readByte_50 (by decide) (fun c18 => ?_) (fun c18 => ?_)
    · skip
      have j24 : iv v17 1 1 := iv_neLo iv17 (by decide : iv 0 0 0) c18 (by decide)
      refine lv_iload_n hx hb dX1_readByte_61 rfl (lv_at hl 0 rfl) ?_
      refine lv_bipush (v := 8) hx hb dX1_readByte_62 (by decide) ?_
      refine lv_ishr hx hb dX1_readByte_64 ?_
      refine lv_topi (fun v25 ev25 => ?_)
      have iv25 : iv v25 (-8388608) 8388607 := iv_eq ev25 (iv_shr 8 (by decide) (iv_any b13) (by decide) (by decide))
      exact j23 v25 iv25 _ _ hK hP hD hS ls (lv_sub hl [] rfl)
    · skip
      subst c18
      refine lv_iload_n hx hb dX1_readByte_53 rfl (lv_at hl 0 rfl) ?_
      refine lv_sipush (v := 255) hx hb dX1_readByte_54 (by decide) ?_
      refine lv_iand hx hb dX1_readByte_57 ?_
      refine lv_topi (fun v26 ev26 => ?_)
      have iv26 : iv v26 0 255 := iv_eq ev26 (iv_and (x := b13) (iv_w (by decide : iv 255 255 255) (by decide) (by decide) : iv 255 0 255))
      refine lv_goto (tgt := 65) hx hb dX1_readByte_58 (by decide) ?_
      exact j23 v26 (iv_w iv26 (by decide) (by decide)) _ _ hK hP hD hS ls (lv_sub hl [] rfl)
  refine lv_icmp_ne (tgt := 23) hx hb dX1_readByte_9 (by decide) (fun c2 => ?_) (fun c2 => ?_)
  · skip
    refine lv_iload_n hx hb dX1_readByte_23 rfl (lv_at hl 0 rfl) ?_
    refine lv_sipush (v := 512) hx hb dX1_readByte_24 (by decide) ?_
    refine jcut (a := ∀ (b34 : Int32) (H : Heap) (locs : List Loc) (hK : va_K (dC, dI) vwCl [(y0, .int), (y1, .int), (y2, .int)] s) (hP : va_P (dC, dI) vwCl [(h0, .inr (1, [.ref h1, .ref h2, .ref h3, .ref h4])), (h1, .inl (y0, 32768, .inl f0)), (h4, .inr (9, [.ref h5, .ref h6, .int x1, .int x2, .int x3, .int x4])), (h6, .inl (y1, 3, .inl f1)), (h5, .inl (y2, 3, .inl f2)), (h3, .inr (5, [.int x5, .int x6, .int x7, .int x8, .int x9, .int x10])), (h2, .inr (7, [.int x11, .int x12, .int x13, .int x14, .int x15]))] H) (hD : va_D A [(h0, .inr (1, [.ref h1, .ref h2, .ref h3, .ref h4])), (h1, .inl (y0, 32768, .inl f0)), (h4, .inr (9, [.ref h5, .ref h6, .int x1, .int x2, .int x3, .int x4])), (h6, .inl (y1, 3, .inl f1)), (h5, .inl (y2, 3, .inl f2)), (h3, .inr (5, [.int x5, .int x6, .int x7, .int x8, .int x9, .int x10])), (h2, .inr (7, [.int x11, .int x12, .int x13, .int x14, .int x15]))]) (hS : va_S A s.heap H locs) (ls : Array Slot) (hl : lv_has ls 4 [(1, .int x0)]), W p l e (headSpec (Cond.code yX1_readByte cX1_readByte 4 (some .int) :: lw_G) ({ frames := 2, cells := 0, slots := 0, locals := 42 })).room s m ar below meth c H locs 0 0 Q (F0 m 46 ls [.int b34])) ?_ (fun j35 => ?_)
    · skip
      intro b34 H locs hK hP hD hS ls hl
      refine lv_istore_n (lv' := [(3, .int b34), (1, .int x0)]) hx hb dX1_readByte_46 rfl hl (by decide) rfl (fun ls hl => ?_)
      exact j16 b34 x1 f2 _ _ hK hP hD hS ls hl
    refine lv_icmp_ge (tgt := 38) hx hb dX1_readByte_27 (by decide) (fun c27 => ?_) (fun c27 => ?_)
    · skip
      have j36 : iv v1 512 65534 := iv_leR (by decide : iv 512 512 512) iv1 c27 (by decide)
      refine lv_aload_n hx hb dX1_readByte_38 rfl (lv_at hl 1 rfl) ?_
      refine va_get (D := (dC, dI)) (ci := 1) (v := .ref h1) (C := RX1) (T := TX1) (N := 4) hx hb hG inGX1 hown hK hP 0 rfl rfl 0 (by decide) (hG _ wd_114) (fun _ h9 => h9) rfl dX1_readByte_39 ?_
      refine lv_iload_n hx hb dX1_readByte_42 rfl (lv_at hl 0 rfl) ?_
      refine lv_iconst (v := 1) hx hb dX1_readByte_43 (by decide) ?_
      refine lv_ishr hx hb dX1_readByte_44 ?_
      refine lv_topi (fun v37 ev37 => ?_)
      have iv37 : iv v37 256 32767 := iv_eq ev37 (iv_shr 1 (by decide) j36 (by decide) (by decide))
      refine va_iald hx hb hK hP 1 0 rfl rfl (iv_in iv37 (by decide) (by decide) : vp_in v37 32768) dX1_readByte_45 ?_
      refine lv_topi (fun v38 ev38 => ?_)
      exact j35 v38 _ _ hK hP hD hS ls (lv_sub hl [2] rfl)
    · skip
      have j39 : iv v1 0 511 := iv_nleR (by decide : iv 512 512 512) iv1 c27 (by decide)
      refine lv_aload_n hx hb dX1_readByte_30 rfl (lv_at hl 1 rfl) ?_
      refine lv_iload_n hx hb dX1_readByte_31 rfl (lv_at hl 0 rfl) ?_
      obtain ⟨hPc, hDc, hFc⟩ := nv_sub3 (wc := [(h0, .inr (1, [.ref h1, .ref h2, .ref h3, .ref h4])), (h4, .inr (9, [.ref h5, .ref h6, .int x1, .int x2, .int x3, .int x4])), (h6, .inl (y1, 3, .inl f1)), (h5, .inl (y2, 3, .inl f2)), (h3, .inr (5, [.int x5, .int x6, .int x7, .int x8, .int x9, .int x10])), (h2, .inr (7, [.int x11, .int x12, .int x13, .int x14, .int x15]))]) hP hD hS hA [0, 2, 3, 4, 5, 6] (by decide) rfl
      have hKc := hK.sub (tys' := [(y1, .int), (y2, .int)]) [1, 2] rfl
      refine va_calli (va_runV (As := [.int v1]) (rest := []) ⟨hx, hb, hml, hown, hG⟩ (cX1_thingWord_1 l dC dI h0 h1 h2 h3 h4 h5 h6 y1 y2 s.heap.size v1 x1 x2 x3 x4 x5 x6 x7 x8 x9 x10 x11 x12 x13 x14 x15 f1 f2 ix4) (cwV 1 hG (gV wd_720 wd_722 wp_27 wd_2 wd_723) rfl rfl rfl (by decide +kernel) ⟨Nat.le_of_ble_eq_true rfl, Nat.le_of_ble_eq_true rfl⟩) ⟨fun a U g mk q => by obtain ⟨q0, q1, qP, qK, qD⟩ := q; exact ⟨q0, q1, qP, va_K.moved (u := U) (U := U.calling g mk a) (Vm.Alike.refl U.vm) qK, qD⟩, va_recv hKc hPc (ci := 1) (q0 := 0) rfl rfl, fun U hU hW => ⟨rfl, by rw [hU], by rw [hU]; exact hPc, va_K.moved hW.alike hKc, hDc.weaken (fun _ _ _ _ => trivial)⟩⟩ rfl rfl hl.1 rfl (lv_room (Nat.le_of_ble_eq_true rfl)) dX1_readByte_32 ⟨by decide, by decide⟩) hS (fun q _ h => hFc q h) hFc (fun r40 u41 t H1 locs ht hvm hw hB hz1 hk1 hS => ?_)
      obtain ⟨hP1, hK1, hD1⟩ := hB
      rw [ht] at hP1
      have hK1 := va_K.moved hvm.symm hK1
      obtain ⟨hP, hD⟩ := nv_join (wf := [(h1, .inl (y0, 32768, .inl f0)), (h0, .inr (1, [.ref h1, .ref h2, .ref h3, .ref h4])), (h4, .inr (9, [.ref h5, .ref h6, .int x1, .int x2, .int x3, .int x4])), (h6, .inl (y1, 3, .inl f1)), (h5, .inl (y2, 3, .inl f2)), (h3, .inr (5, [.int x5, .int x6, .int x7, .int x8, .int x9, .int x10])), (h2, .inr (7, [.int x11, .int x12, .int x13, .int x14, .int x15]))]) hP hD [0, 2, 3, 4, 5, 6] [1] rfl rfl (by decide) (by decide) hk1 hFc hP1 hD1 rfl
      have hK := (hK.sub (tys' := [(y0, .int)]) [0] rfl).app hK1
      generalize H1 = H at hP hS ⊢
      have hK : va_K (dC, dI) vwCl [(y0, .int), (y1, .int), (y2, .int)] s := hK
      refine lv_goto (tgt := 46) hx hb dX1_readByte_35 (by decide) ?_
      exact j35 r40 _ _ hK (hP.sub (ws' := _) [1, 0, 2, 3, 4, 5, 6] rfl) (hD.sub (ws' := _) [1, 0, 2, 3, 4, 5, 6] (by decide) rfl) hS ls (lv_sub hl [2] rfl)
  · skip
    subst c2
    refine lv_aload_n hx hb dX1_readByte_12 rfl (lv_at hl 1 rfl) ?_
    refine va_get (D := (dC, dI)) (ci := 1) (v := .ref h4) (C := RX1) (T := TX1) (N := 4) hx hb hG inGX1 hown hK hP 0 rfl rfl 3 (by decide) (hG _ wd_117) (fun _ h9 => h9) rfl dX1_readByte_13 ?_
    obtain ⟨hPc, hDc, hFc⟩ := nv_sub3 (wc := [(h4, .inr (9, [.ref h5, .ref h6, .int x1, .int x2, .int x3, .int x4])), (h5, .inl (y2, 3, .inl f2))]) hP hD hS hA [2, 4] (by decide) rfl
    have hKc := hK.sub (tys' := [(y2, .int)]) [2] rfl
    refine va_calli (va_runV (As := []) (rest := []) ⟨hx, hb, hml, hown, hG⟩ (cX9_takeVector_1 l dC dI h4 h5 h6 y2 s.heap.size x1 x2 x3 x4 f2 ix4) (cwV 0 hG (gV wd_745 wd_746 wd_747 wd_5 wd_748) rfl rfl rfl (by decide +kernel) ⟨Nat.le_of_ble_eq_true rfl, Nat.le_of_ble_eq_true rfl⟩) ⟨fun a U g mk q => by obtain ⟨q0, q1, qP, qK, qD⟩ := q; exact ⟨q0, q1, qP, va_K.moved (u := U) (U := U.calling g mk a) (Vm.Alike.refl U.vm) qK, qD⟩, va_recv hKc hPc (ci := 9) (q0 := 0) rfl rfl, fun U hU hW => ⟨rfl, by rw [hU], by rw [hU]; exact hPc, va_K.moved hW.alike hKc, hDc.weaken (fun _ _ _ _ => trivial)⟩⟩ rfl rfl hl.1 rfl (lv_room (Nat.le_of_ble_eq_true rfl)) dX1_readByte_16 ⟨by decide, by decide⟩) hS (fun q _ h => hFc q h) hFc (fun r42 u43 t H1 locs ht hvm hw hB hz1 hk1 hS => ?_)
    obtain ⟨u43_0, u43_1⟩ := u43
    have hw : iv r42 0 10 ∧ True := hw
    obtain ⟨ir42, -⟩ := hw
    obtain ⟨hP1, hK1, hD1⟩ := hB
    rw [ht] at hP1
    have hK1 := va_K.moved hvm.symm hK1
    obtain ⟨hP, hD⟩ := nv_join (wf := [(h0, .inr (1, [.ref h1, .ref h2, .ref h3, .ref h4])), (h1, .inl (y0, 32768, .inl f0)), (h6, .inl (y1, 3, .inl f1)), (h3, .inr (5, [.int x5, .int x6, .int x7, .int x8, .int x9, .int x10])), (h2, .inr (7, [.int x11, .int x12, .int x13, .int x14, .int x15])), (h4, .inr (9, [.ref h5, .ref h6, .int u43_0, .int x2, .int x3, .int x4])), (h5, .inl (y2, 3, .inl u43_1))]) hP hD [2, 4] [0, 1, 3, 5, 6] rfl rfl (by decide) (by decide) hk1 hFc hP1 hD1 rfl
    have hK := (hK.sub (tys' := [(y0, .int), (y1, .int)]) [0, 1] rfl).app hK1
    generalize H1 = H at hP hS ⊢
    have hK : va_K (dC, dI) vwCl [(y0, .int), (y1, .int), (y2, .int)] s := hK
    refine lv_istore_n (lv' := [(3, .int r42), (2, .int 302), (0, .ref h0), (1, .int x0)]) hx hb dX1_readByte_19 rfl hl (by decide) rfl (fun ls hl => ?_)
    refine lv_goto (tgt := 47) hx hb dX1_readByte_20 (by decide) ?_
    exact j16 r42 u43_0 u43_1 _ _ hK (hP.sub (ws' := _) [0, 1, 5, 2, 6, 3, 4] rfl) (hD.sub (ws' := _) [0, 1, 5, 2, 6, 3, 4] (by decide) rfl) hS ls (lv_sub hl [0, 3] rfl)
set_option maxHeartbeats 100000000 in
set_option maxRecDepth 100000 in
theorem cX2_load_1 (l : Launch) (dC : Nat → ClassId) (dI : Nat → Nat → Nat) (h0 h1 h2 h3 h4 h5 h6 h7 h8 h9 : Nat) (y0 y1 y2 y3 : ClassId) (sz : Nat) (x0 x1 x2 x3 x4 x5 x6 x7 x8 x9 x10 x11 x12 x13 x14 x15 x16 x17 x18 x19 : Int32) (f0 f1 f2 f3 : Nat → Int32) (ix4 : iv x4 0 1) (ix8 : iv x8 0 1) : Met l yX2_load (Cond.code yX2_load cX2_load 2 (some .int) :: lw_G) ({ frames := 3, cells := 0, slots := 0, locals := 65 }) (va_Pc [.ref h0] (fun U => U.heap.size = sz ∧ va_P (dC, dI) vwCl [(h0, .inr (2, [.ref h1, .ref h2, .ref h3, .int x0, .int x1, .int x2, .int x3, .int x4])), (h3, .inr (1, [.ref h4, .ref h5, .ref h6, .ref h7])), (h4, .inl (y0, 32768, .inl f0)), (h7, .inr (9, [.ref h8, .ref h9, .int x5, .int x6, .int x7, .int x8])), (h9, .inl (y1, 3, .inl f1)), (h8, .inl (y2, 3, .inl f2)), (h6, .inr (5, [.int x9, .int x10, .int x11, .int x12, .int x13, .int x14])), (h5, .inr (7, [.int x15, .int x16, .int x17, .int x18, .int x19])), (h1, .inl (y3, 16, .inl f3))] U.heap ∧ va_K (dC, dI) vwCl [(y0, .int), (y1, .int), (y2, .int), (y3, .int)] U ∧ va_D (fun _ => True) [(h0, .inr (2, [.ref h1, .ref h2, .ref h3, .int x0, .int x1, .int x2, .int x3, .int x4])), (h3, .inr (1, [.ref h4, .ref h5, .ref h6, .ref h7])), (h4, .inl (y0, 32768, .inl f0)), (h7, .inr (9, [.ref h8, .ref h9, .int x5, .int x6, .int x7, .int x8])), (h9, .inl (y1, 3, .inl f1)), (h8, .inl (y2, 3, .inl f2)), (h6, .inr (5, [.int x9, .int x10, .int x11, .int x12, .int x13, .int x14])), (h5, .inr (7, [.int x15, .int x16, .int x17, .int x18, .int x19])), (h1, .inl (y3, 16, .inl f3))])) (va_Qi (fun (r : Int32) (u : Int32 × Int32 × (Nat → Int32)) => iv u.1 0 1 ∧ True) (fun (u : Int32 × Int32 × (Nat → Int32)) (t : State) => va_P (dC, dI) vwCl [(h0, .inr (2, [.ref h1, .ref h2, .ref h3, .int x0, .int x1, .int x2, .int x3, .int u.1])), (h3, .inr (1, [.ref h4, .ref h5, .ref h6, .ref h7])), (h4, .inl (y0, 32768, .inl f0)), (h7, .inr (9, [.ref h8, .ref h9, .int u.2.1, .int x6, .int x7, .int x8])), (h9, .inl (y1, 3, .inl f1)), (h8, .inl (y2, 3, .inl u.2.2)), (h6, .inr (5, [.int x9, .int x10, .int x11, .int x12, .int x13, .int x14])), (h5, .inr (7, [.int x15, .int x16, .int x17, .int x18, .int x19])), (h1, .inl (y3, 16, .inl f3))] t.heap ∧ va_K (dC, dI) vwCl [(y0, .int), (y1, .int), (y2, .int), (y3, .int)] t ∧ va_D (va_A [(h0, .inr (2, [.ref h1, .ref h2, .ref h3, .int x0, .int x1, .int x2, .int x3, .int x4])), (h3, .inr (1, [.ref h4, .ref h5, .ref h6, .ref h7])), (h4, .inl (y0, 32768, .inl f0)), (h7, .inr (9, [.ref h8, .ref h9, .int x5, .int x6, .int x7, .int x8])), (h9, .inl (y1, 3, .inl f1)), (h8, .inl (y2, 3, .inl f2)), (h6, .inr (5, [.int x9, .int x10, .int x11, .int x12, .int x13, .int x14])), (h5, .inr (7, [.int x15, .int x16, .int x17, .int x18, .int x19])), (h1, .inl (y3, 16, .inl f3))] sz) [(h0, .inr (2, [.ref h1, .ref h2, .ref h3, .int x0, .int x1, .int x2, .int x3, .int u.1])), (h3, .inr (1, [.ref h4, .ref h5, .ref h6, .ref h7])), (h4, .inl (y0, 32768, .inl f0)), (h7, .inr (9, [.ref h8, .ref h9, .int u.2.1, .int x6, .int x7, .int x8])), (h9, .inl (y1, 3, .inl f1)), (h8, .inl (y2, 3, .inl u.2.2)), (h6, .inr (5, [.int x9, .int x10, .int x11, .int x12, .int x13, .int x14])), (h5, .inr (7, [.int x15, .int x16, .int x17, .int x18, .int x19])), (h1, .inl (y3, 16, .inl f3))]) (va_A [(h0, .inr (2, [.ref h1, .ref h2, .ref h3, .int x0, .int x1, .int x2, .int x3, .int x4])), (h3, .inr (1, [.ref h4, .ref h5, .ref h6, .ref h7])), (h4, .inl (y0, 32768, .inl f0)), (h7, .inr (9, [.ref h8, .ref h9, .int x5, .int x6, .int x7, .int x8])), (h9, .inl (y1, 3, .inl f1)), (h8, .inl (y2, 3, .inl f2)), (h6, .inr (5, [.int x9, .int x10, .int x11, .int x12, .int x13, .int x14])), (h5, .inr (7, [.int x15, .int x16, .int x17, .int x18, .int x19])), (h1, .inl (y3, 16, .inl f3))] sz)) 0 0 (va_A [(h0, .inr (2, [.ref h1, .ref h2, .ref h3, .int x0, .int x1, .int x2, .int x3, .int x4])), (h3, .inr (1, [.ref h4, .ref h5, .ref h6, .ref h7])), (h4, .inl (y0, 32768, .inl f0)), (h7, .inr (9, [.ref h8, .ref h9, .int x5, .int x6, .int x7, .int x8])), (h9, .inl (y1, 3, .inl f1)), (h8, .inl (y2, 3, .inl f2)), (h6, .inr (5, [.int x9, .int x10, .int x11, .int x12, .int x13, .int x14])), (h5, .inr (7, [.int x15, .int x16, .int x17, .int x18, .int x19])), (h1, .inl (y3, 16, .inl f3))] sz) := by
  refine Met.ofW (cc := cX2_load) (maxL := 2) (ret := (some .int)) (by decide) rfl ?_
  intro p e s m args below meth c s₁ B hml hv
  obtain ⟨rfl, hsz, hP, hK, hD0⟩ := hv
  have hx := B.exec
  have hb := B.bytes
  have hr := B.returns
  have hts0 := atoms_spec (ws := Cond.code yX2_load cX2_load 2 (some .int) :: lw_G) B.pre
  have hG : ∀ w ∈ lw_G, w.before _ s = true := fun w h => hts0 w (List.mem_cons_of_mem _ h)
  have hown : s.vm.findClass RX2 = some m.cls := findClass_of_methodNamed B.named
  have hlocks := B.notSynchronized
  subst hsz
  have hD := hD0.self (sz := s.heap.size)
  generalize hAe : va_A [(h0, .inr (2, [.ref h1, .ref h2, .ref h3, .int x0, .int x1, .int x2, .int x3, .int x4])), (h3, .inr (1, [.ref h4, .ref h5, .ref h6, .ref h7])), (h4, .inl (y0, 32768, .inl f0)), (h7, .inr (9, [.ref h8, .ref h9, .int x5, .int x6, .int x7, .int x8])), (h9, .inl (y1, 3, .inl f1)), (h8, .inl (y2, 3, .inl f2)), (h6, .inr (5, [.int x9, .int x10, .int x11, .int x12, .int x13, .int x14])), (h5, .inr (7, [.int x15, .int x16, .int x17, .int x18, .int x19])), (h1, .inl (y3, 16, .inl f3))] s.heap.size = A at hD ⊢
  have hA : ∀ q : Nat, s.heap.size ≤ q → A q := fun q h => by rw [← hAe]; exact Or.inr h
  have hS : va_S A s.heap s.heap [] := va_S.rf
  have hP : va_P (dC, dI) vwCl [(h0, .inr (2, [.ref h1, .ref h2, .ref h3, .int x0, .int x1, .int x2, .int x3, .int x4])), (h3, .inr (1, [.ref h4, .ref h5, .ref h6, .ref h7])), (h4, .inl (y0, 32768, .inl f0)), (h7, .inr (9, [.ref h8, .ref h9, .int x5, .int x6, .int x7, .int x8])), (h9, .inl (y1, 3, .inl f1)), (h8, .inl (y2, 3, .inl f2)), (h6, .inr (5, [.int x9, .int x10, .int x11, .int x12, .int x13, .int x14])), (h5, .inr (7, [.int x15, .int x16, .int x17, .int x18, .int x19])), (h1, .inl (y3, 16, .inl f3))] s.heap := hP
  have hl := lv_entry ([.ref h0]) (n := 2) (Nat.le_of_ble_eq_true rfl)
  rw [lg_entry_eq]
  generalize (lg_sl ([.ref h0]) ++ List.replicate (2 - (lg_sl ([.ref h0])).length) Slot.unset).toArray = ls at hl ⊢
  have hl : lv_has ls 2 [(0, .ref h0)] := hl
  generalize ([.ref h0] : List Value).toArray = ar at hG ⊢
  refine wq (fun Q hQ => ?_)
  refine lv_aload_n hx hb dX2_load_0 rfl (lv_at hl 0 rfl) ?_
  refine va_get (D := (dC, dI)) (ci := 2) (v := .int x3) (C := RX2) (T := TX2) (N := 8) hx hb hG inGX2 hown hK hP 0 rfl rfl 6 (by decide) (hG _ wd_155) (fun _ h9 => h9) rfl dX2_load_1 ?_
  refine lv_ldc hx hb hown (hG _ wd_1026) dX2_load_4 ?_
  refine lv_icmp_lt (tgt := 39) hx hb dX2_load_6 (by decide) (fun c1 => ?_) (fun c1 => ?_)
  · skip
    have j2 : iv x3 (-2147483648) 65535 := iv_ltL (iv_any x3) (by decide : iv 65536 65536 65536) c1 (by decide)
    refine lv_aload_n hx hb dX2_load_39 rfl (lv_at hl 0 rfl) ?_
    refine va_get (D := (dC, dI)) (ci := 2) (v := .int x4) (C := RX2) (T := TX2) (N := 8) hx hb hG inGX2 hown hK hP 0 rfl rfl 7 (by decide) (hG _ wd_156) (fun _ h9 => h9) rfl dX2_load_40 ?_
    refine jcut (a := ∀ (b9 : Int32) (b10 : Int32) (b11 : Int32) (b12 : Nat → Int32) (ib10 : iv b10 0 1) (H : Heap) (locs : List Loc) (hK : va_K (dC, dI) vwCl [(y3, .int), (y0, .int), (y1, .int), (y2, .int)] s) (hP : va_P (dC, dI) vwCl [(h0, .inr (2, [.ref h1, .ref h2, .ref h3, .int x0, .int x1, .int x2, .int x3, .int b10])), (h1, .inl (y3, 16, .inl f3)), (h3, .inr (1, [.ref h4, .ref h5, .ref h6, .ref h7])), (h4, .inl (y0, 32768, .inl f0)), (h7, .inr (9, [.ref h8, .ref h9, .int b11, .int x6, .int x7, .int x8])), (h9, .inl (y1, 3, .inl f1)), (h8, .inl (y2, 3, .inl b12)), (h6, .inr (5, [.int x9, .int x10, .int x11, .int x12, .int x13, .int x14])), (h5, .inr (7, [.int x15, .int x16, .int x17, .int x18, .int x19]))] H) (hD : va_D A [(h0, .inr (2, [.ref h1, .ref h2, .ref h3, .int x0, .int x1, .int x2, .int x3, .int b10])), (h1, .inl (y3, 16, .inl f3)), (h3, .inr (1, [.ref h4, .ref h5, .ref h6, .ref h7])), (h4, .inl (y0, 32768, .inl f0)), (h7, .inr (9, [.ref h8, .ref h9, .int b11, .int x6, .int x7, .int x8])), (h9, .inl (y1, 3, .inl f1)), (h8, .inl (y2, 3, .inl b12)), (h6, .inr (5, [.int x9, .int x10, .int x11, .int x12, .int x13, .int x14])), (h5, .inr (7, [.int x15, .int x16, .int x17, .int x18, .int x19]))]) (hS : va_S A s.heap H locs) (ls : Array Slot) (hl : lv_has ls 2 []), W p l e (headSpec (Cond.code yX2_load cX2_load 2 (some .int) :: lw_G) ({ frames := 3, cells := 0, slots := 0, locals := 65 })).room s m ar below meth c H locs 0 0 Q (F0 m 71 ls [.int b9])) ?_ (fun j13 => ?_)
    · skip
      intro b9 b10 b11 b12 ib10 H locs hK hP hD hS ls hl
      rw [hQ]
      obtain ⟨hP9, hD9⟩ := nv_sub2 (wc := [(h0, .inr (2, [.ref h1, .ref h2, .ref h3, .int x0, .int x1, .int x2, .int x3, .int b10])), (h3, .inr (1, [.ref h4, .ref h5, .ref h6, .ref h7])), (h4, .inl (y0, 32768, .inl f0)), (h7, .inr (9, [.ref h8, .ref h9, .int b11, .int x6, .int x7, .int x8])), (h9, .inl (y1, 3, .inl f1)), (h8, .inl (y2, 3, .inl b12)), (h6, .inr (5, [.int x9, .int x10, .int x11, .int x12, .int x13, .int x14])), (h5, .inr (7, [.int x15, .int x16, .int x17, .int x18, .int x19])), (h1, .inl (y3, 16, .inl f3))]) hP hD [0, 2, 3, 4, 5, 6, 7, 8, 1] (by decide) rfl
      have hK9 := hK.sub (tys' := [(y0, .int), (y1, .int), (y2, .int), (y3, .int)]) [1, 2, 3, 0] rfl
      exact W.iret (v := b9) hx hb hr (fun t ht hW => ⟨⟨b9, (b10, b11, b12), rfl, ⟨iv_w ib10 (by decide) (by decide), trivial⟩, by rw [ht]; exact hP9, va_K.moved hW.alike hK9, hD9⟩, hS.F ht⟩) hS.2.2 dX2_load_71
    refine lv_if_eq (tgt := 60) hx hb dX2_load_43 (by decide) (fun c3 => ?_) (fun c3 => ?_)
    · skip
      subst c3
      refine lv_aload_n hx hb dX2_load_60 rfl (lv_at hl 0 rfl) ?_
      refine va_get (D := (dC, dI)) (ci := 2) (v := .ref h3) (C := RX2) (T := TX2) (N := 8) hx hb hG inGX2 hown hK hP 0 rfl rfl 2 (by decide) (hG _ wd_151) (fun _ h9 => h9) rfl dX2_load_61 ?_
      refine lv_aload_n hx hb dX2_load_64 rfl (lv_at hl 0 rfl) ?_
      refine va_get (D := (dC, dI)) (ci := 2) (v := .int x3) (C := RX2) (T := TX2) (N := 8) hx hb hG inGX2 hown hK hP 0 rfl rfl 6 (by decide) (hG _ wd_155) (fun _ h9 => h9) rfl dX2_load_65 ?_
      obtain ⟨hPc, hDc, hFc⟩ := nv_sub3 (wc := [(h3, .inr (1, [.ref h4, .ref h5, .ref h6, .ref h7])), (h4, .inl (y0, 32768, .inl f0)), (h7, .inr (9, [.ref h8, .ref h9, .int x5, .int x6, .int x7, .int x8])), (h9, .inl (y1, 3, .inl f1)), (h8, .inl (y2, 3, .inl f2)), (h6, .inr (5, [.int x9, .int x10, .int x11, .int x12, .int x13, .int x14])), (h5, .inr (7, [.int x15, .int x16, .int x17, .int x18, .int x19]))]) hP hD hS hA [1, 2, 3, 4, 5, 6, 7] (by decide) rfl
      have hKc := hK.sub (tys' := [(y0, .int), (y1, .int), (y2, .int)]) [0, 1, 2] rfl
      refine va_calli (va_runV (As := [.int x3]) (rest := []) ⟨hx, hb, hml, hown, hG⟩ (cX1_readWord_1 l dC dI h3 h4 h5 h6 h7 h8 h9 y0 y1 y2 s.heap.size x3 x5 x6 x7 x8 x9 x10 x11 x12 x13 x14 x15 x16 x17 x18 x19 f0 f1 f2 ix8) (cwV 1 hG (gV wd_1005 wd_1006 wd_1007 wd_2 wd_1008) rfl rfl rfl (by decide +kernel) ⟨Nat.le_of_ble_eq_true rfl, Nat.le_of_ble_eq_true rfl⟩) ⟨fun a U g mk q => by obtain ⟨q0, q1, qP, qK, qD⟩ := q; exact ⟨q0, q1, qP, va_K.moved (u := U) (U := U.calling g mk a) (Vm.Alike.refl U.vm) qK, qD⟩, va_recv hKc hPc (ci := 1) (q0 := 0) rfl rfl, fun U hU hW => ⟨rfl, by rw [hU], by rw [hU]; exact hPc, va_K.moved hW.alike hKc, hDc.weaken (fun _ _ _ _ => trivial)⟩⟩ rfl rfl hl.1 rfl (lv_room (Nat.le_of_ble_eq_true rfl)) dX2_load_68 ⟨by decide, by decide⟩) hS (fun q _ h => hFc q h) hFc (fun r14 u15 t H1 locs ht hvm hw hB hz1 hk1 hS => ?_)
      obtain ⟨u15_0, u15_1⟩ := u15
      obtain ⟨hP1, hK1, hD1⟩ := hB
      rw [ht] at hP1
      have hK1 := va_K.moved hvm.symm hK1
      obtain ⟨hP, hD⟩ := nv_join (wf := [(h0, .inr (2, [.ref h1, .ref h2, .ref h3, .int x0, .int x1, .int x2, .int x3, .int 0])), (h1, .inl (y3, 16, .inl f3)), (h3, .inr (1, [.ref h4, .ref h5, .ref h6, .ref h7])), (h4, .inl (y0, 32768, .inl f0)), (h7, .inr (9, [.ref h8, .ref h9, .int u15_0, .int x6, .int x7, .int x8])), (h9, .inl (y1, 3, .inl f1)), (h8, .inl (y2, 3, .inl u15_1)), (h6, .inr (5, [.int x9, .int x10, .int x11, .int x12, .int x13, .int x14])), (h5, .inr (7, [.int x15, .int x16, .int x17, .int x18, .int x19]))]) hP hD [1, 2, 3, 4, 5, 6, 7] [0, 8] rfl rfl (by decide) (by decide) hk1 hFc hP1 hD1 rfl
      have hK := (hK.sub (tys' := [(y3, .int)]) [3] rfl).app hK1
      generalize H1 = H at hP hS ⊢
      have hK : va_K (dC, dI) vwCl [(y3, .int), (y0, .int), (y1, .int), (y2, .int)] s := hK
      exact j13 r14 0 u15_0 u15_1 (iv_w (by decide : iv 0 0 0) (by decide) (by decide)) _ _ hK hP hD hS ls (lv_sub hl [] rfl)
    · skip
      have j16 : iv x4 1 1 := iv_neLo ix4 (by decide : iv 0 0 0) c3 (by decide)
      refine lv_aload_n hx hb dX2_load_46 rfl (lv_at hl 0 rfl) ?_
      refine va_get (D := (dC, dI)) (ci := 2) (v := .ref h3) (C := RX2) (T := TX2) (N := 8) hx hb hG inGX2 hown hK hP 0 rfl rfl 2 (by decide) (hG _ wd_151) (fun _ h9 => h9) rfl dX2_load_47 ?_
      refine lv_aload_n hx hb dX2_load_50 rfl (lv_at hl 0 rfl) ?_
      refine va_get (D := (dC, dI)) (ci := 2) (v := .int x3) (C := RX2) (T := TX2) (N := 8) hx hb hG inGX2 hown hK hP 0 rfl rfl 6 (by decide) (hG _ wd_155) (fun _ h9 => h9) rfl dX2_load_51 ?_
      obtain ⟨hPc, hDc, hFc⟩ := nv_sub3 (wc := [(h3, .inr (1, [.ref h4, .ref h5, .ref h6, .ref h7])), (h4, .inl (y0, 32768, .inl f0)), (h7, .inr (9, [.ref h8, .ref h9, .int x5, .int x6, .int x7, .int x8])), (h9, .inl (y1, 3, .inl f1)), (h8, .inl (y2, 3, .inl f2)), (h6, .inr (5, [.int x9, .int x10, .int x11, .int x12, .int x13, .int x14])), (h5, .inr (7, [.int x15, .int x16, .int x17, .int x18, .int x19]))]) hP hD hS hA [1, 2, 3, 4, 5, 6, 7] (by decide) rfl
      have hKc := hK.sub (tys' := [(y0, .int), (y1, .int), (y2, .int)]) [0, 1, 2] rfl
      refine va_calli (va_runV (As := [.int x3]) (rest := []) ⟨hx, hb, hml, hown, hG⟩ (cX1_readByte_1 l dC dI h3 h4 h5 h6 h7 h8 h9 y0 y1 y2 s.heap.size x3 x5 x6 x7 x8 x9 x10 x11 x12 x13 x14 x15 x16 x17 x18 x19 f0 f1 f2 ix8) (cwV 1 hG (gV wd_1035 wd_1036 wd_1037 wd_2 wd_1038) rfl rfl rfl (by decide +kernel) ⟨Nat.le_of_ble_eq_true rfl, Nat.le_of_ble_eq_true rfl⟩) ⟨fun a U g mk q => by obtain ⟨q0, q1, qP, qK, qD⟩ := q; exact ⟨q0, q1, qP, va_K.moved (u := U) (U := U.calling g mk a) (Vm.Alike.refl U.vm) qK, qD⟩, va_recv hKc hPc (ci := 1) (q0 := 0) rfl rfl, fun U hU hW => ⟨rfl, by rw [hU], by rw [hU]; exact hPc, va_K.moved hW.alike hKc, hDc.weaken (fun _ _ _ _ => trivial)⟩⟩ rfl rfl hl.1 rfl (lv_room (Nat.le_of_ble_eq_true rfl)) dX2_load_54 ⟨by decide, by decide⟩) hS (fun q _ h => hFc q h) hFc (fun r17 u18 t H1 locs ht hvm hw hB hz1 hk1 hS => ?_)
      obtain ⟨u18_0, u18_1⟩ := u18
      have hw : iv r17 (-8388608) 8388607 ∧ True := hw
      obtain ⟨ir17, -⟩ := hw
      obtain ⟨hP1, hK1, hD1⟩ := hB
      rw [ht] at hP1
      have hK1 := va_K.moved hvm.symm hK1
      obtain ⟨hP, hD⟩ := nv_join (wf := [(h0, .inr (2, [.ref h1, .ref h2, .ref h3, .int x0, .int x1, .int x2, .int x3, .int x4])), (h1, .inl (y3, 16, .inl f3)), (h3, .inr (1, [.ref h4, .ref h5, .ref h6, .ref h7])), (h4, .inl (y0, 32768, .inl f0)), (h7, .inr (9, [.ref h8, .ref h9, .int u18_0, .int x6, .int x7, .int x8])), (h9, .inl (y1, 3, .inl f1)), (h8, .inl (y2, 3, .inl u18_1)), (h6, .inr (5, [.int x9, .int x10, .int x11, .int x12, .int x13, .int x14])), (h5, .inr (7, [.int x15, .int x16, .int x17, .int x18, .int x19]))]) hP hD [1, 2, 3, 4, 5, 6, 7] [0, 8] rfl rfl (by decide) (by decide) hk1 hFc hP1 hD1 rfl
      have hK := (hK.sub (tys' := [(y3, .int)]) [3] rfl).app hK1
      generalize H1 = H at hP hS ⊢
      have hK : va_K (dC, dI) vwCl [(y3, .int), (y0, .int), (y1, .int), (y2, .int)] s := hK
      refine lv_goto (tgt := 71) hx hb dX2_load_57 (by decide) ?_
      exact j13 r17 x4 u18_0 u18_1 (iv_w j16 (by decide) (by decide)) _ _ hK hP hD hS ls (lv_sub hl [] rfl)
  · skip
    have j19 : iv x3 65536 2147483647 := iv_nltL (iv_any x3) (by decide : iv 65536 65536 65536) c1 (by decide)
    refine lv_aload_n hx hb dX2_load_9 rfl (lv_at hl 0 rfl) ?_
    refine va_get (D := (dC, dI)) (ci := 2) (v := .ref h1) (C := RX2) (T := TX2) (N := 8) hx hb hG inGX2 hown hK hP 0 rfl rfl 0 (by decide) (hG _ wd_149) (fun _ h9 => h9) rfl dX2_load_10 ?_
    refine lv_aload_n hx hb dX2_load_13 rfl (lv_at hl 0 rfl) ?_
    refine va_get (D := (dC, dI)) (ci := 2) (v := .int x3) (C := RX2) (T := TX2) (N := 8) hx hb hG inGX2 hown hK hP 0 rfl rfl 6 (by decide) (hG _ wd_155) (fun _ h9 => h9) rfl dX2_load_14 ?_
    refine lv_bipush (v := 15) hx hb dX2_load_17 (by decide) ?_
    refine lv_iand hx hb dX2_load_19 ?_
    refine lv_topi (fun v20 ev20 => ?_)
    have iv20 : iv v20 0 15 := iv_eq ev20 (iv_and (x := x3) (iv_w (by decide : iv 15 15 15) (by decide) (by decide) : iv 15 0 15))
    refine va_iald hx hb hK hP 8 3 rfl rfl (iv_in iv20 (by decide) (by decide) : vp_in v20 16) dX2_load_20 ?_
    refine lv_topi (fun v21 ev21 => ?_)
    refine lv_istore_n (lv' := [(1, .int v21), (0, .ref h0)]) hx hb dX2_load_21 rfl hl (by decide) rfl (fun ls hl => ?_)
    refine lv_aload_n hx hb dX2_load_22 rfl (lv_at hl 1 rfl) ?_
    refine va_get (D := (dC, dI)) (ci := 2) (v := .int x4) (C := RX2) (T := TX2) (N := 8) hx hb hG inGX2 hown hK hP 0 rfl rfl 7 (by decide) (hG _ wd_156) (fun _ h9 => h9) rfl dX2_load_23 ?_
    refine jcut (a := ∀ (b25 : Int32) (b26 : Int32) (ib26 : iv b26 0 1) (H : Heap) (locs : List Loc) (hK : va_K (dC, dI) vwCl [(y0, .int), (y1, .int), (y2, .int), (y3, .int)] s) (hP : va_P (dC, dI) vwCl [(h0, .inr (2, [.ref h1, .ref h2, .ref h3, .int x0, .int x1, .int x2, .int x3, .int b26])), (h3, .inr (1, [.ref h4, .ref h5, .ref h6, .ref h7])), (h4, .inl (y0, 32768, .inl f0)), (h7, .inr (9, [.ref h8, .ref h9, .int x5, .int x6, .int x7, .int x8])), (h9, .inl (y1, 3, .inl f1)), (h8, .inl (y2, 3, .inl f2)), (h6, .inr (5, [.int x9, .int x10, .int x11, .int x12, .int x13, .int x14])), (h5, .inr (7, [.int x15, .int x16, .int x17, .int x18, .int x19])), (h1, .inl (y3, 16, .inl f3))] H) (hD : va_D A [(h0, .inr (2, [.ref h1, .ref h2, .ref h3, .int x0, .int x1, .int x2, .int x3, .int b26])), (h3, .inr (1, [.ref h4, .ref h5, .ref h6, .ref h7])), (h4, .inl (y0, 32768, .inl f0)), (h7, .inr (9, [.ref h8, .ref h9, .int x5, .int x6, .int x7, .int x8])), (h9, .inl (y1, 3, .inl f1)), (h8, .inl (y2, 3, .inl f2)), (h6, .inr (5, [.int x9, .int x10, .int x11, .int x12, .int x13, .int x14])), (h5, .inr (7, [.int x15, .int x16, .int x17, .int x18, .int x19])), (h1, .inl (y3, 16, .inl f3))]) (hS : va_S A s.heap H locs) (ls : Array Slot) (hl : lv_has ls 2 []), W p l e (headSpec (Cond.code yX2_load cX2_load 2 (some .int) :: lw_G) ({ frames := 3, cells := 0, slots := 0, locals := 65 })).room s m ar below meth c H locs 0 0 Q (F0 m 38 ls [.int b25])) ?_ (fun j27 => ?_)
    · skip
      intro b25 b26 ib26 H locs hK hP hD hS ls hl
      rw [hQ]
      obtain ⟨hP9, hD9⟩ := nv_sub2 (wc := [(h0, .inr (2, [.ref h1, .ref h2, .ref h3, .int x0, .int x1, .int x2, .int x3, .int b26])), (h3, .inr (1, [.ref h4, .ref h5, .ref h6, .ref h7])), (h4, .inl (y0, 32768, .inl f0)), (h7, .inr (9, [.ref h8, .ref h9, .int x5, .int x6, .int x7, .int x8])), (h9, .inl (y1, 3, .inl f1)), (h8, .inl (y2, 3, .inl f2)), (h6, .inr (5, [.int x9, .int x10, .int x11, .int x12, .int x13, .int x14])), (h5, .inr (7, [.int x15, .int x16, .int x17, .int x18, .int x19])), (h1, .inl (y3, 16, .inl f3))]) hP hD [0, 1, 2, 3, 4, 5, 6, 7, 8] (by decide) rfl
      have hK9 := hK.sub (tys' := [(y0, .int), (y1, .int), (y2, .int), (y3, .int)]) [0, 1, 2, 3] rfl
      exact W.iret (v := b25) hx hb hr (fun t ht hW => ⟨⟨b25, (b26, x5, f2), rfl, ⟨iv_w ib26 (by decide) (by decide), trivial⟩, by rw [ht]; exact hP9, va_K.moved hW.alike hK9, hD9⟩, hS.F ht⟩) hS.2.2 dX2_load_38
    refine lv_if_eq (tgt := 37) hx hb dX2_load_26 (by decide) (fun c22 => ?_) (fun c22 => ?_)
    · skip
      subst c22
      refine lv_iload_n hx hb dX2_load_37 rfl (lv_at hl 0 rfl) ?_
      exact j27 v21 0 (iv_w (by decide : iv 0 0 0) (by decide) (by decide)) _ _ hK hP hD hS ls (lv_sub hl [] rfl)
    · skip
      have j28 : iv x4 1 1 := iv_neLo ix4 (by decide : iv 0 0 0) c22 (by decide)
      refine lv_iload_n hx hb dX2_load_29 rfl (lv_at hl 0 rfl) ?_
      refine lv_sipush (v := 255) hx hb dX2_load_30 (by decide) ?_
      refine lv_iand hx hb dX2_load_33 ?_
      refine lv_topi (fun v29 ev29 => ?_)
      have iv29 : iv v29 0 255 := iv_eq ev29 (iv_and (x := v21) (iv_w (by decide : iv 255 255 255) (by decide) (by decide) : iv 255 0 255))
      refine lv_goto (tgt := 38) hx hb dX2_load_34 (by decide) ?_
      exact j27 v29 x4 (iv_w j28 (by decide) (by decide)) _ _ hK hP hD hS ls (lv_sub hl [] rfl)
set_option maxHeartbeats 100000000 in
set_option maxRecDepth 100000 in
theorem cX2_constant_1 (l : Launch) (dC : Nat → ClassId) (dI : Nat → Nat → Nat) (sz : Nat) (x0 x1 : Int32) : Met l yX2_constant (Cond.code yX2_constant cX2_constant 2 (some .int) :: lw_G) ({ frames := 0, cells := 0, slots := 0, locals := 0 }) (va_Pc [.int x0, .int x1] (fun U => U.heap.size = sz ∧ va_P (dC, dI) vwCl [] U.heap ∧ va_K (dC, dI) vwCl [] U ∧ va_D (fun _ => True) [])) (va_Qi (fun (r : Int32) (u : Unit) => True) (fun (u : Unit) (t : State) => va_P (dC, dI) vwCl [] t.heap ∧ va_K (dC, dI) vwCl [] t ∧ va_D (va_A [] sz) []) (va_A [] sz)) 0 0 (va_A [] sz) := by
  refine Met.ofW (cc := cX2_constant) (maxL := 2) (ret := (some .int)) (by decide) rfl ?_
  intro p e s m args below meth c s₁ B hml hv
  obtain ⟨rfl, hsz, hP, hK, hD0⟩ := hv
  have hx := B.exec
  have hb := B.bytes
  have hr := B.returns
  have hts0 := atoms_spec (ws := Cond.code yX2_constant cX2_constant 2 (some .int) :: lw_G) B.pre
  have hG : ∀ w ∈ lw_G, w.before _ s = true := fun w h => hts0 w (List.mem_cons_of_mem _ h)
  have hown : s.vm.findClass RX2 = some m.cls := findClass_of_methodNamed B.named
  have hlocks := B.notSynchronized
  subst hsz
  have hD := hD0.self (sz := s.heap.size)
  generalize hAe : va_A [] s.heap.size = A at hD ⊢
  have hA : ∀ q : Nat, s.heap.size ≤ q → A q := fun q h => by rw [← hAe]; exact Or.inr h
  have hS : va_S A s.heap s.heap [] := va_S.rf
  have hP : va_P (dC, dI) vwCl [] s.heap := hP
  have hl := lv_entry ([.int x0, .int x1]) (n := 2) (Nat.le_of_ble_eq_true rfl)
  rw [lg_entry_eq]
  generalize (lg_sl ([.int x0, .int x1]) ++ List.replicate (2 - (lg_sl ([.int x0, .int x1])).length) Slot.unset).toArray = ls at hl ⊢
  have hl : lv_has ls 2 [(0, .int x0), (1, .int x1)] := hl
  generalize ([.int x0, .int x1] : List Value).toArray = ar at hG ⊢
  refine wq (fun Q hQ => ?_)
  refine lv_iload_n hx hb dX2_constant_0 rfl (lv_at hl 1 rfl) ?_
  refine lv_iconst (v := 2) hx hb dX2_constant_1 (by decide) ?_
  refine lv_icmp_ne (tgt := 17) hx hb dX2_constant_2 (by decide) (fun c1 => ?_) (fun c1 => ?_)
  · skip
    refine lv_iload_n hx hb dX2_constant_17 rfl (lv_at hl 0 rfl) ?_
    refine lv_iconst (v := 3) hx hb dX2_constant_18 (by decide) ?_
    refine jcut (a := ∀ (b3 : Int32) (H : Heap) (locs : List Loc) (hK : va_K (dC, dI) vwCl [] s) (hP : va_P (dC, dI) vwCl [] H) (hD : va_D A []) (hS : va_S A s.heap H locs) (ls : Array Slot) (hl : lv_has ls 2 []), W p l e (headSpec (Cond.code yX2_constant cX2_constant 2 (some .int) :: lw_G) ({ frames := 0, cells := 0, slots := 0, locals := 0 })).room s m ar below meth c H locs 0 0 Q (F0 m 28 ls [.int b3])) ?_ (fun j4 => ?_)
    · skip
      intro b3 H locs hK hP hD hS ls hl
      rw [hQ]
      obtain ⟨hP9, hD9⟩ := nv_sub2 (wc := []) hP hD [] (by decide) rfl
      have hK9 := hK.sub (tys' := []) [] rfl
      exact W.iret (v := b3) hx hb hr (fun t ht hW => ⟨⟨b3, (), rfl, trivial, by rw [ht]; exact hP9, va_K.moved hW.alike hK9, hD9⟩, hS.F ht⟩) hS.2.2 dX2_constant_28
    refine lv_icmp_ne (tgt := 27) hx hb dX2_constant_19 (by decide) (fun c2 => ?_) (fun c2 => ?_)
    · skip
      refine lv_iload_n hx hb dX2_constant_27 rfl (lv_at hl 0 rfl) ?_
      exact j4 x0 _ _ hK hP hD hS ls (lv_sub hl [] rfl)
    · skip
      subst c2
      refine lv_ldc hx hb hown (hG _ wd_829) dX2_constant_22 ?_
      refine lv_goto (tgt := 28) hx hb dX2_constant_24 (by decide) ?_
      exact j4 65535 _ _ hK hP hD hS ls (lv_sub hl [] rfl)
  · skip
    subst c1
    refine lv_iload_n hx hb dX2_constant_5 rfl (lv_at hl 0 rfl) ?_
    refine lv_iconst (v := 2) hx hb dX2_constant_6 (by decide) ?_
    refine jcut (a := ∀ (b6 : Int32) (ib6 : iv b6 4 8) (H : Heap) (locs : List Loc) (hK : va_K (dC, dI) vwCl [] s) (hP : va_P (dC, dI) vwCl [] H) (hD : va_D A []) (hS : va_S A s.heap H locs) (ls : Array Slot) (hl : lv_has ls 2 []), W p l e (headSpec (Cond.code yX2_constant cX2_constant 2 (some .int) :: lw_G) ({ frames := 0, cells := 0, slots := 0, locals := 0 })).room s m ar below meth c H locs 0 0 Q (F0 m 16 ls [.int b6])) ?_ (fun j7 => ?_)
    · skip
      intro b6 ib6 H locs hK hP hD hS ls hl
      rw [hQ]
      obtain ⟨hP9, hD9⟩ := nv_sub2 (wc := []) hP hD [] (by decide) rfl
      have hK9 := hK.sub (tys' := []) [] rfl
      exact W.iret (v := b6) hx hb hr (fun t ht hW => ⟨⟨b6, (), rfl, trivial, by rw [ht]; exact hP9, va_K.moved hW.alike hK9, hD9⟩, hS.F ht⟩) hS.2.2 dX2_constant_16
    refine lv_icmp_ne (tgt := 14) hx hb dX2_constant_7 (by decide) (fun c5 => ?_) (fun c5 => ?_)
    · skip
      refine lv_bipush (v := 8) hx hb dX2_constant_14 (by decide) ?_
      exact j7 8 (iv_w (by decide : iv 8 8 8) (by decide) (by decide)) _ _ hK hP hD hS ls (lv_sub hl [] rfl)
    · skip
      subst c5
      refine lv_iconst (v := 4) hx hb dX2_constant_10 (by decide) ?_
      refine lv_goto (tgt := 16) hx hb dX2_constant_11 (by decide) ?_
      exact j7 4 (iv_w (by decide : iv 4 4 4) (by decide) (by decide)) _ _ hK hP hD hS ls (lv_sub hl [] rfl)
set_option maxHeartbeats 100000000 in
set_option maxRecDepth 100000 in
theorem cX2_operand_1 (l : Launch) (dC : Nat → ClassId) (dI : Nat → Nat → Nat) (h0 h1 h2 h3 h4 h5 h6 h7 h8 h9 : Nat) (y0 y1 y2 y3 : ClassId) (sz : Nat) (x0 x1 x2 x3 x4 x5 x6 x7 x8 x9 x10 x11 x12 x13 x14 x15 x16 x17 x18 x19 x20 x21 : Int32) (f0 f1 f2 f3 : Nat → Int32) (ix0 : iv x0 0 3) (ix1 : iv x1 0 15) (ix6 : iv x6 0 1) (ix10 : iv x10 0 1) : Met l yX2_operand (Cond.code yX2_operand cX2_operand 4 (some .int) :: lw_G) ({ frames := 4, cells := 0, slots := 0, locals := 87 }) (va_Pc [.ref h0, .int x0, .int x1] (fun U => U.heap.size = sz ∧ va_P (dC, dI) vwCl [(h0, .inr (2, [.ref h1, .ref h2, .ref h3, .int x2, .int x3, .int x4, .int x5, .int x6])), (h1, .inl (y0, 16, .inl f0)), (h3, .inr (1, [.ref h4, .ref h5, .ref h6, .ref h7])), (h4, .inl (y1, 32768, .inl f1)), (h7, .inr (9, [.ref h8, .ref h9, .int x7, .int x8, .int x9, .int x10])), (h9, .inl (y2, 3, .inl f2)), (h8, .inl (y3, 3, .inl f3)), (h6, .inr (5, [.int x11, .int x12, .int x13, .int x14, .int x15, .int x16])), (h5, .inr (7, [.int x17, .int x18, .int x19, .int x20, .int x21]))] U.heap ∧ va_K (dC, dI) vwCl [(y0, .int), (y1, .int), (y2, .int), (y3, .int)] U ∧ va_D (fun _ => True) [(h0, .inr (2, [.ref h1, .ref h2, .ref h3, .int x2, .int x3, .int x4, .int x5, .int x6])), (h1, .inl (y0, 16, .inl f0)), (h3, .inr (1, [.ref h4, .ref h5, .ref h6, .ref h7])), (h4, .inl (y1, 32768, .inl f1)), (h7, .inr (9, [.ref h8, .ref h9, .int x7, .int x8, .int x9, .int x10])), (h9, .inl (y2, 3, .inl f2)), (h8, .inl (y3, 3, .inl f3)), (h6, .inr (5, [.int x11, .int x12, .int x13, .int x14, .int x15, .int x16])), (h5, .inr (7, [.int x17, .int x18, .int x19, .int x20, .int x21]))])) (va_Qi (fun (r : Int32) (u : Int32 × Int32 × (Nat → Int32) × Int32 × (Nat → Int32)) => iv u.2.1 0 1 ∧ True) (fun (u : Int32 × Int32 × (Nat → Int32) × Int32 × (Nat → Int32)) (t : State) => va_P (dC, dI) vwCl [(h0, .inr (2, [.ref h1, .ref h2, .ref h3, .int x2, .int x3, .int x4, .int u.1, .int u.2.1])), (h1, .inl (y0, 16, .inl u.2.2.1)), (h3, .inr (1, [.ref h4, .ref h5, .ref h6, .ref h7])), (h4, .inl (y1, 32768, .inl f1)), (h7, .inr (9, [.ref h8, .ref h9, .int u.2.2.2.1, .int x8, .int x9, .int x10])), (h9, .inl (y2, 3, .inl f2)), (h8, .inl (y3, 3, .inl u.2.2.2.2)), (h6, .inr (5, [.int x11, .int x12, .int x13, .int x14, .int x15, .int x16])), (h5, .inr (7, [.int x17, .int x18, .int x19, .int x20, .int x21]))] t.heap ∧ va_K (dC, dI) vwCl [(y0, .int), (y1, .int), (y2, .int), (y3, .int)] t ∧ va_D (va_A [(h0, .inr (2, [.ref h1, .ref h2, .ref h3, .int x2, .int x3, .int x4, .int x5, .int x6])), (h1, .inl (y0, 16, .inl f0)), (h3, .inr (1, [.ref h4, .ref h5, .ref h6, .ref h7])), (h4, .inl (y1, 32768, .inl f1)), (h7, .inr (9, [.ref h8, .ref h9, .int x7, .int x8, .int x9, .int x10])), (h9, .inl (y2, 3, .inl f2)), (h8, .inl (y3, 3, .inl f3)), (h6, .inr (5, [.int x11, .int x12, .int x13, .int x14, .int x15, .int x16])), (h5, .inr (7, [.int x17, .int x18, .int x19, .int x20, .int x21]))] sz) [(h0, .inr (2, [.ref h1, .ref h2, .ref h3, .int x2, .int x3, .int x4, .int u.1, .int u.2.1])), (h1, .inl (y0, 16, .inl u.2.2.1)), (h3, .inr (1, [.ref h4, .ref h5, .ref h6, .ref h7])), (h4, .inl (y1, 32768, .inl f1)), (h7, .inr (9, [.ref h8, .ref h9, .int u.2.2.2.1, .int x8, .int x9, .int x10])), (h9, .inl (y2, 3, .inl f2)), (h8, .inl (y3, 3, .inl u.2.2.2.2)), (h6, .inr (5, [.int x11, .int x12, .int x13, .int x14, .int x15, .int x16])), (h5, .inr (7, [.int x17, .int x18, .int x19, .int x20, .int x21]))]) (va_A [(h0, .inr (2, [.ref h1, .ref h2, .ref h3, .int x2, .int x3, .int x4, .int x5, .int x6])), (h1, .inl (y0, 16, .inl f0)), (h3, .inr (1, [.ref h4, .ref h5, .ref h6, .ref h7])), (h4, .inl (y1, 32768, .inl f1)), (h7, .inr (9, [.ref h8, .ref h9, .int x7, .int x8, .int x9, .int x10])), (h9, .inl (y2, 3, .inl f2)), (h8, .inl (y3, 3, .inl f3)), (h6, .inr (5, [.int x11, .int x12, .int x13, .int x14, .int x15, .int x16])), (h5, .inr (7, [.int x17, .int x18, .int x19, .int x20, .int x21]))] sz)) 0 0 (va_A [(h0, .inr (2, [.ref h1, .ref h2, .ref h3, .int x2, .int x3, .int x4, .int x5, .int x6])), (h1, .inl (y0, 16, .inl f0)), (h3, .inr (1, [.ref h4, .ref h5, .ref h6, .ref h7])), (h4, .inl (y1, 32768, .inl f1)), (h7, .inr (9, [.ref h8, .ref h9, .int x7, .int x8, .int x9, .int x10])), (h9, .inl (y2, 3, .inl f2)), (h8, .inl (y3, 3, .inl f3)), (h6, .inr (5, [.int x11, .int x12, .int x13, .int x14, .int x15, .int x16])), (h5, .inr (7, [.int x17, .int x18, .int x19, .int x20, .int x21]))] sz) := by
  refine Met.ofW (cc := cX2_operand) (maxL := 4) (ret := (some .int)) (by decide) rfl ?_
  intro p e s m args below meth c s₁ B hml hv
  obtain ⟨rfl, hsz, hP, hK, hD0⟩ := hv
  have hx := B.exec
  have hb := B.bytes
  have hr := B.returns
  have hts0 := atoms_spec (ws := Cond.code yX2_operand cX2_operand 4 (some .int) :: lw_G) B.pre
  have hG : ∀ w ∈ lw_G, w.before _ s = true := fun w h => hts0 w (List.mem_cons_of_mem _ h)
  have hown : s.vm.findClass RX2 = some m.cls := findClass_of_methodNamed B.named
  have hlocks := B.notSynchronized
  subst hsz
  have hD := hD0.self (sz := s.heap.size)
  generalize hAe : va_A [(h0, .inr (2, [.ref h1, .ref h2, .ref h3, .int x2, .int x3, .int x4, .int x5, .int x6])), (h1, .inl (y0, 16, .inl f0)), (h3, .inr (1, [.ref h4, .ref h5, .ref h6, .ref h7])), (h4, .inl (y1, 32768, .inl f1)), (h7, .inr (9, [.ref h8, .ref h9, .int x7, .int x8, .int x9, .int x10])), (h9, .inl (y2, 3, .inl f2)), (h8, .inl (y3, 3, .inl f3)), (h6, .inr (5, [.int x11, .int x12, .int x13, .int x14, .int x15, .int x16])), (h5, .inr (7, [.int x17, .int x18, .int x19, .int x20, .int x21]))] s.heap.size = A at hD ⊢
  have hA : ∀ q : Nat, s.heap.size ≤ q → A q := fun q h => by rw [← hAe]; exact Or.inr h
  have hS : va_S A s.heap s.heap [] := va_S.rf
  have hP : va_P (dC, dI) vwCl [(h0, .inr (2, [.ref h1, .ref h2, .ref h3, .int x2, .int x3, .int x4, .int x5, .int x6])), (h1, .inl (y0, 16, .inl f0)), (h3, .inr (1, [.ref h4, .ref h5, .ref h6, .ref h7])), (h4, .inl (y1, 32768, .inl f1)), (h7, .inr (9, [.ref h8, .ref h9, .int x7, .int x8, .int x9, .int x10])), (h9, .inl (y2, 3, .inl f2)), (h8, .inl (y3, 3, .inl f3)), (h6, .inr (5, [.int x11, .int x12, .int x13, .int x14, .int x15, .int x16])), (h5, .inr (7, [.int x17, .int x18, .int x19, .int x20, .int x21]))] s.heap := hP
  have hl := lv_entry ([.ref h0, .int x0, .int x1]) (n := 4) (Nat.le_of_ble_eq_true rfl)
  rw [lg_entry_eq]
  generalize (lg_sl ([.ref h0, .int x0, .int x1]) ++ List.replicate (4 - (lg_sl ([.ref h0, .int x0, .int x1])).length) Slot.unset).toArray = ls at hl ⊢
  have hl : lv_has ls 4 [(0, .ref h0), (1, .int x0), (2, .int x1)] := hl
  generalize ([.ref h0, .int x0, .int x1] : List Value).toArray = ar at hG ⊢
  refine wq (fun Q hQ => ?_)
  refine lv_iload_n hx hb dX2_operand_0 rfl (lv_at hl 1 rfl) ?_
  refine lv_iload_n hx hb dX2_operand_1 rfl (lv_at hl 2 rfl) ?_
  obtain ⟨hPc, hDc, hFc⟩ := nv_sub3 (wc := []) hP hD hS hA [] (by decide) rfl
  have hKc := hK.sub (tys' := []) [] rfl
  refine va_calli (va_runS (As := [.int x0, .int x1]) (rest := []) ⟨hx, hb, hml, hown, hG⟩ (cX2_isConstant_1 l dC dI s.heap.size x0 x1) (va_cwS 2 hG (gS wd_1020 wd_1021 wd_6 wd_1022) rfl rfl rfl (by decide +kernel) ⟨Nat.le_of_ble_eq_true rfl, Nat.le_of_ble_eq_true rfl⟩) ⟨fun a U g mk q => by obtain ⟨q0, q1, qP, qK, qD⟩ := q; exact ⟨q0, q1, qP, va_K.moved (u := U) (U := U.calling g mk a) (Vm.Alike.refl U.vm) qK, qD⟩, fun U hU hW => ⟨rfl, by rw [hU], by rw [hU]; exact hPc, va_K.moved hW.alike hKc, hDc.weaken (fun _ _ _ _ => trivial)⟩⟩ rfl rfl hl.1 rfl (lv_room (Nat.le_of_ble_eq_true rfl)) dX2_operand_2 ⟨by decide, by decide⟩) hS (fun q _ h => hFc q h) hFc (fun r1 u2 t H1 locs ht hvm hw hB hz1 hk1 hS => ?_)
  have hw : iv r1 0 1 ∧ True := hw
  obtain ⟨ir1, -⟩ := hw
  obtain ⟨hP1, hK1, hD1⟩ := hB
  rw [ht] at hP1
  have hK1 := va_K.moved hvm.symm hK1
  obtain ⟨hP, hD⟩ := nv_join (wf := [(h0, .inr (2, [.ref h1, .ref h2, .ref h3, .int x2, .int x3, .int x4, .int x5, .int x6])), (h1, .inl (y0, 16, .inl f0)), (h3, .inr (1, [.ref h4, .ref h5, .ref h6, .ref h7])), (h4, .inl (y1, 32768, .inl f1)), (h7, .inr (9, [.ref h8, .ref h9, .int x7, .int x8, .int x9, .int x10])), (h9, .inl (y2, 3, .inl f2)), (h8, .inl (y3, 3, .inl f3)), (h6, .inr (5, [.int x11, .int x12, .int x13, .int x14, .int x15, .int x16])), (h5, .inr (7, [.int x17, .int x18, .int x19, .int x20, .int x21]))]) hP hD [] [0, 1, 2, 3, 4, 5, 6, 7, 8] rfl rfl (by decide) (by decide) hk1 hFc hP1 hD1 rfl
  have hK := (hK.sub (tys' := [(y0, .int), (y1, .int), (y2, .int), (y3, .int)]) [0, 1, 2, 3] rfl).app hK1
  generalize H1 = H at hP hS ⊢
  have hK : va_K (dC, dI) vwCl [(y0, .int), (y1, .int), (y2, .int), (y3, .int)] s := hK
  refine lv_if_eq (tgt := 38) hx hb dX2_operand_5 (by decide) (fun c3 => ?_) (fun c3 => ?_)
  · skip
    subst c3
    refine lv_iload_n hx hb dX2_operand_38 rfl (lv_at hl 1 rfl) ?_
    refine jcut (a := ∀ (b12 : Int32) (b13 : Int32) (b14 : Nat → Int32) (b15 : Int32) (b16 : Nat → Int32) (ib12 : iv b12 0 3) (H : Heap) (locs : List Loc) (hK : va_K (dC, dI) vwCl [(y0, .int), (y1, .int), (y2, .int), (y3, .int)] s) (hP : va_P (dC, dI) vwCl [(h0, .inr (2, [.ref h1, .ref h2, .ref h3, .int x2, .int x3, .int x4, .int b13, .int x6])), (h1, .inl (y0, 16, .inl b14)), (h3, .inr (1, [.ref h4, .ref h5, .ref h6, .ref h7])), (h4, .inl (y1, 32768, .inl f1)), (h7, .inr (9, [.ref h8, .ref h9, .int b15, .int x8, .int x9, .int x10])), (h9, .inl (y2, 3, .inl f2)), (h8, .inl (y3, 3, .inl b16)), (h6, .inr (5, [.int x11, .int x12, .int x13, .int x14, .int x15, .int x16])), (h5, .inr (7, [.int x17, .int x18, .int x19, .int x20, .int x21]))] H) (hD : va_D A [(h0, .inr (2, [.ref h1, .ref h2, .ref h3, .int x2, .int x3, .int x4, .int b13, .int x6])), (h1, .inl (y0, 16, .inl b14)), (h3, .inr (1, [.ref h4, .ref h5, .ref h6, .ref h7])), (h4, .inl (y1, 32768, .inl f1)), (h7, .inr (9, [.ref h8, .ref h9, .int b15, .int x8, .int x9, .int x10])), (h9, .inl (y2, 3, .inl f2)), (h8, .inl (y3, 3, .inl b16)), (h6, .inr (5, [.int x11, .int x12, .int x13, .int x14, .int x15, .int x16])), (h5, .inr (7, [.int x17, .int x18, .int x19, .int x20, .int x21]))]) (hS : va_S A s.heap H locs) (ls : Array Slot) (hl : lv_has ls 4 [(0, .ref h0), (1, .int b12), (2, .int x1)]), W p l e (headSpec (Cond.code yX2_operand cX2_operand 4 (some .int) :: lw_G) ({ frames := 4, cells := 0, slots := 0, locals := 87 })).room s m ar below meth c H locs 0 0 Q (F0 m 80 ls [])) ?_ (fun j17 => ?_)
    · skip
      intro b12 b13 b14 b15 b16 ib12 H locs hK hP hD hS ls hl
      refine lv_aload_n hx hb dX2_operand_80 rfl (lv_at hl 0 rfl) ?_
      obtain ⟨hPc, hDc, hFc⟩ := nv_sub3 (wc := [(h0, .inr (2, [.ref h1, .ref h2, .ref h3, .int x2, .int x3, .int x4, .int b13, .int x6])), (h3, .inr (1, [.ref h4, .ref h5, .ref h6, .ref h7])), (h4, .inl (y1, 32768, .inl f1)), (h7, .inr (9, [.ref h8, .ref h9, .int b15, .int x8, .int x9, .int x10])), (h9, .inl (y2, 3, .inl f2)), (h8, .inl (y3, 3, .inl b16)), (h6, .inr (5, [.int x11, .int x12, .int x13, .int x14, .int x15, .int x16])), (h5, .inr (7, [.int x17, .int x18, .int x19, .int x20, .int x21])), (h1, .inl (y0, 16, .inl b14))]) hP hD hS hA [0, 2, 3, 4, 5, 6, 7, 8, 1] (by decide) rfl
      have hKc := hK.sub (tys' := [(y1, .int), (y2, .int), (y3, .int), (y0, .int)]) [1, 2, 3, 0] rfl
      refine va_calli (va_runV (As := []) (rest := []) ⟨hx, hb, hml, hown, hG⟩ (cX2_load_1 l dC dI h0 h1 h2 h3 h4 h5 h6 h7 h8 h9 y1 y2 y3 y0 H.size x2 x3 x4 b13 x6 b15 x8 x9 x10 x11 x12 x13 x14 x15 x16 x17 x18 x19 x20 x21 f1 f2 b16 b14 ix6 ix10) (cwV 0 hG (gV wd_1031 wd_1033 wp_38 wd_6 wd_1034) rfl rfl rfl (by decide +kernel) ⟨Nat.le_of_ble_eq_true rfl, Nat.le_of_ble_eq_true rfl⟩) ⟨fun a U g mk q => by obtain ⟨q0, q1, qP, qK, qD⟩ := q; exact ⟨q0, q1, qP, va_K.moved (u := U) (U := U.calling g mk a) (Vm.Alike.refl U.vm) qK, qD⟩, va_recv hKc hPc (ci := 2) (q0 := 0) rfl rfl, fun U hU hW => ⟨rfl, by rw [hU], by rw [hU]; exact hPc, va_K.moved hW.alike hKc, hDc.weaken (fun _ _ _ _ => trivial)⟩⟩ rfl rfl hl.1 rfl (lv_room (Nat.le_of_ble_eq_true rfl)) dX2_operand_81 ⟨by decide, by decide⟩) hS (fun q _ h => hFc q h) hFc (fun r18 u19 t H1 locs ht hvm hw hB hz1 hk1 hS => ?_)
      obtain ⟨u19_0, u19_1, u19_2⟩ := u19
      have hw : iv u19_0 0 1 ∧ True := hw
      obtain ⟨iu19_0, -⟩ := hw
      obtain ⟨hP1, hK1, hD1⟩ := hB
      rw [ht] at hP1
      have hK1 := va_K.moved hvm.symm hK1
      obtain ⟨hP, hD⟩ := nv_join (wf := [(h0, .inr (2, [.ref h1, .ref h2, .ref h3, .int x2, .int x3, .int x4, .int b13, .int u19_0])), (h3, .inr (1, [.ref h4, .ref h5, .ref h6, .ref h7])), (h4, .inl (y1, 32768, .inl f1)), (h7, .inr (9, [.ref h8, .ref h9, .int u19_1, .int x8, .int x9, .int x10])), (h9, .inl (y2, 3, .inl f2)), (h8, .inl (y3, 3, .inl u19_2)), (h6, .inr (5, [.int x11, .int x12, .int x13, .int x14, .int x15, .int x16])), (h5, .inr (7, [.int x17, .int x18, .int x19, .int x20, .int x21])), (h1, .inl (y0, 16, .inl b14))]) hP hD [0, 2, 3, 4, 5, 6, 7, 8, 1] [] rfl rfl (by decide) (by decide) hk1 hFc hP1 hD1 rfl
      have hK := (hK.sub (tys' := []) [] rfl).app hK1
      generalize H1 = H at hP hS ⊢
      have hK : va_K (dC, dI) vwCl [(y1, .int), (y2, .int), (y3, .int), (y0, .int)] s := hK
      refine lv_istore_n (lv' := [(3, .int r18), (0, .ref h0), (1, .int b12), (2, .int x1)]) hx hb dX2_operand_84 rfl hl (by decide) rfl (fun ls hl => ?_)
      refine lv_iload_n hx hb dX2_operand_85 rfl (lv_at hl 2 rfl) ?_
      refine lv_iconst (v := 3) hx hb dX2_operand_86 (by decide) ?_
      refine jcut (a := ∀ (b35 : Int32) (b36 : Nat → Int32) (ib35 : iv b35 0 1) (H : Heap) (locs : List Loc) (hK : va_K (dC, dI) vwCl [(y1, .int), (y2, .int), (y3, .int), (y0, .int)] s) (hP : va_P (dC, dI) vwCl [(h0, .inr (2, [.ref h1, .ref h2, .ref h3, .int x2, .int x3, .int x4, .int b13, .int b35])), (h3, .inr (1, [.ref h4, .ref h5, .ref h6, .ref h7])), (h4, .inl (y1, 32768, .inl f1)), (h7, .inr (9, [.ref h8, .ref h9, .int u19_1, .int x8, .int x9, .int x10])), (h9, .inl (y2, 3, .inl f2)), (h8, .inl (y3, 3, .inl u19_2)), (h6, .inr (5, [.int x11, .int x12, .int x13, .int x14, .int x15, .int x16])), (h5, .inr (7, [.int x17, .int x18, .int x19, .int x20, .int x21])), (h1, .inl (y0, 16, .inl b36))] H) (hD : va_D A [(h0, .inr (2, [.ref h1, .ref h2, .ref h3, .int x2, .int x3, .int x4, .int b13, .int b35])), (h3, .inr (1, [.ref h4, .ref h5, .ref h6, .ref h7])), (h4, .inl (y1, 32768, .inl f1)), (h7, .inr (9, [.ref h8, .ref h9, .int u19_1, .int x8, .int x9, .int x10])), (h9, .inl (y2, 3, .inl f2)), (h8, .inl (y3, 3, .inl u19_2)), (h6, .inr (5, [.int x11, .int x12, .int x13, .int x14, .int x15, .int x16])), (h5, .inr (7, [.int x17, .int x18, .int x19, .int x20, .int x21])), (h1, .inl (y0, 16, .inl b36))]) (hS : va_S A s.heap H locs) (ls : Array Slot) (hl : lv_has ls 4 [(3, .int r18)]), W p l e (headSpec (Cond.code yX2_operand cX2_operand 4 (some .int) :: lw_G) ({ frames := 4, cells := 0, slots := 0, locals := 87 })).room s m ar below meth c H locs 0 0 Q (F0 m 123 ls [])) ?_ (fun j37 => ?_)
      · skip
        intro b35 b36 ib35 H locs hK hP hD hS ls hl
        refine lv_iload_n hx hb dX2_operand_123 rfl (lv_at hl 0 rfl) ?_
        rw [hQ]
        obtain ⟨hP9, hD9⟩ := nv_sub2 (wc := [(h0, .inr (2, [.ref h1, .ref h2, .ref h3, .int x2, .int x3, .int x4, .int b13, .int b35])), (h1, .inl (y0, 16, .inl b36)), (h3, .inr (1, [.ref h4, .ref h5, .ref h6, .ref h7])), (h4, .inl (y1, 32768, .inl f1)), (h7, .inr (9, [.ref h8, .ref h9, .int u19_1, .int x8, .int x9, .int x10])), (h9, .inl (y2, 3, .inl f2)), (h8, .inl (y3, 3, .inl u19_2)), (h6, .inr (5, [.int x11, .int x12, .int x13, .int x14, .int x15, .int x16])), (h5, .inr (7, [.int x17, .int x18, .int x19, .int x20, .int x21]))]) hP hD [0, 8, 1, 2, 3, 4, 5, 6, 7] (by decide) rfl
        have hK9 := hK.sub (tys' := [(y0, .int), (y1, .int), (y2, .int), (y3, .int)]) [3, 0, 1, 2] rfl
        exact W.iret (v := r18) hx hb hr (fun t ht hW => ⟨⟨r18, (b13, b35, b36, u19_1, u19_2), rfl, ⟨iv_w ib35 (by decide) (by decide), trivial⟩, by rw [ht]; exact hP9, va_K.moved hW.alike hK9, hD9⟩, hS.F ht⟩) hS.2.2 dX2_operand_124
      refine lv_icmp_ne (tgt := 123) hx hb dX2_operand_87 (by decide) (fun c20 => ?_) (fun c20 => ?_)
      · skip
        have j38 : iv b12 0 2 := iv_neHi ib12 (by decide : iv 3 3 3) c20 (by decide)
        exact j37 u19_0 b14 iu19_0 _ _ hK hP hD hS ls (lv_sub hl [0] rfl)
      · skip
        subst c20
        refine lv_aload_n hx hb dX2_operand_90 rfl (lv_at hl 1 rfl) ?_
        refine lv_iload_n hx hb dX2_operand_91 rfl (lv_at hl 3 rfl) ?_
        refine lv_aload_n hx hb dX2_operand_92 rfl (lv_at hl 1 rfl) ?_
        refine va_get (D := (dC, dI)) (ci := 2) (v := .ref h1) (C := RX2) (T := TX2) (N := 8) hx hb hG inGX2 hown hK hP 0 rfl rfl 0 (by decide) (hG _ wd_149) (fun _ h9 => h9) rfl dX2_operand_93 ?_
        refine lv_iload_n hx hb dX2_operand_96 rfl (lv_at hl 3 rfl) ?_
        refine va_iald hx hb hK hP 8 3 rfl rfl (iv_in ix1 (by decide) (by decide) : vp_in x1 16) dX2_operand_97 ?_
        refine lv_topi (fun v39 ev39 => ?_)
        refine lv_aload_n hx hb dX2_operand_98 rfl (lv_at hl 1 rfl) ?_
        refine va_get (D := (dC, dI)) (ci := 2) (v := .int u19_0) (C := RX2) (T := TX2) (N := 8) hx hb hG inGX2 hown hK hP 0 rfl rfl 7 (by decide) (hG _ wd_156) (fun _ h9 => h9) rfl dX2_operand_99 ?_
        refine jcut (a := ∀ (b46 : Int32) (b47 : Int32) (b48 : Int32) (ib46 : iv b46 1 2) (ib47 : iv b47 0 15) (ib48 : iv b48 0 1) (H : Heap) (locs : List Loc) (hK : va_K (dC, dI) vwCl [(y1, .int), (y2, .int), (y3, .int), (y0, .int)] s) (hP : va_P (dC, dI) vwCl [(h0, .inr (2, [.ref h1, .ref h2, .ref h3, .int x2, .int x3, .int x4, .int b13, .int b48])), (h3, .inr (1, [.ref h4, .ref h5, .ref h6, .ref h7])), (h4, .inl (y1, 32768, .inl f1)), (h7, .inr (9, [.ref h8, .ref h9, .int u19_1, .int x8, .int x9, .int x10])), (h9, .inl (y2, 3, .inl f2)), (h8, .inl (y3, 3, .inl u19_2)), (h6, .inr (5, [.int x11, .int x12, .int x13, .int x14, .int x15, .int x16])), (h5, .inr (7, [.int x17, .int x18, .int x19, .int x20, .int x21])), (h1, .inl (y0, 16, .inl b14))] H) (hD : va_D A [(h0, .inr (2, [.ref h1, .ref h2, .ref h3, .int x2, .int x3, .int x4, .int b13, .int b48])), (h3, .inr (1, [.ref h4, .ref h5, .ref h6, .ref h7])), (h4, .inl (y1, 32768, .inl f1)), (h7, .inr (9, [.ref h8, .ref h9, .int u19_1, .int x8, .int x9, .int x10])), (h9, .inl (y2, 3, .inl f2)), (h8, .inl (y3, 3, .inl u19_2)), (h6, .inr (5, [.int x11, .int x12, .int x13, .int x14, .int x15, .int x16])), (h5, .inr (7, [.int x17, .int x18, .int x19, .int x20, .int x21])), (h1, .inl (y0, 16, .inl b14))]) (hS : va_S A s.heap H locs) (ls : Array Slot) (hl : lv_has ls 4 [(3, .int r18)]), W p l e (headSpec (Cond.code yX2_operand cX2_operand 4 (some .int) :: lw_G) ({ frames := 4, cells := 0, slots := 0, locals := 87 })).room s m ar below meth c H locs 0 0 Q (F0 m 119 ls [.int b46, .int v39, .int b47, .ref h0])) ?_ (fun j49 => ?_)
        · skip
          intro b46 b47 b48 ib46 ib47 ib48 H locs hK hP hD hS ls hl
          refine lv_iadd hx hb dX2_operand_119 ?_
          refine lv_topi (fun v50 ev50 => ?_)
          obtain ⟨hPc, hDc, hFc⟩ := nv_sub3 (wc := [(h0, .inr (2, [.ref h1, .ref h2, .ref h3, .int x2, .int x3, .int x4, .int b13, .int b48])), (h1, .inl (y0, 16, .inl b14))]) hP hD hS hA [0, 8] (by decide) rfl
          have hKc := hK.sub (tys' := [(y0, .int)]) [3] rfl
          refine va_callv (va_runV (As := [.int b47, .int v50]) (rest := []) ⟨hx, hb, hml, hown, hG⟩ (cX2_writeRegister_1 l dC dI h0 h1 h2 h3 y0 H.size b47 v50 x2 x3 x4 b13 b48 b14 ib48) (cwV 2 hG (gV wd_825 wd_826 wd_827 wd_6 wd_828) rfl rfl rfl (by decide +kernel) ⟨Nat.le_of_ble_eq_true rfl, Nat.le_of_ble_eq_true rfl⟩) ⟨fun a U g mk q => by obtain ⟨q0, q1, qP, qK, qD⟩ := q; exact ⟨q0, q1, qP, va_K.moved (u := U) (U := U.calling g mk a) (Vm.Alike.refl U.vm) qK, qD⟩, va_recv hKc hPc (ci := 2) (q0 := 0) rfl rfl, fun U hU hW => ⟨rfl, by rw [hU], by rw [hU]; exact hPc, va_K.moved hW.alike hKc, hDc.weaken (fun _ _ _ _ => trivial)⟩⟩ rfl rfl hl.1 rfl (lv_room (Nat.le_of_ble_eq_true rfl)) dX2_operand_120 ⟨by decide, by decide⟩) hS (fun q _ h => hFc q h) hFc (fun u52 t H1 locs ht hvm hw hB hz1 hk1 hS => ?_)
          obtain ⟨u52_0, rfl⟩ : ∃ z, z = u52 := ⟨_, rfl⟩
          obtain ⟨hP1, hK1, hD1⟩ := hB
          rw [ht] at hP1
          have hK1 := va_K.moved hvm.symm hK1
          obtain ⟨hP, hD⟩ := nv_join (wf := [(h3, .inr (1, [.ref h4, .ref h5, .ref h6, .ref h7])), (h4, .inl (y1, 32768, .inl f1)), (h7, .inr (9, [.ref h8, .ref h9, .int u19_1, .int x8, .int x9, .int x10])), (h9, .inl (y2, 3, .inl f2)), (h8, .inl (y3, 3, .inl u19_2)), (h6, .inr (5, [.int x11, .int x12, .int x13, .int x14, .int x15, .int x16])), (h5, .inr (7, [.int x17, .int x18, .int x19, .int x20, .int x21])), (h0, .inr (2, [.ref h1, .ref h2, .ref h3, .int x2, .int x3, .int x4, .int b13, .int b48])), (h1, .inl (y0, 16, .inl u52_0))]) hP hD [0, 8] [1, 2, 3, 4, 5, 6, 7] rfl rfl (by decide) (by decide) hk1 hFc hP1 hD1 rfl
          have hK := (hK.sub (tys' := [(y1, .int), (y2, .int), (y3, .int)]) [0, 1, 2] rfl).app hK1
          generalize H1 = H at hP hS ⊢
          have hK : va_K (dC, dI) vwCl [(y1, .int), (y2, .int), (y3, .int), (y0, .int)] s := hK
          exact j37 b48 u52_0 ib48 _ _ hK (hP.sub (ws' := _) [7, 0, 1, 2, 3, 4, 5, 6, 8] rfl) (hD.sub (ws' := _) [7, 0, 1, 2, 3, 4, 5, 6, 8] (by decide) rfl) hS ls hl
        refine lv_if_eq (tgt := 118) hx hb dX2_operand_102 (by decide) (fun c40 => ?_) (fun c40 => ?_)
        · skip
          subst c40
          refine lv_iconst (v := 2) hx hb dX2_operand_118 (by decide) ?_
          exact j49 2 x1 0 (iv_w (by decide : iv 2 2 2) (by decide) (by decide)) ix1 (iv_w (by decide : iv 0 0 0) (by decide) (by decide)) _ _ hK hP hD hS ls (lv_sub hl [0] rfl)
        · skip
          have j53 : iv u19_0 1 1 := iv_neLo iu19_0 (by decide : iv 0 0 0) c40 (by decide)
          refine lv_iload_n hx hb dX2_operand_105 rfl (lv_at hl 3 rfl) ?_
          refine lv_if_eq (tgt := 118) hx hb dX2_operand_106 (by decide) (fun c54 => ?_) (fun c54 => ?_)
          · skip
            subst c54
            refine lv_iconst (v := 2) hx hb dX2_operand_118 (by decide) ?_
            exact j49 2 0 u19_0 (iv_w (by decide : iv 2 2 2) (by decide) (by decide)) (iv_w (by decide : iv 0 0 0) (by decide) (by decide)) (iv_w j53 (by decide) (by decide)) _ _ hK hP hD hS ls (lv_sub hl [0] rfl)
          · skip
            have j55 : iv x1 1 15 := iv_neLo ix1 (by decide : iv 0 0 0) c54 (by decide)
            refine lv_iload_n hx hb dX2_operand_109 rfl (lv_at hl 3 rfl) ?_
            refine lv_iconst (v := 1) hx hb dX2_operand_110 (by decide) ?_
            refine lv_icmp_eq (tgt := 118) hx hb dX2_operand_111 (by decide) (fun c56 => ?_) (fun c56 => ?_)
            · skip
              subst c56
              refine lv_iconst (v := 2) hx hb dX2_operand_118 (by decide) ?_
              exact j49 2 1 u19_0 (iv_w (by decide : iv 2 2 2) (by decide) (by decide)) (iv_w (by decide : iv 1 1 1) (by decide) (by decide)) (iv_w j53 (by decide) (by decide)) _ _ hK hP hD hS ls (lv_sub hl [0] rfl)
            · skip
              have j57 : iv x1 2 15 := iv_neLo j55 (by decide : iv 1 1 1) c56 (by decide)
              refine lv_iconst (v := 1) hx hb dX2_operand_114 (by decide) ?_
              refine lv_goto (tgt := 119) hx hb dX2_operand_115 (by decide) ?_
              exact j49 1 x1 u19_0 (iv_w (by decide : iv 1 1 1) (by decide) (by decide)) (iv_w j57 (by decide) (by decide)) (iv_w j53 (by decide) (by decide)) _ _ hK hP hD hS ls (lv_sub hl [0] rfl)
    refine lv_if_ne (tgt := 53) hx hb dX2_operand_39 (by decide) (fun c4 => ?_) (fun c4 => ?_)
    · skip
      have j58 : iv x0 1 3 := iv_neLo ix0 (by decide : iv 0 0 0) c4 (by decide)
      refine lv_iload_n hx hb dX2_operand_53 rfl (lv_at hl 1 rfl) ?_
      refine lv_iconst (v := 1) hx hb dX2_operand_54 (by decide) ?_
      refine lv_icmp_ne (tgt := 70) hx hb dX2_operand_55 (by decide) (fun c59 => ?_) (fun c59 => ?_)
      · skip
        have j60 : iv x0 2 3 := iv_neLo j58 (by decide : iv 1 1 1) c59 (by decide)
        refine lv_aload_n hx hb dX2_operand_70 rfl (lv_at hl 0 rfl) ?_
        refine lv_aload_n hx hb dX2_operand_71 rfl (lv_at hl 0 rfl) ?_
        refine va_get (D := (dC, dI)) (ci := 2) (v := .ref h1) (C := RX2) (T := TX2) (N := 8) hx hb hG inGX2 hown hK hP 0 rfl rfl 0 (by decide) (hG _ wd_149) (fun _ h9 => h9) rfl dX2_operand_72 ?_
        refine lv_iload_n hx hb dX2_operand_75 rfl (lv_at hl 2 rfl) ?_
        refine va_iald hx hb hK hP 1 0 rfl rfl (iv_in ix1 (by decide) (by decide) : vp_in x1 16) dX2_operand_76 ?_
        refine lv_topi (fun v61 ev61 => ?_)
        refine va_put (D := (dC, dI)) (ci := 2) (v := .int v61) (ty := .int) (C := RX2) (T := TX2) (N := 8) hx hb hG inGX2 tyX2 tyX2_ok nmX2 hown hK hP hD hS 0 rfl rfl 6 (by decide) (hG _ wd_155) (fun _ h9 => h9) rfl (by decide +kernel) rfl rfl (Nat.le_of_ble_eq_true rfl) dX2_operand_77 (fun H locs hP hD hS => ?_)
        obtain ⟨hP, hD⟩ := nv_eq (ws' := [(h0, .inr (2, [.ref h1, .ref h2, .ref h3, .int x2, .int x3, .int x4, .int v61, .int x6])), (h1, .inl (y0, 16, .inl f0)), (h3, .inr (1, [.ref h4, .ref h5, .ref h6, .ref h7])), (h4, .inl (y1, 32768, .inl f1)), (h7, .inr (9, [.ref h8, .ref h9, .int x7, .int x8, .int x9, .int x10])), (h9, .inl (y2, 3, .inl f2)), (h8, .inl (y3, 3, .inl f3)), (h6, .inr (5, [.int x11, .int x12, .int x13, .int x14, .int x15, .int x16])), (h5, .inr (7, [.int x17, .int x18, .int x19, .int x20, .int x21]))]) hP hD rfl
        exact j17 x0 v61 f0 x7 f3 (iv_w j60 (by decide) (by decide)) _ _ hK hP hD hS ls hl
      · skip
        subst c59
        refine lv_aload_n hx hb dX2_operand_58 rfl (lv_at hl 0 rfl) ?_
        refine lv_aload_n hx hb dX2_operand_59 rfl (lv_at hl 0 rfl) ?_
        refine lv_iload_n hx hb dX2_operand_60 rfl (lv_at hl 2 rfl) ?_
        obtain ⟨hPc, hDc, hFc⟩ := nv_sub3 (wc := [(h0, .inr (2, [.ref h1, .ref h2, .ref h3, .int x2, .int x3, .int x4, .int x5, .int x6])), (h1, .inl (y0, 16, .inl f0)), (h3, .inr (1, [.ref h4, .ref h5, .ref h6, .ref h7])), (h4, .inl (y1, 32768, .inl f1)), (h7, .inr (9, [.ref h8, .ref h9, .int x7, .int x8, .int x9, .int x10])), (h9, .inl (y2, 3, .inl f2)), (h8, .inl (y3, 3, .inl f3)), (h6, .inr (5, [.int x11, .int x12, .int x13, .int x14, .int x15, .int x16])), (h5, .inr (7, [.int x17, .int x18, .int x19, .int x20, .int x21]))]) hP hD hS hA [0, 1, 2, 3, 4, 5, 6, 7, 8] (by decide) rfl
        have hKc := hK.sub (tys' := [(y0, .int), (y1, .int), (y2, .int), (y3, .int)]) [0, 1, 2, 3] rfl
        refine va_calli (va_runV (As := [.int x1]) (rest := [.ref h0]) ⟨hx, hb, hml, hown, hG⟩ (cX2_indexed_1 l dC dI h0 h1 h2 h3 h4 h5 h6 h7 h8 h9 y0 y1 y2 y3 H.size x1 x2 x3 x4 x5 x6 x7 x8 x9 x10 x11 x12 x13 x14 x15 x16 x17 x18 x19 x20 x21 f0 f1 f2 f3 ix1 ix6 ix10) (cwV 1 hG (gV wd_1027 wd_1029 wp_37 wd_6 wd_1030) rfl rfl rfl (by decide +kernel) ⟨Nat.le_of_ble_eq_true rfl, Nat.le_of_ble_eq_true rfl⟩) ⟨fun a U g mk q => by obtain ⟨q0, q1, qP, qK, qD⟩ := q; exact ⟨q0, q1, qP, va_K.moved (u := U) (U := U.calling g mk a) (Vm.Alike.refl U.vm) qK, qD⟩, va_recv hKc hPc (ci := 2) (q0 := 0) rfl rfl, fun U hU hW => ⟨rfl, by rw [hU], by rw [hU]; exact hPc, va_K.moved hW.alike hKc, hDc.weaken (fun _ _ _ _ => trivial)⟩⟩ rfl rfl hl.1 rfl (lv_room (Nat.le_of_ble_eq_true rfl)) dX2_operand_61 ⟨by decide, by decide⟩) hS (fun q _ h => hFc q h) hFc (fun r62 u63 t H1 locs ht hvm hw hB hz1 hk1 hS => ?_)
        obtain ⟨u63_0, u63_1, u63_2⟩ := u63
        obtain ⟨hP1, hK1, hD1⟩ := hB
        rw [ht] at hP1
        have hK1 := va_K.moved hvm.symm hK1
        obtain ⟨hP, hD⟩ := nv_join (wf := [(h0, .inr (2, [.ref h1, .ref h2, .ref h3, .int x2, .int x3, .int x4, .int x5, .int x6])), (h1, .inl (y0, 16, .inl u63_0)), (h3, .inr (1, [.ref h4, .ref h5, .ref h6, .ref h7])), (h4, .inl (y1, 32768, .inl f1)), (h7, .inr (9, [.ref h8, .ref h9, .int u63_1, .int x8, .int x9, .int x10])), (h9, .inl (y2, 3, .inl f2)), (h8, .inl (y3, 3, .inl u63_2)), (h6, .inr (5, [.int x11, .int x12, .int x13, .int x14, .int x15, .int x16])), (h5, .inr (7, [.int x17, .int x18, .int x19, .int x20, .int x21]))]) hP hD [0, 1, 2, 3, 4, 5, 6, 7, 8] [] rfl rfl (by decide) (by decide) hk1 hFc hP1 hD1 rfl
        have hK := (hK.sub (tys' := []) [] rfl).app hK1
        generalize H1 = H at hP hS ⊢
        have hK : va_K (dC, dI) vwCl [(y0, .int), (y1, .int), (y2, .int), (y3, .int)] s := hK
        refine va_put (D := (dC, dI)) (ci := 2) (v := .int r62) (ty := .int) (C := RX2) (T := TX2) (N := 8) hx hb hG inGX2 tyX2 tyX2_ok nmX2 hown hK hP hD hS 0 rfl rfl 6 (by decide) (hG _ wd_155) (fun _ h9 => h9) rfl (by decide +kernel) rfl rfl (Nat.le_of_ble_eq_true rfl) dX2_operand_64 (fun H locs hP hD hS => ?_)
        obtain ⟨hP, hD⟩ := nv_eq (ws' := [(h0, .inr (2, [.ref h1, .ref h2, .ref h3, .int x2, .int x3, .int x4, .int r62, .int x6])), (h1, .inl (y0, 16, .inl u63_0)), (h3, .inr (1, [.ref h4, .ref h5, .ref h6, .ref h7])), (h4, .inl (y1, 32768, .inl f1)), (h7, .inr (9, [.ref h8, .ref h9, .int u63_1, .int x8, .int x9, .int x10])), (h9, .inl (y2, 3, .inl f2)), (h8, .inl (y3, 3, .inl u63_2)), (h6, .inr (5, [.int x11, .int x12, .int x13, .int x14, .int x15, .int x16])), (h5, .inr (7, [.int x17, .int x18, .int x19, .int x20, .int x21]))]) hP hD rfl
        refine lv_goto (tgt := 80) hx hb dX2_operand_67 (by decide) ?_
        exact j17 1 r62 u63_0 u63_1 u63_2 (iv_w (by decide : iv 1 1 1) (by decide) (by decide)) _ _ hK hP hD hS ls hl
    · skip
      subst c4
      refine lv_aload_n hx hb dX2_operand_42 rfl (lv_at hl 0 rfl) ?_
      refine lv_ldc hx hb hown (hG _ wd_1026) dX2_operand_43 ?_
      refine lv_iload_n hx hb dX2_operand_45 rfl (lv_at hl 2 rfl) ?_
      refine lv_iadd hx hb dX2_operand_46 ?_
      refine lv_topi (fun v64 ev64 => ?_)
      have iv64 : iv v64 65536 65551 := iv_eq ev64 (iv_add (by decide : iv 65536 65536 65536) ix1 (by decide) (by decide))
      refine va_put (D := (dC, dI)) (ci := 2) (v := .int v64) (ty := .int) (C := RX2) (T := TX2) (N := 8) hx hb hG inGX2 tyX2 tyX2_ok nmX2 hown hK hP hD hS 0 rfl rfl 6 (by decide) (hG _ wd_155) (fun _ h9 => h9) rfl (by decide +kernel) rfl rfl (Nat.le_of_ble_eq_true rfl) dX2_operand_47 (fun H locs hP hD hS => ?_)
      obtain ⟨hP, hD⟩ := nv_eq (ws' := [(h0, .inr (2, [.ref h1, .ref h2, .ref h3, .int x2, .int x3, .int x4, .int v64, .int x6])), (h1, .inl (y0, 16, .inl f0)), (h3, .inr (1, [.ref h4, .ref h5, .ref h6, .ref h7])), (h4, .inl (y1, 32768, .inl f1)), (h7, .inr (9, [.ref h8, .ref h9, .int x7, .int x8, .int x9, .int x10])), (h9, .inl (y2, 3, .inl f2)), (h8, .inl (y3, 3, .inl f3)), (h6, .inr (5, [.int x11, .int x12, .int x13, .int x14, .int x15, .int x16])), (h5, .inr (7, [.int x17, .int x18, .int x19, .int x20, .int x21]))]) hP hD rfl
      refine lv_goto (tgt := 80) hx hb dX2_operand_50 (by decide) ?_
      exact j17 0 v64 f0 x7 f3 (iv_w (by decide : iv 0 0 0) (by decide) (by decide)) _ _ hK hP hD hS ls hl
  · skip
    have j65 : iv r1 1 1 := iv_neLo ir1 (by decide : iv 0 0 0) c3 (by decide)
    refine lv_aload_n hx hb dX2_operand_8 rfl (lv_at hl 0 rfl) ?_
    refine lv_iconst (v := (-1)) hx hb dX2_operand_9 (by decide) ?_
    refine va_put (D := (dC, dI)) (ci := 2) (v := .int (-1)) (ty := .int) (C := RX2) (T := TX2) (N := 8) hx hb hG inGX2 tyX2 tyX2_ok nmX2 hown hK hP hD hS 0 rfl rfl 6 (by decide) (hG _ wd_155) (fun _ h9 => h9) rfl (by decide +kernel) rfl rfl (Nat.le_of_ble_eq_true rfl) dX2_operand_10 (fun H locs hP hD hS => ?_)
    obtain ⟨hP, hD⟩ := nv_eq (ws' := [(h0, .inr (2, [.ref h1, .ref h2, .ref h3, .int x2, .int x3, .int x4, .int (-1), .int x6])), (h1, .inl (y0, 16, .inl f0)), (h3, .inr (1, [.ref h4, .ref h5, .ref h6, .ref h7])), (h4, .inl (y1, 32768, .inl f1)), (h7, .inr (9, [.ref h8, .ref h9, .int x7, .int x8, .int x9, .int x10])), (h9, .inl (y2, 3, .inl f2)), (h8, .inl (y3, 3, .inl f3)), (h6, .inr (5, [.int x11, .int x12, .int x13, .int x14, .int x15, .int x16])), (h5, .inr (7, [.int x17, .int x18, .int x19, .int x20, .int x21]))]) hP hD rfl
    refine lv_aload_n hx hb dX2_operand_13 rfl (lv_at hl 0 rfl) ?_
    refine va_get (D := (dC, dI)) (ci := 2) (v := .int x6) (C := RX2) (T := TX2) (N := 8) hx hb hG inGX2 hown hK hP 0 rfl rfl 7 (by decide) (hG _ wd_156) (fun _ h9 => h9) rfl dX2_operand_14 ?_
    refine jcut (a := ∀ (b73 : Int32) (b74 : Int32) (ib74 : iv b74 0 1) (H : Heap) (locs : List Loc) (hK : va_K (dC, dI) vwCl [(y0, .int), (y1, .int), (y2, .int), (y3, .int)] s) (hP : va_P (dC, dI) vwCl [(h0, .inr (2, [.ref h1, .ref h2, .ref h3, .int x2, .int x3, .int x4, .int (-1), .int b74])), (h1, .inl (y0, 16, .inl f0)), (h3, .inr (1, [.ref h4, .ref h5, .ref h6, .ref h7])), (h4, .inl (y1, 32768, .inl f1)), (h7, .inr (9, [.ref h8, .ref h9, .int x7, .int x8, .int x9, .int x10])), (h9, .inl (y2, 3, .inl f2)), (h8, .inl (y3, 3, .inl f3)), (h6, .inr (5, [.int x11, .int x12, .int x13, .int x14, .int x15, .int x16])), (h5, .inr (7, [.int x17, .int x18, .int x19, .int x20, .int x21]))] H) (hD : va_D A [(h0, .inr (2, [.ref h1, .ref h2, .ref h3, .int x2, .int x3, .int x4, .int (-1), .int b74])), (h1, .inl (y0, 16, .inl f0)), (h3, .inr (1, [.ref h4, .ref h5, .ref h6, .ref h7])), (h4, .inl (y1, 32768, .inl f1)), (h7, .inr (9, [.ref h8, .ref h9, .int x7, .int x8, .int x9, .int x10])), (h9, .inl (y2, 3, .inl f2)), (h8, .inl (y3, 3, .inl f3)), (h6, .inr (5, [.int x11, .int x12, .int x13, .int x14, .int x15, .int x16])), (h5, .inr (7, [.int x17, .int x18, .int x19, .int x20, .int x21]))]) (hS : va_S A s.heap H locs) (ls : Array Slot) (hl : lv_has ls 4 []), W p l e (headSpec (Cond.code yX2_operand cX2_operand 4 (some .int) :: lw_G) ({ frames := 4, cells := 0, slots := 0, locals := 87 })).room s m ar below meth c H locs 0 0 Q (F0 m 37 ls [.int b73])) ?_ (fun j75 => ?_)
    · skip
      intro b73 b74 ib74 H locs hK hP hD hS ls hl
      rw [hQ]
      obtain ⟨hP9, hD9⟩ := nv_sub2 (wc := [(h0, .inr (2, [.ref h1, .ref h2, .ref h3, .int x2, .int x3, .int x4, .int (-1), .int b74])), (h1, .inl (y0, 16, .inl f0)), (h3, .inr (1, [.ref h4, .ref h5, .ref h6, .ref h7])), (h4, .inl (y1, 32768, .inl f1)), (h7, .inr (9, [.ref h8, .ref h9, .int x7, .int x8, .int x9, .int x10])), (h9, .inl (y2, 3, .inl f2)), (h8, .inl (y3, 3, .inl f3)), (h6, .inr (5, [.int x11, .int x12, .int x13, .int x14, .int x15, .int x16])), (h5, .inr (7, [.int x17, .int x18, .int x19, .int x20, .int x21]))]) hP hD [0, 1, 2, 3, 4, 5, 6, 7, 8] (by decide) rfl
      have hK9 := hK.sub (tys' := [(y0, .int), (y1, .int), (y2, .int), (y3, .int)]) [0, 1, 2, 3] rfl
      exact W.iret (v := b73) hx hb hr (fun t ht hW => ⟨⟨b73, ((-1), b74, f0, x7, f3), rfl, ⟨iv_w ib74 (by decide) (by decide), trivial⟩, by rw [ht]; exact hP9, va_K.moved hW.alike hK9, hD9⟩, hS.F ht⟩) hS.2.2 dX2_operand_37
    refine lv_if_eq (tgt := 32) hx hb dX2_operand_17 (by decide) (fun c66 => ?_) (fun c66 => ?_)
    · skip
      subst c66
      refine lv_iload_n hx hb dX2_operand_32 rfl (lv_at hl 1 rfl) ?_
      refine lv_iload_n hx hb dX2_operand_33 rfl (lv_at hl 2 rfl) ?_
      obtain ⟨hPc, hDc, hFc⟩ := nv_sub3 (wc := []) hP hD hS hA [] (by decide) rfl
      have hKc := hK.sub (tys' := []) [] rfl
      refine va_calli (va_runS (As := [.int x0, .int x1]) (rest := []) ⟨hx, hb, hml, hown, hG⟩ (cX2_constant_1 l dC dI H.size x0 x1) (va_cwS 2 hG (gS wd_1023 wd_1024 wd_6 wd_1025) rfl rfl rfl (by decide +kernel) ⟨Nat.le_of_ble_eq_true rfl, Nat.le_of_ble_eq_true rfl⟩) ⟨fun a U g mk q => by obtain ⟨q0, q1, qP, qK, qD⟩ := q; exact ⟨q0, q1, qP, va_K.moved (u := U) (U := U.calling g mk a) (Vm.Alike.refl U.vm) qK, qD⟩, fun U hU hW => ⟨rfl, by rw [hU], by rw [hU]; exact hPc, va_K.moved hW.alike hKc, hDc.weaken (fun _ _ _ _ => trivial)⟩⟩ rfl rfl hl.1 rfl (lv_room (Nat.le_of_ble_eq_true rfl)) dX2_operand_34 ⟨by decide, by decide⟩) hS (fun q _ h => hFc q h) hFc (fun r76 u77 t H1 locs ht hvm hw hB hz1 hk1 hS => ?_)
      obtain ⟨hP1, hK1, hD1⟩ := hB
      rw [ht] at hP1
      have hK1 := va_K.moved hvm.symm hK1
      obtain ⟨hP, hD⟩ := nv_join (wf := [(h0, .inr (2, [.ref h1, .ref h2, .ref h3, .int x2, .int x3, .int x4, .int (-1), .int 0])), (h1, .inl (y0, 16, .inl f0)), (h3, .inr (1, [.ref h4, .ref h5, .ref h6, .ref h7])), (h4, .inl (y1, 32768, .inl f1)), (h7, .inr (9, [.ref h8, .ref h9, .int x7, .int x8, .int x9, .int x10])), (h9, .inl (y2, 3, .inl f2)), (h8, .inl (y3, 3, .inl f3)), (h6, .inr (5, [.int x11, .int x12, .int x13, .int x14, .int x15, .int x16])), (h5, .inr (7, [.int x17, .int x18, .int x19, .int x20, .int x21]))]) hP hD [] [0, 1, 2, 3, 4, 5, 6, 7, 8] rfl rfl (by decide) (by decide) hk1 hFc hP1 hD1 rfl
      have hK := (hK.sub (tys' := [(y0, .int), (y1, .int), (y2, .int), (y3, .int)]) [0, 1, 2, 3] rfl).app hK1
      generalize H1 = H at hP hS ⊢
      have hK : va_K (dC, dI) vwCl [(y0, .int), (y1, .int), (y2, .int), (y3, .int)] s := hK
      exact j75 r76 0 (iv_w (by decide : iv 0 0 0) (by decide) (by decide)) _ _ hK hP hD hS ls (lv_sub hl [] rfl)
    · skip
      have j78 : iv x6 1 1 := iv_neLo ix6 (by decide : iv 0 0 0) c66 (by decide)
      refine lv_iload_n hx hb dX2_operand_20 rfl (lv_at hl 1 rfl) ?_
      refine lv_iload_n hx hb dX2_operand_21 rfl (lv_at hl 2 rfl) ?_
      obtain ⟨hPc, hDc, hFc⟩ := nv_sub3 (wc := []) hP hD hS hA [] (by decide) rfl
      have hKc := hK.sub (tys' := []) [] rfl
      refine va_calli (va_runS (As := [.int x0, .int x1]) (rest := []) ⟨hx, hb, hml, hown, hG⟩ (cX2_constant_1 l dC dI H.size x0 x1) (va_cwS 2 hG (gS wd_1023 wd_1024 wd_6 wd_1025) rfl rfl rfl (by decide +kernel) ⟨Nat.le_of_ble_eq_true rfl, Nat.le_of_ble_eq_true rfl⟩) ⟨fun a U g mk q => by obtain ⟨q0, q1, qP, qK, qD⟩ := q; exact ⟨q0, q1, qP, va_K.moved (u := U) (U := U.calling g mk a) (Vm.Alike.refl U.vm) qK, qD⟩, fun U hU hW => ⟨rfl, by rw [hU], by rw [hU]; exact hPc, va_K.moved hW.alike hKc, hDc.weaken (fun _ _ _ _ => trivial)⟩⟩ rfl rfl hl.1 rfl (lv_room (Nat.le_of_ble_eq_true rfl)) dX2_operand_22 ⟨by decide, by decide⟩) hS (fun q _ h => hFc q h) hFc (fun r79 u80 t H1 locs ht hvm hw hB hz1 hk1 hS => ?_)
      obtain ⟨hP1, hK1, hD1⟩ := hB
      rw [ht] at hP1
      have hK1 := va_K.moved hvm.symm hK1
      obtain ⟨hP, hD⟩ := nv_join (wf := [(h0, .inr (2, [.ref h1, .ref h2, .ref h3, .int x2, .int x3, .int x4, .int (-1), .int x6])), (h1, .inl (y0, 16, .inl f0)), (h3, .inr (1, [.ref h4, .ref h5, .ref h6, .ref h7])), (h4, .inl (y1, 32768, .inl f1)), (h7, .inr (9, [.ref h8, .ref h9, .int x7, .int x8, .int x9, .int x10])), (h9, .inl (y2, 3, .inl f2)), (h8, .inl (y3, 3, .inl f3)), (h6, .inr (5, [.int x11, .int x12, .int x13, .int x14, .int x15, .int x16])), (h5, .inr (7, [.int x17, .int x18, .int x19, .int x20, .int x21]))]) hP hD [] [0, 1, 2, 3, 4, 5, 6, 7, 8] rfl rfl (by decide) (by decide) hk1 hFc hP1 hD1 rfl
      have hK := (hK.sub (tys' := [(y0, .int), (y1, .int), (y2, .int), (y3, .int)]) [0, 1, 2, 3] rfl).app hK1
      generalize H1 = H at hP hS ⊢
      have hK : va_K (dC, dI) vwCl [(y0, .int), (y1, .int), (y2, .int), (y3, .int)] s := hK
      refine lv_sipush (v := 255) hx hb dX2_operand_25 (by decide) ?_
      refine lv_iand hx hb dX2_operand_28 ?_
      refine lv_topi (fun v81 ev81 => ?_)
      have iv81 : iv v81 0 255 := iv_eq ev81 (iv_and (x := r79) (iv_w (by decide : iv 255 255 255) (by decide) (by decide) : iv 255 0 255))
      refine lv_goto (tgt := 37) hx hb dX2_operand_29 (by decide) ?_
      exact j75 v81 x6 (iv_w j78 (by decide) (by decide)) _ _ hK hP hD hS ls (lv_sub hl [] rfl)
set_option maxHeartbeats 100000000 in
set_option maxRecDepth 100000 in
theorem cX2_putFlags_1 (l : Launch) (dC : Nat → ClassId) (dI : Nat → Nat → Nat) (h0 h1 h2 h3 : Nat) (y0 : ClassId) (sz : Nat) (x0 x1 x2 x3 x4 x5 x6 x7 : Int32) (f0 : Nat → Int32) (ix1 : iv x1 0 1) (ix2 : iv x2 0 1) (ix7 : iv x7 0 1) : Met l yX2_putFlags (Cond.code yX2_putFlags cX2_putFlags 6 none :: lw_G) ({ frames := 0, cells := 0, slots := 0, locals := 0 }) (va_Pc [.ref h0, .int x0, .int x1, .int x2] (fun U => U.heap.size = sz ∧ va_P (dC, dI) vwCl [(h0, .inr (2, [.ref h1, .ref h2, .ref h3, .int x3, .int x4, .int x5, .int x6, .int x7])), (h1, .inl (y0, 16, .inl f0))] U.heap ∧ va_K (dC, dI) vwCl [(y0, .int)] U ∧ va_D (fun _ => True) [(h0, .inr (2, [.ref h1, .ref h2, .ref h3, .int x3, .int x4, .int x5, .int x6, .int x7])), (h1, .inl (y0, 16, .inl f0))])) (va_Qv (fun (u : Int32 × (Nat → Int32)) => iv u.1 0 1 ∧ True) (fun (u : Int32 × (Nat → Int32)) (t : State) => va_P (dC, dI) vwCl [(h0, .inr (2, [.ref h1, .ref h2, .ref h3, .int x3, .int x4, .int x5, .int x6, .int u.1])), (h1, .inl (y0, 16, .inl u.2))] t.heap ∧ va_K (dC, dI) vwCl [(y0, .int)] t ∧ va_D (va_A [(h0, .inr (2, [.ref h1, .ref h2, .ref h3, .int x3, .int x4, .int x5, .int x6, .int x7])), (h1, .inl (y0, 16, .inl f0))] sz) [(h0, .inr (2, [.ref h1, .ref h2, .ref h3, .int x3, .int x4, .int x5, .int x6, .int u.1])), (h1, .inl (y0, 16, .inl u.2))]) (va_A [(h0, .inr (2, [.ref h1, .ref h2, .ref h3, .int x3, .int x4, .int x5, .int x6, .int x7])), (h1, .inl (y0, 16, .inl f0))] sz)) 0 0 (va_A [(h0, .inr (2, [.ref h1, .ref h2, .ref h3, .int x3, .int x4, .int x5, .int x6, .int x7])), (h1, .inl (y0, 16, .inl f0))] sz) := by
  refine Met.ofW (cc := cX2_putFlags) (maxL := 6) (ret := none) (by decide) rfl ?_
  intro p e s m args below meth c s₁ B hml hv
  obtain ⟨rfl, hsz, hP, hK, hD0⟩ := hv
  have hx := B.exec
  have hb := B.bytes
  have hr := B.returns
  have hts0 := atoms_spec (ws := Cond.code yX2_putFlags cX2_putFlags 6 none :: lw_G) B.pre
  have hG : ∀ w ∈ lw_G, w.before _ s = true := fun w h => hts0 w (List.mem_cons_of_mem _ h)
  have hown : s.vm.findClass RX2 = some m.cls := findClass_of_methodNamed B.named
  have hlocks := B.notSynchronized
  subst hsz
  have hD := hD0.self (sz := s.heap.size)
  generalize hAe : va_A [(h0, .inr (2, [.ref h1, .ref h2, .ref h3, .int x3, .int x4, .int x5, .int x6, .int x7])), (h1, .inl (y0, 16, .inl f0))] s.heap.size = A at hD ⊢
  have hA : ∀ q : Nat, s.heap.size ≤ q → A q := fun q h => by rw [← hAe]; exact Or.inr h
  have hS : va_S A s.heap s.heap [] := va_S.rf
  have hP : va_P (dC, dI) vwCl [(h0, .inr (2, [.ref h1, .ref h2, .ref h3, .int x3, .int x4, .int x5, .int x6, .int x7])), (h1, .inl (y0, 16, .inl f0))] s.heap := hP
  have hl := lv_entry ([.ref h0, .int x0, .int x1, .int x2]) (n := 6) (Nat.le_of_ble_eq_true rfl)
  rw [lg_entry_eq]
  generalize (lg_sl ([.ref h0, .int x0, .int x1, .int x2]) ++ List.replicate (6 - (lg_sl ([.ref h0, .int x0, .int x1, .int x2])).length) Slot.unset).toArray = ls at hl ⊢
  have hl : lv_has ls 6 [(0, .ref h0), (1, .int x0), (2, .int x1), (3, .int x2)] := hl
  generalize ([.ref h0, .int x0, .int x1, .int x2] : List Value).toArray = ar at hG ⊢
  refine wq (fun Q hQ => ?_)
  refine lv_aload_n hx hb dX2_putFlags_0 rfl (lv_at hl 0 rfl) ?_
  refine va_get (D := (dC, dI)) (ci := 2) (v := .int x7) (C := RX2) (T := TX2) (N := 8) hx hb hG inGX2 hown hK hP 0 rfl rfl 7 (by decide) (hG _ wd_156) (fun _ h9 => h9) rfl dX2_putFlags_1 ?_
  refine jcut (a := ∀ (b3 : Int32) (b4 : Int32) (ib3 : iv b3 128 32768) (ib4 : iv b4 0 1) (H : Heap) (locs : List Loc) (hK : va_K (dC, dI) vwCl [(y0, .int)] s) (hP : va_P (dC, dI) vwCl [(h0, .inr (2, [.ref h1, .ref h2, .ref h3, .int x3, .int x4, .int x5, .int x6, .int b4])), (h1, .inl (y0, 16, .inl f0))] H) (hD : va_D A [(h0, .inr (2, [.ref h1, .ref h2, .ref h3, .int x3, .int x4, .int x5, .int x6, .int b4])), (h1, .inl (y0, 16, .inl f0))]) (hS : va_S A s.heap H locs) (ls : Array Slot) (hl : lv_has ls 6 [(0, .ref h0), (1, .int x0), (2, .int x1), (3, .int x2)]), W p l e (headSpec (Cond.code yX2_putFlags cX2_putFlags 6 none :: lw_G) ({ frames := 0, cells := 0, slots := 0, locals := 0 })).room s m ar below meth c H locs 0 0 Q (F0 m 15 ls [.int b3])) ?_ (fun j5 => ?_)
  · skip
    intro b3 b4 ib3 ib4 H locs hK hP hD hS ls hl
    refine lv_istore (lv' := [(4, .int b3), (0, .ref h0), (1, .int x0), (2, .int x1), (3, .int x2)]) hx hb dX2_putFlags_15 hl (by decide) rfl (fun ls hl => ?_)
    refine lv_iload_n hx hb dX2_putFlags_17 rfl (lv_at hl 3 rfl) ?_
    refine jcut (a := ∀ (b8 : Int32) (ib8 : iv b8 0 1) (H : Heap) (locs : List Loc) (hK : va_K (dC, dI) vwCl [(y0, .int)] s) (hP : va_P (dC, dI) vwCl [(h0, .inr (2, [.ref h1, .ref h2, .ref h3, .int x3, .int x4, .int x5, .int x6, .int b4])), (h1, .inl (y0, 16, .inl f0))] H) (hD : va_D A [(h0, .inr (2, [.ref h1, .ref h2, .ref h3, .int x3, .int x4, .int x5, .int x6, .int b4])), (h1, .inl (y0, 16, .inl f0))]) (hS : va_S A s.heap H locs) (ls : Array Slot) (hl : lv_has ls 6 [(4, .int b3), (0, .ref h0), (1, .int x0), (3, .int x2)]), W p l e (headSpec (Cond.code yX2_putFlags cX2_putFlags 6 none :: lw_G) ({ frames := 0, cells := 0, slots := 0, locals := 0 })).room s m ar below meth c H locs 0 0 Q (F0 m 26 ls [.int b8])) ?_ (fun j9 => ?_)
    · skip
      intro b8 ib8 H locs hK hP hD hS ls hl
      refine lv_iload_n hx hb dX2_putFlags_26 rfl (lv_at hl 3 rfl) ?_
      refine jcut (a := ∀ (b12 : Int32) (ib12 : iv b12 0 256) (H : Heap) (locs : List Loc) (hK : va_K (dC, dI) vwCl [(y0, .int)] s) (hP : va_P (dC, dI) vwCl [(h0, .inr (2, [.ref h1, .ref h2, .ref h3, .int x3, .int x4, .int x5, .int x6, .int b4])), (h1, .inl (y0, 16, .inl f0))] H) (hD : va_D A [(h0, .inr (2, [.ref h1, .ref h2, .ref h3, .int x3, .int x4, .int x5, .int x6, .int b4])), (h1, .inl (y0, 16, .inl f0))]) (hS : va_S A s.heap H locs) (ls : Array Slot) (hl : lv_has ls 6 [(4, .int b3), (0, .ref h0), (1, .int x0)]), W p l e (headSpec (Cond.code yX2_putFlags cX2_putFlags 6 none :: lw_G) ({ frames := 0, cells := 0, slots := 0, locals := 0 })).room s m ar below meth c H locs 0 0 Q (F0 m 37 ls [.int b12, .int b8])) ?_ (fun j13 => ?_)
      · skip
        intro b12 ib12 H locs hK hP hD hS ls hl
        refine lv_ior hx hb dX2_putFlags_37 ?_
        refine lv_topi (fun v14 ev14 => ?_)
        have iv14 : iv v14 0 511 := iv_eq ev14 (iv_or 9 (iv_w ib8 (by decide) (by decide) : iv b8 0 1) (iv_w ib12 (by decide) (by decide) : iv b12 0 256) (by decide) (by decide) (by decide))
        refine lv_istore (lv' := [(5, .int v14), (4, .int b3), (0, .ref h0), (1, .int x0)]) hx hb dX2_putFlags_38 hl (by decide) rfl (fun ls hl => ?_)
        refine lv_iload hx hb dX2_putFlags_40 (lv_at hl 0 rfl) ?_
        refine lv_iload_n hx hb dX2_putFlags_42 rfl (lv_at hl 3 rfl) ?_
        refine lv_iload hx hb dX2_putFlags_43 (lv_at hl 1 rfl) ?_
        refine lv_iand hx hb dX2_putFlags_45 ?_
        refine lv_topi (fun v15 ev15 => ?_)
        have iv15 : iv v15 0 32768 := iv_eq ev15 (iv_and (x := x0) (iv_w ib3 (by decide) (by decide) : iv b3 0 32768))
        refine jcut (a := ∀ (b18 : Int32) (ib18 : iv b18 0 4) (H : Heap) (locs : List Loc) (hK : va_K (dC, dI) vwCl [(y0, .int)] s) (hP : va_P (dC, dI) vwCl [(h0, .inr (2, [.ref h1, .ref h2, .ref h3, .int x3, .int x4, .int x5, .int x6, .int b4])), (h1, .inl (y0, 16, .inl f0))] H) (hD : va_D A [(h0, .inr (2, [.ref h1, .ref h2, .ref h3, .int x3, .int x4, .int x5, .int x6, .int b4])), (h1, .inl (y0, 16, .inl f0))]) (hS : va_S A s.heap H locs) (ls : Array Slot) (hl : lv_has ls 6 [(0, .ref h0), (1, .int x0)]), W p l e (headSpec (Cond.code yX2_putFlags cX2_putFlags 6 none :: lw_G) ({ frames := 0, cells := 0, slots := 0, locals := 0 })).room s m ar below meth c H locs 0 0 Q (F0 m 54 ls [.int b18, .int v14])) ?_ (fun j19 => ?_)
        · skip
          intro b18 ib18 H locs hK hP hD hS ls hl
          refine lv_ior hx hb dX2_putFlags_54 ?_
          refine lv_topi (fun v20 ev20 => ?_)
          have iv20 : iv v20 0 511 := iv_eq ev20 (iv_or 9 (iv_w iv14 (by decide) (by decide) : iv v14 0 511) (iv_w ib18 (by decide) (by decide) : iv b18 0 4) (by decide) (by decide) (by decide))
          refine lv_istore (lv' := [(5, .int v20), (0, .ref h0), (1, .int x0)]) hx hb dX2_putFlags_55 hl (by decide) rfl (fun ls hl => ?_)
          refine lv_iload hx hb dX2_putFlags_57 (lv_at hl 0 rfl) ?_
          refine lv_iload_n hx hb dX2_putFlags_59 rfl (lv_at hl 2 rfl) ?_
          refine jcut (a := ∀ (b22 : Int32) (ib22 : iv b22 0 2) (H : Heap) (locs : List Loc) (hK : va_K (dC, dI) vwCl [(y0, .int)] s) (hP : va_P (dC, dI) vwCl [(h0, .inr (2, [.ref h1, .ref h2, .ref h3, .int x3, .int x4, .int x5, .int x6, .int b4])), (h1, .inl (y0, 16, .inl f0))] H) (hD : va_D A [(h0, .inr (2, [.ref h1, .ref h2, .ref h3, .int x3, .int x4, .int x5, .int x6, .int b4])), (h1, .inl (y0, 16, .inl f0))]) (hS : va_S A s.heap H locs) (ls : Array Slot) (hl : lv_has ls 6 [(0, .ref h0)]), W p l e (headSpec (Cond.code yX2_putFlags cX2_putFlags 6 none :: lw_G) ({ frames := 0, cells := 0, slots := 0, locals := 0 })).room s m ar below meth c H locs 0 0 Q (F0 m 68 ls [.int b22, .int v20])) ?_ (fun j23 => ?_)
          · skip
            intro b22 ib22 H locs hK hP hD hS ls hl
            refine lv_ior hx hb dX2_putFlags_68 ?_
            refine lv_topi (fun v24 ev24 => ?_)
            have iv24 : iv v24 0 511 := iv_eq ev24 (iv_or 9 (iv_w iv20 (by decide) (by decide) : iv v20 0 511) (iv_w ib22 (by decide) (by decide) : iv b22 0 2) (by decide) (by decide) (by decide))
            refine lv_istore (lv' := [(5, .int v24), (0, .ref h0)]) hx hb dX2_putFlags_69 hl (by decide) rfl (fun ls hl => ?_)
            refine lv_aload_n hx hb dX2_putFlags_71 rfl (lv_at hl 1 rfl) ?_
            refine va_get (D := (dC, dI)) (ci := 2) (v := .ref h1) (C := RX2) (T := TX2) (N := 8) hx hb hG inGX2 hown hK hP 0 rfl rfl 0 (by decide) (hG _ wd_149) (fun _ h9 => h9) rfl dX2_putFlags_72 ?_
            refine lv_iconst (v := 2) hx hb dX2_putFlags_75 (by decide) ?_
            refine lv_aload_n hx hb dX2_putFlags_76 rfl (lv_at hl 1 rfl) ?_
            refine va_get (D := (dC, dI)) (ci := 2) (v := .ref h1) (C := RX2) (T := TX2) (N := 8) hx hb hG inGX2 hown hK hP 0 rfl rfl 0 (by decide) (hG _ wd_149) (fun _ h9 => h9) rfl dX2_putFlags_77 ?_
            refine lv_iconst (v := 2) hx hb dX2_putFlags_80 (by decide) ?_
            refine va_iald hx hb hK hP 1 0 rfl rfl (iv_in (by decide : iv 2 2 2) (by decide) (by decide) : vp_in 2 16) dX2_putFlags_81 ?_
            refine lv_topi (fun v25 ev25 => ?_)
            refine lv_sipush (v := (-264)) hx hb dX2_putFlags_82 (by decide) ?_
            refine lv_iand hx hb dX2_putFlags_85 ?_
            refine lv_topi (fun v26 ev26 => ?_)
            refine lv_iload hx hb dX2_putFlags_86 (lv_at hl 0 rfl) ?_
            refine lv_ior hx hb dX2_putFlags_88 ?_
            refine lv_topi (fun v27 ev27 => ?_)
            refine va_iast hx hb hK hP hD hS 1 0 rfl rfl (iv_in (by decide : iv 2 2 2) (by decide) (by decide) : vp_in 2 16) dX2_putFlags_89 (fun H locs hP hD hS => ?_)
            obtain ⟨nf28, enf28⟩ : ∃ z, z = upd f0 (2 : Int32).toNatClampNeg v27 := ⟨_, rfl⟩
            obtain ⟨hP, hD⟩ := nv_eq (ws' := [(h0, .inr (2, [.ref h1, .ref h2, .ref h3, .int x3, .int x4, .int x5, .int x6, .int b4])), (h1, .inl (y0, 16, .inl nf28))]) hP hD (by subst enf28; rfl)
            rw [hQ]
            obtain ⟨hP9, hD9⟩ := nv_sub2 (wc := [(h0, .inr (2, [.ref h1, .ref h2, .ref h3, .int x3, .int x4, .int x5, .int x6, .int b4])), (h1, .inl (y0, 16, .inl nf28))]) hP hD [0, 1] (by decide) rfl
            have hK9 := hK.sub (tys' := [(y0, .int)]) [0] rfl
            exact W.vret hx hb hr (fun t ht hW => ⟨⟨(b4, nf28), rfl, ⟨iv_w ib4 (by decide) (by decide), trivial⟩, by rw [ht]; exact hP9, va_K.moved hW.alike hK9, hD9⟩, hS.F ht⟩) hS.2.2 dX2_putFlags_90
          refine lv_if_ne (tgt := 67) hx hb dX2_putFlags_60 (by decide) (fun c21 => ?_) (fun c21 => ?_)
          · skip
            refine lv_iconst (v := 0) hx hb dX2_putFlags_67 (by decide) ?_
            exact j23 0 (iv_w (by decide : iv 0 0 0) (by decide) (by decide)) _ _ hK hP hD hS ls (lv_sub hl [1] rfl)
          · skip
            subst c21
            refine lv_iconst (v := 2) hx hb dX2_putFlags_63 (by decide) ?_
            refine lv_goto (tgt := 68) hx hb dX2_putFlags_64 (by decide) ?_
            exact j23 2 (iv_w (by decide : iv 2 2 2) (by decide) (by decide)) _ _ hK hP hD hS ls (lv_sub hl [1] rfl)
        refine lv_if_eq (tgt := 53) hx hb dX2_putFlags_46 (by decide) (fun c16 => ?_) (fun c16 => ?_)
        · skip
          subst c16
          refine lv_iconst (v := 0) hx hb dX2_putFlags_53 (by decide) ?_
          exact j19 0 (iv_w (by decide : iv 0 0 0) (by decide) (by decide)) _ _ hK hP hD hS ls (lv_sub hl [2, 3] rfl)
        · skip
          have j29 : iv v15 1 32768 := iv_neLo iv15 (by decide : iv 0 0 0) c16 (by decide)
          refine lv_iconst (v := 4) hx hb dX2_putFlags_49 (by decide) ?_
          refine lv_goto (tgt := 54) hx hb dX2_putFlags_50 (by decide) ?_
          exact j19 4 (iv_w (by decide : iv 4 4 4) (by decide) (by decide)) _ _ hK hP hD hS ls (lv_sub hl [2, 3] rfl)
      refine lv_if_eq (tgt := 36) hx hb dX2_putFlags_27 (by decide) (fun c10 => ?_) (fun c10 => ?_)
      · skip
        subst c10
        refine lv_iconst (v := 0) hx hb dX2_putFlags_36 (by decide) ?_
        exact j13 0 (iv_w (by decide : iv 0 0 0) (by decide) (by decide)) _ _ hK hP hD hS ls (lv_sub hl [0, 1, 2] rfl)
      · skip
        have j30 : iv x2 1 1 := iv_neLo ix2 (by decide : iv 0 0 0) c10 (by decide)
        refine lv_sipush (v := 256) hx hb dX2_putFlags_30 (by decide) ?_
        refine lv_goto (tgt := 37) hx hb dX2_putFlags_33 (by decide) ?_
        exact j13 256 (iv_w (by decide : iv 256 256 256) (by decide) (by decide)) _ _ hK hP hD hS ls (lv_sub hl [0, 1, 2] rfl)
    refine lv_if_eq (tgt := 25) hx hb dX2_putFlags_18 (by decide) (fun c6 => ?_) (fun c6 => ?_)
    · skip
      subst c6
      refine lv_iconst (v := 0) hx hb dX2_putFlags_25 (by decide) ?_
      exact j9 0 (iv_w (by decide : iv 0 0 0) (by decide) (by decide)) _ _ hK hP hD hS ls (lv_sub hl [0, 1, 2, 4] rfl)
    · skip
      have j31 : iv x1 1 1 := iv_neLo ix1 (by decide : iv 0 0 0) c6 (by decide)
      refine lv_iconst (v := 1) hx hb dX2_putFlags_21 (by decide) ?_
      refine lv_goto (tgt := 26) hx hb dX2_putFlags_22 (by decide) ?_
      exact j9 1 (iv_w (by decide : iv 1 1 1) (by decide) (by decide)) _ _ hK hP hD hS ls (lv_sub hl [0, 1, 2, 4] rfl)
  refine lv_if_eq (tgt := 13) hx hb dX2_putFlags_4 (by decide) (fun c1 => ?_) (fun c1 => ?_)
  · skip
    subst c1
    refine lv_ldc hx hb hown (hG _ wd_1047) dX2_putFlags_13 ?_
    exact j5 32768 0 (iv_w (by decide : iv 32768 32768 32768) (by decide) (by decide)) (iv_w (by decide : iv 0 0 0) (by decide) (by decide)) _ _ hK hP hD hS ls hl
  · skip
    have j32 : iv x7 1 1 := iv_neLo ix7 (by decide : iv 0 0 0) c1 (by decide)
    refine lv_sipush (v := 128) hx hb dX2_putFlags_7 (by decide) ?_
    refine lv_goto (tgt := 15) hx hb dX2_putFlags_10 (by decide) ?_
    exact j5 128 x7 (iv_w (by decide : iv 128 128 128) (by decide) (by decide)) (iv_w j32 (by decide) (by decide)) _ _ hK hP hD hS ls hl
