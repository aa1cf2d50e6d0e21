set_option maxHeartbeats 100000000 in
set_option maxRecDepth 100000 in
theorem cJ1_indexOfChar_4cfef_1 (l : Launch) (dC : Nat → ClassId) (dI : Nat → Nat → Nat) (adK adV : Nat → Nat) (sz : Nat) (x0 : Int32) : Met l yJ1_indexOfChar_4cfef (Cond.code yJ1_indexOfChar_4cfef cJ1_indexOfChar_4cfef 6 (some .int) :: lw_G) ({ frames := 0, cells := 0, slots := 0, locals := 0 }) (va_Pc [.ref (adV 1), .int x0, .int 0, .int 9] (fun U => U.heap.size = sz ∧ va_P (dC, dI) vwCl [] U.heap ∧ va_K (dC, dI) vwCl [] U ∧ va_D (fun _ => True) [] ∧ ev adK adV (va_A [] sz) U U.heap)) (va_Qi (fun (r : Int32) (u : Unit) => iv r (-1) 8 ∧ True) (fun (u : Unit) (t : State) => va_P (dC, dI) vwCl [] t.heap ∧ va_K (dC, dI) vwCl [] t ∧ va_D (va_A [] sz) []) (va_A [] sz)) 0 0 (va_A [] sz) := by
  refine Met.ofW (cc := cJ1_indexOfChar_4cfef) (maxL := 6) (ret := (some .int)) (by decide) rfl ?_
  intro p e s m args below meth c s₁ B hml hv
  obtain ⟨rfl, hsz, hP, hK, hD0, hE⟩ := hv
  have hx := B.exec
  have hb := B.bytes
  have hr := B.returns
  have hts0 := atoms_spec (ws := Cond.code yJ1_indexOfChar_4cfef cJ1_indexOfChar_4cfef 6 (some .int) :: lw_G) B.pre
  have hG : ∀ w ∈ lw_G, w.before _ s = true := fun w h => hts0 w (List.mem_cons_of_mem _ h)
  have hown : s.vm.findClass RJ1 = some m.cls := findClass_of_methodNamed B.named
  have hlocks := B.notSynchronized
  subst hsz
  have hD := hD0.self (sz := s.heap.size)
  generalize hAe : va_A [] s.heap.size = A at hD hE ⊢
  have hA : ∀ q : Nat, s.heap.size ≤ q → A q := fun q h => by rw [← hAe]; exact Or.inr h
  have hS : va_S A s.heap s.heap [] := va_S.rf
  have hP : va_P (dC, dI) vwCl [] s.heap := hP
  have hl := lv_entry ([.ref (adV 1), .int x0, .int 0, .int 9]) (n := 6) (Nat.le_of_ble_eq_true rfl)
  rw [lg_entry_eq]
  generalize (lg_sl ([.ref (adV 1), .int x0, .int 0, .int 9]) ++ List.replicate (6 - (lg_sl ([.ref (adV 1), .int x0, .int 0, .int 9])).length) Slot.unset).toArray = ls at hl ⊢
  have hl : lv_has ls 6 [(0, .ref (adV 1)), (1, .int x0), (2, .int 0), (3, .int 9)] := hl
  generalize ([.ref (adV 1), .int x0, .int 0, .int 9] : List Value).toArray = ar at hG ⊢
  refine wq (fun Q hQ => ?_)
  refine lv_iload_n hx hb dJ1_indexOfChar_4cfef_0 rfl (lv_at hl 1 rfl) ?_
  refine lv_i2b (v := _) hx hb dJ1_indexOfChar_4cfef_1 rfl ?_
  refine lv_topi (fun v1 ev1 => ?_)
  have iv1 : iv v1 (-128) 127 := iv_eq ev1 (iv_i2b _)
  refine lv_istore (lv' := [(4, .int v1), (0, .ref (adV 1)), (1, .int x0), (2, .int 0), (3, .int 9)]) hx hb dJ1_indexOfChar_4cfef_2 hl (by decide) rfl (fun ls hl => ?_)
  refine lv_iload_n hx hb dJ1_indexOfChar_4cfef_4 rfl (lv_at hl 3 rfl) ?_
  refine lv_istore (lv' := [(5, .int 0), (4, .int v1), (0, .ref (adV 1)), (1, .int x0), (2, .int 0), (3, .int 9)]) hx hb dJ1_indexOfChar_4cfef_5 hl (by decide) rfl (fun ls hl => ?_)
  refine lv_iload hx hb dJ1_indexOfChar_4cfef_7 (lv_at hl 0 rfl) ?_
  refine lv_iload_n hx hb dJ1_indexOfChar_4cfef_9 rfl (lv_at hl 5 rfl) ?_
  refine lv_icmp_ge (tgt := 31) hx hb dJ1_indexOfChar_4cfef_10 (by decide) (fun c => absurd c (by decide)) (fun _ => ?_)
  refine lv_aload_n hx hb dJ1_indexOfChar_4cfef_13 rfl (lv_at hl 2 rfl) ?_
  refine lv_iload hx hb dJ1_indexOfChar_4cfef_14 (lv_at hl 0 rfl) ?_
  refine va_tb (v := .int 58) hx hb (hE.1.1 1 (by decide)).2.2.2 hS (iv_in (by decide : iv 0 0 0) (by decide) (by decide) : vp_in 0 9) rfl dJ1_indexOfChar_4cfef_16 ?_
  refine lv_iload hx hb dJ1_indexOfChar_4cfef_17 (lv_at hl 1 rfl) ?_
  refine lv_icmp_ne (tgt := 25) hx hb dJ1_indexOfChar_4cfef_19 (by decide) (fun c2 => ?_) (fun c2 => ?_)
  · skip
    refine lv_iinc (v := 1) (lv' := [(5, .int 1), (4, .int v1), (0, .ref (adV 1)), (1, .int x0), (2, .int 0), (3, .int 9)]) hx hb dJ1_indexOfChar_4cfef_25 hl (k := 0) rfl (by decide) (by decide) rfl (fun ls hl => ?_)
    refine lv_goto (tgt := 7) hx hb dJ1_indexOfChar_4cfef_28 (by decide) ?_
    refine lv_iload hx hb dJ1_indexOfChar_4cfef_7 (lv_at hl 0 rfl) ?_
    refine lv_iload_n hx hb dJ1_indexOfChar_4cfef_9 rfl (lv_at hl 5 rfl) ?_
    refine lv_icmp_ge (tgt := 31) hx hb dJ1_indexOfChar_4cfef_10 (by decide) (fun c => absurd c (by decide)) (fun _ => ?_)
    refine lv_aload_n hx hb dJ1_indexOfChar_4cfef_13 rfl (lv_at hl 2 rfl) ?_
    refine lv_iload hx hb dJ1_indexOfChar_4cfef_14 (lv_at hl 0 rfl) ?_
    refine va_tb (v := .int 44) hx hb (hE.1.1 1 (by decide)).2.2.2 hS (iv_in (by decide : iv 1 1 1) (by decide) (by decide) : vp_in 1 9) rfl dJ1_indexOfChar_4cfef_16 ?_
    refine lv_iload hx hb dJ1_indexOfChar_4cfef_17 (lv_at hl 1 rfl) ?_
    refine lv_icmp_ne (tgt := 25) hx hb dJ1_indexOfChar_4cfef_19 (by decide) (fun c3 => ?_) (fun c3 => ?_)
    · skip
      refine lv_iinc (v := 2) (lv' := [(5, .int 2), (4, .int v1), (0, .ref (adV 1)), (1, .int x0), (2, .int 0), (3, .int 9)]) hx hb dJ1_indexOfChar_4cfef_25 hl (k := 0) rfl (by decide) (by decide) rfl (fun ls hl => ?_)
      refine lv_goto (tgt := 7) hx hb dJ1_indexOfChar_4cfef_28 (by decide) ?_
      refine lv_iload hx hb dJ1_indexOfChar_4cfef_7 (lv_at hl 0 rfl) ?_
      refine lv_iload_n hx hb dJ1_indexOfChar_4cfef_9 rfl (lv_at hl 5 rfl) ?_
      refine lv_icmp_ge (tgt := 31) hx hb dJ1_indexOfChar_4cfef_10 (by decide) (fun c => absurd c (by decide)) (fun _ => ?_)
      refine lv_aload_n hx hb dJ1_indexOfChar_4cfef_13 rfl (lv_at hl 2 rfl) ?_
      refine lv_iload hx hb dJ1_indexOfChar_4cfef_14 (lv_at hl 0 rfl) ?_
      refine va_tb (v := .int 40) hx hb (hE.1.1 1 (by decide)).2.2.2 hS (iv_in (by decide : iv 2 2 2) (by decide) (by decide) : vp_in 2 9) rfl dJ1_indexOfChar_4cfef_16 ?_
      refine lv_iload hx hb dJ1_indexOfChar_4cfef_17 (lv_at hl 1 rfl) ?_
      refine lv_icmp_ne (tgt := 25) hx hb dJ1_indexOfChar_4cfef_19 (by decide) (fun c4 => ?_) (fun c4 => ?_)
      · skip
        refine lv_iinc (v := 3) (lv' := [(5, .int 3), (4, .int v1), (0, .ref (adV 1)), (1, .int x0), (2, .int 0), (3, .int 9)]) hx hb dJ1_indexOfChar_4cfef_25 hl (k := 0) rfl (by decide) (by decide) rfl (fun ls hl => ?_)
        refine lv_goto (tgt := 7) hx hb dJ1_indexOfChar_4cfef_28 (by decide) ?_
        refine lv_iload hx hb dJ1_indexOfChar_4cfef_7 (lv_at hl 0 rfl) ?_
        refine lv_iload_n hx hb dJ1_indexOfChar_4cfef_9 rfl (lv_at hl 5 rfl) ?_
        refine lv_icmp_ge (tgt := 31) hx hb dJ1_indexOfChar_4cfef_10 (by decide) (fun c => absurd c (by decide)) (fun _ => ?_)
        refine lv_aload_n hx hb dJ1_indexOfChar_4cfef_13 rfl (lv_at hl 2 rfl) ?_
        refine lv_iload hx hb dJ1_indexOfChar_4cfef_14 (lv_at hl 0 rfl) ?_
        refine va_tb (v := .int 41) hx hb (hE.1.1 1 (by decide)).2.2.2 hS (iv_in (by decide : iv 3 3 3) (by decide) (by decide) : vp_in 3 9) rfl dJ1_indexOfChar_4cfef_16 ?_
        refine lv_iload hx hb dJ1_indexOfChar_4cfef_17 (lv_at hl 1 rfl) ?_
        refine lv_icmp_ne (tgt := 25) hx hb dJ1_indexOfChar_4cfef_19 (by decide) (fun c5 => ?_) (fun c5 => ?_)
        · skip
          refine lv_iinc (v := 4) (lv' := [(5, .int 4), (4, .int v1), (0, .ref (adV 1)), (1, .int x0), (2, .int 0), (3, .int 9)]) hx hb dJ1_indexOfChar_4cfef_25 hl (k := 0) rfl (by decide) (by decide) rfl (fun ls hl => ?_)
          refine lv_goto (tgt := 7) hx hb dJ1_indexOfChar_4cfef_28 (by decide) ?_
          refine lv_iload hx hb dJ1_indexOfChar_4cfef_7 (lv_at hl 0 rfl) ?_
          refine lv_iload_n hx hb dJ1_indexOfChar_4cfef_9 rfl (lv_at hl 5 rfl) ?_
          refine lv_icmp_ge (tgt := 31) hx hb dJ1_indexOfChar_4cfef_10 (by decide) (fun c => absurd c (by decide)) (fun _ => ?_)
          refine lv_aload_n hx hb dJ1_indexOfChar_4cfef_13 rfl (lv_at hl 2 rfl) ?_
          refine lv_iload hx hb dJ1_indexOfChar_4cfef_14 (lv_at hl 0 rfl) ?_
          refine va_tb (v := .int 38) hx hb (hE.1.1 1 (by decide)).2.2.2 hS (iv_in (by decide : iv 4 4 4) (by decide) (by decide) : vp_in 4 9) rfl dJ1_indexOfChar_4cfef_16 ?_
          refine lv_iload hx hb dJ1_indexOfChar_4cfef_17 (lv_at hl 1 rfl) ?_
          refine lv_icmp_ne (tgt := 25) hx hb dJ1_indexOfChar_4cfef_19 (by decide) (fun c6 => ?_) (fun c6 => ?_)
          · skip
            refine lv_iinc (v := 5) (lv' := [(5, .int 5), (4, .int v1), (0, .ref (adV 1)), (1, .int x0), (2, .int 0), (3, .int 9)]) hx hb dJ1_indexOfChar_4cfef_25 hl (k := 0) rfl (by decide) (by decide) rfl (fun ls hl => ?_)
            refine lv_goto (tgt := 7) hx hb dJ1_indexOfChar_4cfef_28 (by decide) ?_
            refine lv_iload hx hb dJ1_indexOfChar_4cfef_7 (lv_at hl 0 rfl) ?_
            refine lv_iload_n hx hb dJ1_indexOfChar_4cfef_9 rfl (lv_at hl 5 rfl) ?_
            refine lv_icmp_ge (tgt := 31) hx hb dJ1_indexOfChar_4cfef_10 (by decide) (fun c => absurd c (by decide)) (fun _ => ?_)
            refine lv_aload_n hx hb dJ1_indexOfChar_4cfef_13 rfl (lv_at hl 2 rfl) ?_
            refine lv_iload hx hb dJ1_indexOfChar_4cfef_14 (lv_at hl 0 rfl) ?_
            refine va_tb (v := .int 64) hx hb (hE.1.1 1 (by decide)).2.2.2 hS (iv_in (by decide : iv 5 5 5) (by decide) (by decide) : vp_in 5 9) rfl dJ1_indexOfChar_4cfef_16 ?_
            refine lv_iload hx hb dJ1_indexOfChar_4cfef_17 (lv_at hl 1 rfl) ?_
            refine lv_icmp_ne (tgt := 25) hx hb dJ1_indexOfChar_4cfef_19 (by decide) (fun c7 => ?_) (fun c7 => ?_)
            · skip
              refine lv_iinc (v := 6) (lv' := [(5, .int 6), (4, .int v1), (0, .ref (adV 1)), (1, .int x0), (2, .int 0), (3, .int 9)]) hx hb dJ1_indexOfChar_4cfef_25 hl (k := 0) rfl (by decide) (by decide) rfl (fun ls hl => ?_)
              refine lv_goto (tgt := 7) hx hb dJ1_indexOfChar_4cfef_28 (by decide) ?_
              refine lv_iload hx hb dJ1_indexOfChar_4cfef_7 (lv_at hl 0 rfl) ?_
              refine lv_iload_n hx hb dJ1_indexOfChar_4cfef_9 rfl (lv_at hl 5 rfl) ?_
              refine lv_icmp_ge (tgt := 31) hx hb dJ1_indexOfChar_4cfef_10 (by decide) (fun c => absurd c (by decide)) (fun _ => ?_)
              refine lv_aload_n hx hb dJ1_indexOfChar_4cfef_13 rfl (lv_at hl 2 rfl) ?_
              refine lv_iload hx hb dJ1_indexOfChar_4cfef_14 (lv_at hl 0 rfl) ?_
              refine va_tb (v := .int 35) hx hb (hE.1.1 1 (by decide)).2.2.2 hS (iv_in (by decide : iv 6 6 6) (by decide) (by decide) : vp_in 6 9) rfl dJ1_indexOfChar_4cfef_16 ?_
              refine lv_iload hx hb dJ1_indexOfChar_4cfef_17 (lv_at hl 1 rfl) ?_
              refine lv_icmp_ne (tgt := 25) hx hb dJ1_indexOfChar_4cfef_19 (by decide) (fun c8 => ?_) (fun c8 => ?_)
              · skip
                refine lv_iinc (v := 7) (lv' := [(5, .int 7), (4, .int v1), (0, .ref (adV 1)), (1, .int x0), (2, .int 0), (3, .int 9)]) hx hb dJ1_indexOfChar_4cfef_25 hl (k := 0) rfl (by decide) (by decide) rfl (fun ls hl => ?_)
                refine lv_goto (tgt := 7) hx hb dJ1_indexOfChar_4cfef_28 (by decide) ?_
                refine lv_iload hx hb dJ1_indexOfChar_4cfef_7 (lv_at hl 0 rfl) ?_
                refine lv_iload_n hx hb dJ1_indexOfChar_4cfef_9 rfl (lv_at hl 5 rfl) ?_
                refine lv_icmp_ge (tgt := 31) hx hb dJ1_indexOfChar_4cfef_10 (by decide) (fun c => absurd c (by decide)) (fun _ => ?_)
                refine lv_aload_n hx hb dJ1_indexOfChar_4cfef_13 rfl (lv_at hl 2 rfl) ?_
                refine lv_iload hx hb dJ1_indexOfChar_4cfef_14 (lv_at hl 0 rfl) ?_
                refine va_tb (v := .int 43) hx hb (hE.1.1 1 (by decide)).2.2.2 hS (iv_in (by decide : iv 7 7 7) (by decide) (by decide) : vp_in 7 9) rfl dJ1_indexOfChar_4cfef_16 ?_
                refine lv_iload hx hb dJ1_indexOfChar_4cfef_17 (lv_at hl 1 rfl) ?_
                refine lv_icmp_ne (tgt := 25) hx hb dJ1_indexOfChar_4cfef_19 (by decide) (fun c9 => ?_) (fun c9 => ?_)
                · skip
                  refine lv_iinc (v := 8) (lv' := [(5, .int 8), (4, .int v1), (0, .ref (adV 1)), (1, .int x0), (2, .int 0), (3, .int 9)]) hx hb dJ1_indexOfChar_4cfef_25 hl (k := 0) rfl (by decide) (by decide) rfl (fun ls hl => ?_)
                  refine lv_goto (tgt := 7) hx hb dJ1_indexOfChar_4cfef_28 (by decide) ?_
                  refine lv_iload hx hb dJ1_indexOfChar_4cfef_7 (lv_at hl 0 rfl) ?_
                  refine lv_iload_n hx hb dJ1_indexOfChar_4cfef_9 rfl (lv_at hl 5 rfl) ?_
                  refine lv_icmp_ge (tgt := 31) hx hb dJ1_indexOfChar_4cfef_10 (by decide) (fun c => absurd c (by decide)) (fun _ => ?_)
                  refine lv_aload_n hx hb dJ1_indexOfChar_4cfef_13 rfl (lv_at hl 2 rfl) ?_
                  refine lv_iload hx hb dJ1_indexOfChar_4cfef_14 (lv_at hl 0 rfl) ?_
                  refine va_tb (v := .int 45) hx hb (hE.1.1 1 (by decide)).2.2.2 hS (iv_in (by decide : iv 8 8 8) (by decide) (by decide) : vp_in 8 9) rfl dJ1_indexOfChar_4cfef_16 ?_
                  refine lv_iload hx hb dJ1_indexOfChar_4cfef_17 (lv_at hl 1 rfl) ?_
                  refine lv_icmp_ne (tgt := 25) hx hb dJ1_indexOfChar_4cfef_19 (by decide) (fun c10 => ?_) (fun c10 => ?_)
                  · skip
                    refine lv_iinc (v := 9) (lv' := [(5, .int 9), (4, .int v1), (0, .ref (adV 1)), (1, .int x0), (2, .int 0), (3, .int 9)]) hx hb dJ1_indexOfChar_4cfef_25 hl (k := 0) rfl (by decide) (by decide) rfl (fun ls hl => ?_)
                    refine lv_goto (tgt := 7) hx hb dJ1_indexOfChar_4cfef_28 (by decide) ?_
                    refine lv_iload hx hb dJ1_indexOfChar_4cfef_7 (lv_at hl 0 rfl) ?_
                    refine lv_iload_n hx hb dJ1_indexOfChar_4cfef_9 rfl (lv_at hl 5 rfl) ?_
                    refine lv_icmp_ge (tgt := 31) hx hb dJ1_indexOfChar_4cfef_10 (by decide) (fun _ => ?_) (fun c => absurd (by decide) c)
                    refine lv_iconst (v := (-1)) hx hb dJ1_indexOfChar_4cfef_31 (by decide) ?_
                    rw [hQ]
                    obtain ⟨hP9, hD9⟩ := nv_sub2 (wc := []) hP hD [] (by decide) rfl
                    have hK9 := hK.sub (tys' := []) [] rfl
                    exact W.iret (v := (-1)) hx hb hr (fun t ht hW => ⟨⟨(-1), (), rfl, ⟨iv_w (by decide : iv (-1) (-1) (-1)) (by decide) (by decide), trivial⟩, by rw [ht]; exact hP9, va_K.moved hW.alike hK9, hD9⟩, hS.F ht⟩) hS.2.2 dJ1_indexOfChar_4cfef_32
                  · skip
                    subst c10
                    refine lv_iload hx hb dJ1_indexOfChar_4cfef_22 (lv_at hl 0 rfl) ?_
                    rw [hQ]
                    obtain ⟨hP9, hD9⟩ := nv_sub2 (wc := []) hP hD [] (by decide) rfl
                    have hK9 := hK.sub (tys' := []) [] rfl
                    exact W.iret (v := 8) hx hb hr (fun t ht hW => ⟨⟨8, (), rfl, ⟨iv_w (by decide : iv 8 8 8) (by decide) (by decide), trivial⟩, by rw [ht]; exact hP9, va_K.moved hW.alike hK9, hD9⟩, hS.F ht⟩) hS.2.2 dJ1_indexOfChar_4cfef_24
                · skip
                  subst c9
                  refine lv_iload hx hb dJ1_indexOfChar_4cfef_22 (lv_at hl 0 rfl) ?_
                  rw [hQ]
                  obtain ⟨hP9, hD9⟩ := nv_sub2 (wc := []) hP hD [] (by decide) rfl
                  have hK9 := hK.sub (tys' := []) [] rfl
                  exact W.iret (v := 7) hx hb hr (fun t ht hW => ⟨⟨7, (), rfl, ⟨iv_w (by decide : iv 7 7 7) (by decide) (by decide), trivial⟩, by rw [ht]; exact hP9, va_K.moved hW.alike hK9, hD9⟩, hS.F ht⟩) hS.2.2 dJ1_indexOfChar_4cfef_24
              · skip
                subst c8
                refine lv_iload hx hb dJ1_indexOfChar_4cfef_22 (lv_at hl 0 rfl) ?_
                rw [hQ]
                obtain ⟨hP9, hD9⟩ := nv_sub2 (wc := []) hP hD [] (by decide) rfl
                have hK9 := hK.sub (tys' := []) [] rfl
                exact W.iret (v := 6) hx hb hr (fun t ht hW => ⟨⟨6, (), rfl, ⟨iv_w (by decide : iv 6 6 6) (by decide) (by decide), trivial⟩, by rw [ht]; exact hP9, va_K.moved hW.alike hK9, hD9⟩, hS.F ht⟩) hS.2.2 dJ1_indexOfChar_4cfef_24
            · skip
              subst c7
              refine lv_iload hx hb dJ1_indexOfChar_4cfef_22 (lv_at hl 0 rfl) ?_
              rw [hQ]
              obtain ⟨hP9, hD9⟩ := nv_sub2 (wc := []) hP hD [] (by decide) rfl
              have hK9 := hK.sub (tys' := []) [] rfl
              exact W.iret (v := 5) hx hb hr (fun t ht hW => ⟨⟨5, (), rfl, ⟨iv_w (by decide : iv 5 5 5) (by decide) (by decide), trivial⟩, by rw [ht]; exact hP9, va_K.moved hW.alike hK9, hD9⟩, hS.F ht⟩) hS.2.2 dJ1_indexOfChar_4cfef_24
          · skip
            subst c6
            refine lv_iload hx hb dJ1_indexOfChar_4cfef_22 (lv_at hl 0 rfl) ?_
            rw [hQ]
            obtain ⟨hP9, hD9⟩ := nv_sub2 (wc := []) hP hD [] (by decide) rfl
            have hK9 := hK.sub (tys' := []) [] rfl
            exact W.iret (v := 4) hx hb hr (fun t ht hW => ⟨⟨4, (), rfl, ⟨iv_w (by decide : iv 4 4 4) (by decide) (by decide), trivial⟩, by rw [ht]; exact hP9, va_K.moved hW.alike hK9, hD9⟩, hS.F ht⟩) hS.2.2 dJ1_indexOfChar_4cfef_24
        · skip
          subst c5
          refine lv_iload hx hb dJ1_indexOfChar_4cfef_22 (lv_at hl 0 rfl) ?_
          rw [hQ]
          obtain ⟨hP9, hD9⟩ := nv_sub2 (wc := []) hP hD [] (by decide) rfl
          have hK9 := hK.sub (tys' := []) [] rfl
          exact W.iret (v := 3) hx hb hr (fun t ht hW => ⟨⟨3, (), rfl, ⟨iv_w (by decide : iv 3 3 3) (by decide) (by decide), trivial⟩, by rw [ht]; exact hP9, va_K.moved hW.alike hK9, hD9⟩, hS.F ht⟩) hS.2.2 dJ1_indexOfChar_4cfef_24
      · skip
        subst c4
        refine lv_iload hx hb dJ1_indexOfChar_4cfef_22 (lv_at hl 0 rfl) ?_
        rw [hQ]
        obtain ⟨hP9, hD9⟩ := nv_sub2 (wc := []) hP hD [] (by decide) rfl
        have hK9 := hK.sub (tys' := []) [] rfl
        exact W.iret (v := 2) hx hb hr (fun t ht hW => ⟨⟨2, (), rfl, ⟨iv_w (by decide : iv 2 2 2) (by decide) (by decide), trivial⟩, by rw [ht]; exact hP9, va_K.moved hW.alike hK9, hD9⟩, hS.F ht⟩) hS.2.2 dJ1_indexOfChar_4cfef_24
    · skip
      subst c3
      refine lv_iload hx hb dJ1_indexOfChar_4cfef_22 (lv_at hl 0 rfl) ?_
      rw [hQ]
      obtain ⟨hP9, hD9⟩ := nv_sub2 (wc := []) hP hD [] (by decide) rfl
      have hK9 := hK.sub (tys' := []) [] rfl
      exact W.iret (v := 1) hx hb hr (fun t ht hW => ⟨⟨1, (), rfl, ⟨iv_w (by decide : iv 1 1 1) (by decide) (by decide), trivial⟩, by rw [ht]; exact hP9, va_K.moved hW.alike hK9, hD9⟩, hS.F ht⟩) hS.2.2 dJ1_indexOfChar_4cfef_24
  · skip
    subst c2
    refine lv_iload hx hb dJ1_indexOfChar_4cfef_22 (lv_at hl 0 rfl) ?_
    rw [hQ]
    obtain ⟨hP9, hD9⟩ := nv_sub2 (wc := []) hP hD [] (by decide) rfl
    have hK9 := hK.sub (tys' := []) [] rfl
    exact W.iret (v := 0) hx hb hr (fun t ht hW => ⟨⟨0, (), rfl, ⟨iv_w (by decide : iv 0 0 0) (by decide) (by decide), trivial⟩, by rw [ht]; exact hP9, va_K.moved hW.alike hK9, hD9⟩, hS.F ht⟩) hS.2.2 dJ1_indexOfChar_4cfef_24
set_option maxHeartbeats 100000000 in
set_option maxRecDepth 100000 in
theorem cJ1_indexOf_4cfef_1 (l : Launch) (dC : Nat → ClassId) (dI : Nat → Nat → Nat) (adK adV : Nat → Nat) (sz : Nat) (x0 : Int32) : Met l yJ1_indexOf_4cfef (Cond.code yJ1_indexOf_4cfef cJ1_indexOf_4cfef 4 (some .int) :: lw_G) ({ frames := 1, cells := 0, slots := 0, locals := 25 }) (va_Pc [.ref (adV 1), .int x0, .int 0, .int 9] (fun U => U.heap.size = sz ∧ va_P (dC, dI) vwCl [] U.heap ∧ va_K (dC, dI) vwCl [] U ∧ va_D (fun _ => True) [] ∧ ev adK adV (va_A [] sz) U U.heap)) (va_Qi (fun (r : Int32) (u : Unit) => iv r (-1) 8 ∧ True) (fun (u : Unit) (t : State) => va_P (dC, dI) vwCl [] t.heap ∧ va_K (dC, dI) vwCl [] t ∧ va_D (va_A [] sz) []) (va_A [] sz)) 0 0 (va_A [] sz) := by
  refine Met.ofW (cc := cJ1_indexOf_4cfef) (maxL := 4) (ret := (some .int)) (by decide) rfl ?_
  intro p e s m args below meth c s₁ B hml hv
  obtain ⟨rfl, hsz, hP, hK, hD0, hE⟩ := hv
  have hx := B.exec
  have hb := B.bytes
  have hr := B.returns
  have hts0 := atoms_spec (ws := Cond.code yJ1_indexOf_4cfef cJ1_indexOf_4cfef 4 (some .int) :: lw_G) B.pre
  have hG : ∀ w ∈ lw_G, w.before _ s = true := fun w h => hts0 w (List.mem_cons_of_mem _ h)
  have hown : s.vm.findClass RJ1 = some m.cls := findClass_of_methodNamed B.named
  have hlocks := B.notSynchronized
  subst hsz
  have hD := hD0.self (sz := s.heap.size)
  generalize hAe : va_A [] s.heap.size = A at hD hE ⊢
  have hA : ∀ q : Nat, s.heap.size ≤ q → A q := fun q h => by rw [← hAe]; exact Or.inr h
  have hS : va_S A s.heap s.heap [] := va_S.rf
  have hP : va_P (dC, dI) vwCl [] s.heap := hP
  have hl := lv_entry ([.ref (adV 1), .int x0, .int 0, .int 9]) (n := 4) (Nat.le_of_ble_eq_true rfl)
  rw [lg_entry_eq]
  generalize (lg_sl ([.ref (adV 1), .int x0, .int 0, .int 9]) ++ List.replicate (4 - (lg_sl ([.ref (adV 1), .int x0, .int 0, .int 9])).length) Slot.unset).toArray = ls at hl ⊢
  have hl : lv_has ls 4 [(0, .ref (adV 1)), (1, .int x0), (2, .int 0), (3, .int 9)] := hl
  generalize ([.ref (adV 1), .int x0, .int 0, .int 9] : List Value).toArray = ar at hG ⊢
  refine wq (fun Q hQ => ?_)
  refine lv_iload_n hx hb dJ1_indexOf_4cfef_0 rfl (lv_at hl 1 rfl) ?_
  obtain ⟨hPc, hDc, hFc⟩ := nv_sub3 (wc := []) hP hD hS hA [] (by decide) rfl
  have hKc := hK.sub (tys' := []) [] rfl
  refine va_calli (va_runS (As := [.int x0]) (rest := []) ⟨hx, hb, hml, hown, hG⟩ (cJ1_canEncode_9a6ad_1 l dC dI s.heap.size x0) (va_cwS 1 hG (gS wd_492 wd_493 wd_13 wd_494) rfl rfl rfl (by decide +kernel) ⟨Nat.le_of_ble_eq_true rfl, Nat.le_of_ble_eq_true rfl⟩) ⟨fun a U g mk q => by obtain ⟨q0, q1, qP, qK, qD⟩ := q; exact ⟨q0, q1, qP, va_K.moved (u := U) (U := U.calling g mk a) (Vm.Alike.refl U.vm) qK, qD⟩, fun U hU hW => ⟨rfl, by rw [hU], by rw [hU]; exact hPc, va_K.moved hW.alike hKc, hDc.weaken (fun _ _ _ _ => trivial)⟩⟩ rfl rfl hl.1 rfl (lv_room (Nat.le_of_ble_eq_true rfl)) dJ1_indexOf_4cfef_1 ⟨by decide, by decide⟩) hS (fun q _ h => hFc q h) hFc (fun r1 u2 t H1 locs ht hvm hw hB hz1 hk1 hS => ?_)
  have hw : iv r1 0 1 ∧ True := hw
  obtain ⟨ir1, -⟩ := hw
  obtain ⟨hP1, hK1, hD1⟩ := hB
  rw [ht] at hP1
  have hK1 := va_K.moved hvm.symm hK1
  obtain ⟨hP, hD⟩ := nv_join (wf := []) hP hD [] [] rfl rfl (by decide) (by decide) hk1 hFc hP1 hD1 rfl
  have hK := (hK.sub (tys' := []) [] rfl).app hK1
  generalize H1 = H at hP hS ⊢
  have hK : va_K (dC, dI) vwCl [] s := hK
  refine lv_if_ne (tgt := 9) hx hb dJ1_indexOf_4cfef_4 (by decide) (fun c3 => ?_) (fun c3 => ?_)
  · skip
    have j4 : iv r1 1 1 := iv_neLo ir1 (by decide : iv 0 0 0) c3 (by decide)
    refine lv_iload_n hx hb dJ1_indexOf_4cfef_9 rfl (lv_at hl 2 rfl) ?_
    refine lv_iconst (v := 0) hx hb dJ1_indexOf_4cfef_10 (by decide) ?_
    refine va_mmax hx hb (hml.trans hl.1.symm) hown (hG _ wd_495) (hG _ wd_496) (hG _ wd_18) (hG _ wd_497) (Nat.le_of_ble_eq_true rfl) (Nat.le_of_ble_eq_true rfl) (Nat.le_of_ble_eq_true rfl) (Nat.le_of_ble_eq_true rfl) dJ1_indexOf_4cfef_11 ?_
    refine lv_val (y := 0) (by decide +kernel) ?_
    refine lv_istore_n (lv' := [(2, .int 0), (0, .ref (adV 1)), (1, .int x0), (3, .int 9)]) hx hb dJ1_indexOf_4cfef_14 rfl hl (by decide) rfl (fun ls hl => ?_)
    refine lv_iload_n hx hb dJ1_indexOf_4cfef_15 rfl (lv_at hl 3 rfl) ?_
    refine lv_aload_n hx hb dJ1_indexOf_4cfef_16 rfl (lv_at hl 1 rfl) ?_
    refine va_tlen (v := 9) hx hb (hE.1.1 1 (by decide)).2.2.2 hS (by decide) dJ1_indexOf_4cfef_17 ?_
    refine va_mmin hx hb (hml.trans hl.1.symm) hown (hG _ wd_498) (hG _ wd_499) (hG _ wd_18) (hG _ wd_500) (Nat.le_of_ble_eq_true rfl) (Nat.le_of_ble_eq_true rfl) (Nat.le_of_ble_eq_true rfl) (Nat.le_of_ble_eq_true rfl) dJ1_indexOf_4cfef_18 ?_
    refine lv_val (y := 9) (by decide +kernel) ?_
    refine lv_istore_n (lv' := [(3, .int 9), (2, .int 0), (0, .ref (adV 1)), (1, .int x0)]) hx hb dJ1_indexOf_4cfef_21 rfl hl (by decide) rfl (fun ls hl => ?_)
    refine lv_iload_n hx hb dJ1_indexOf_4cfef_22 rfl (lv_at hl 1 rfl) ?_
    refine lv_iload_n hx hb dJ1_indexOf_4cfef_23 rfl (lv_at hl 0 rfl) ?_
    refine lv_icmp_lt (tgt := 29) hx hb dJ1_indexOf_4cfef_24 (by decide) (fun _ => ?_) (fun c => absurd (by decide) c)
    refine lv_aload_n hx hb dJ1_indexOf_4cfef_29 rfl (lv_at hl 2 rfl) ?_
    refine lv_iload_n hx hb dJ1_indexOf_4cfef_30 rfl (lv_at hl 3 rfl) ?_
    refine lv_iload_n hx hb dJ1_indexOf_4cfef_31 rfl (lv_at hl 1 rfl) ?_
    refine lv_iload_n hx hb dJ1_indexOf_4cfef_32 rfl (lv_at hl 0 rfl) ?_
    obtain ⟨hPc, hDc, hFc⟩ := nv_sub3 (wc := []) hP hD hS hA [] (by decide) rfl
    have hKc := hK.sub (tys' := []) [] rfl
    refine va_calli (va_runS (As := [.ref (adV 1), .int x0, .int 0, .int 9]) (rest := []) ⟨hx, hb, hml, hown, hG⟩ (cJ1_indexOfChar_4cfef_1 l dC dI adK adV H.size x0) (va_cwS 4 hG (gS wd_501 wd_502 wd_13 wd_503) rfl rfl rfl (by decide +kernel) ⟨Nat.le_of_ble_eq_true rfl, Nat.le_of_ble_eq_true rfl⟩) ⟨fun a U g mk q => by obtain ⟨q0, q1, qP, qK, qD, qE⟩ := q; exact ⟨q0, q1, qP, va_K.moved (u := U) (U := U.calling g mk a) (Vm.Alike.refl U.vm) qK, qD, qE.same rfl⟩, fun U hU hW => ⟨rfl, by rw [hU], by rw [hU]; exact hPc, va_K.moved hW.alike hKc, hDc.weaken (fun _ _ _ _ => trivial), by rw [hU]; exact ((hE.kept hS.2.1).narrow hFc).warm hW⟩⟩ rfl rfl hl.1 rfl (lv_room (Nat.le_of_ble_eq_true rfl)) dJ1_indexOf_4cfef_33 ⟨by decide, by decide⟩) hS (fun q _ h => hFc q h) hFc (fun r5 u6 t H1 locs ht hvm hw hB hz1 hk1 hS => ?_)
    have hw : iv r5 (-1) 8 ∧ True := hw
    obtain ⟨ir5, -⟩ := hw
    obtain ⟨hP1, hK1, hD1⟩ := hB
    rw [ht] at hP1
    have hK1 := va_K.moved hvm.symm hK1
    obtain ⟨hP, hD⟩ := nv_join (wf := []) hP hD [] [] rfl rfl (by decide) (by decide) hk1 hFc hP1 hD1 rfl
    have hK := (hK.sub (tys' := []) [] rfl).app hK1
    generalize H1 = H at hP hS ⊢
    have hK : va_K (dC, dI) vwCl [] s := hK
    rw [hQ]
    obtain ⟨hP9, hD9⟩ := nv_sub2 (wc := []) hP hD [] (by decide) rfl
    have hK9 := hK.sub (tys' := []) [] rfl
    exact W.iret (v := r5) hx hb hr (fun t ht hW => ⟨⟨r5, (), rfl, ⟨iv_w ir5 (by decide) (by decide), trivial⟩, by rw [ht]; exact hP9, va_K.moved hW.alike hK9, hD9⟩, hS.F ht⟩) hS.2.2 dJ1_indexOf_4cfef_36
  · skip
    subst c3
    refine lv_iconst (v := (-1)) hx hb dJ1_indexOf_4cfef_7 (by decide) ?_
    rw [hQ]
    obtain ⟨hP9, hD9⟩ := nv_sub2 (wc := []) hP hD [] (by decide) rfl
    have hK9 := hK.sub (tys' := []) [] rfl
    exact W.iret (v := (-1)) hx hb hr (fun t ht hW => ⟨⟨(-1), (), rfl, ⟨iv_w (by decide : iv (-1) (-1) (-1)) (by decide) (by decide), trivial⟩, by rw [ht]; exact hP9, va_K.moved hW.alike hK9, hD9⟩, hS.F ht⟩) hS.2.2 dJ1_indexOf_4cfef_8
set_option maxHeartbeats 100000000 in
set_option maxRecDepth 100000 in
theorem cJ0_indexOf_7cf53_1 (l : Launch) (dC : Nat → ClassId) (dI : Nat → Nat → Nat) (adK adV : Nat → Nat) (sz : Nat) (x0 : Int32) : Met l yJ0_indexOf_7cf53 (Cond.code yJ0_indexOf_7cf53 cJ0_indexOf_7cf53 3 (some .int) :: lw_G) ({ frames := 2, cells := 0, slots := 0, locals := 48 }) (va_Pc [.ref (adK 1), .int x0, .int 0] (fun U => U.heap.size = sz ∧ va_P (dC, dI) vwCl [] U.heap ∧ va_K (dC, dI) vwCl [] U ∧ va_D (fun _ => True) [] ∧ ev adK adV (va_A [] sz) U U.heap)) (va_Qi (fun (r : Int32) (u : Unit) => iv r (-1) 8 ∧ True) (fun (u : Unit) (t : State) => va_P (dC, dI) vwCl [] t.heap ∧ va_K (dC, dI) vwCl [] t ∧ va_D (va_A [] sz) []) (va_A [] sz)) 0 0 (va_A [] sz) := by
  refine Met.ofW (cc := cJ0_indexOf_7cf53) (maxL := 3) (ret := (some .int)) (by decide) rfl ?_
  intro p e s m args below meth c s₁ B hml hv
  obtain ⟨rfl, hsz, hP, hK, hD0, hE⟩ := hv
  have hx := B.exec
  have hb := B.bytes
  have hr := B.returns
  have hts0 := atoms_spec (ws := Cond.code yJ0_indexOf_7cf53 cJ0_indexOf_7cf53 3 (some .int) :: lw_G) B.pre
  have hG : ∀ w ∈ lw_G, w.before _ s = true := fun w h => hts0 w (List.mem_cons_of_mem _ h)
  have hown : s.vm.findClass RJ0 = some m.cls := findClass_of_methodNamed B.named
  have hlocks := B.notSynchronized
  subst hsz
  have hD := hD0.self (sz := s.heap.size)
  generalize hAe : va_A [] s.heap.size = A at hD hE ⊢
  have hA : ∀ q : Nat, s.heap.size ≤ q → A q := fun q h => by rw [← hAe]; exact Or.inr h
  have hS : va_S A s.heap s.heap [] := va_S.rf
  have hP : va_P (dC, dI) vwCl [] s.heap := hP
  have hl := lv_entry ([.ref (adK 1), .int x0, .int 0]) (n := 3) (Nat.le_of_ble_eq_true rfl)
  rw [lg_entry_eq]
  generalize (lg_sl ([.ref (adK 1), .int x0, .int 0]) ++ List.replicate (3 - (lg_sl ([.ref (adK 1), .int x0, .int 0])).length) Slot.unset).toArray = ls at hl ⊢
  have hl : lv_has ls 3 [(0, .ref (adK 1)), (1, .int x0), (2, .int 0)] := hl
  generalize ([.ref (adK 1), .int x0, .int 0] : List Value).toArray = ar at hG ⊢
  refine wq (fun Q hQ => ?_)
  refine lv_aload_n hx hb dJ0_indexOf_7cf53_0 rfl (lv_at hl 0 rfl) ?_
  obtain ⟨hPc, hDc, hFc⟩ := nv_sub3 (wc := []) hP hD hS hA [] (by decide) rfl
  have hKc := hK.sub (tys' := []) [] rfl
  refine va_calli (va_runV (As := []) (rest := []) ⟨hx, hb, hml, hown, hG⟩ (cJ0_isLatin1_aae02_2 l dC dI adK adV s.heap.size) (cwV 0 hG (gV wd_249 wd_250 wd_251 wd_12 wd_252) rfl rfl rfl (by decide +kernel) ⟨Nat.le_of_ble_eq_true rfl, Nat.le_of_ble_eq_true rfl⟩) ⟨fun a U g mk q => by obtain ⟨q0, q1, qP, qK, qD, qE⟩ := q; exact ⟨q0, q1, qP, va_K.moved (u := U) (U := U.calling g mk a) (Vm.Alike.refl U.vm) qK, qD, qE.same rfl⟩, vk_recv hE.1 (i := 1) (by decide) hS, fun U hU hW => ⟨rfl, by rw [hU], by rw [hU]; exact hPc, va_K.moved hW.alike hKc, hDc.weaken (fun _ _ _ _ => trivial), by rw [hU]; exact ((hE.kept hS.2.1).narrow hFc).warm hW⟩⟩ rfl rfl hl.1 rfl (lv_room (Nat.le_of_ble_eq_true rfl)) dJ0_indexOf_7cf53_1 ⟨by decide, by decide⟩) hS (fun q _ h => hFc q h) hFc (fun r1 u2 t H1 locs ht hvm hw hB hz1 hk1 hS => ?_)
  have hw : r1 = 1 ∧ True := hw
  obtain ⟨er1, -⟩ := hw
  obtain ⟨hP1, hK1, hD1⟩ := hB
  rw [ht] at hP1
  have hK1 := va_K.moved hvm.symm hK1
  obtain ⟨hP, hD⟩ := nv_join (wf := []) hP hD [] [] rfl rfl (by decide) (by decide) hk1 hFc hP1 hD1 rfl
  have hK := (hK.sub (tys' := []) [] rfl).app hK1
  generalize H1 = H at hP hS ⊢
  have hK : va_K (dC, dI) vwCl [] s := hK
  subst er1
  refine lv_if_eq (tgt := 23) hx hb dJ0_indexOf_7cf53_4 (by decide) (fun c => absurd c (by decide)) (fun _ => ?_)
  refine lv_aload_n hx hb dJ0_indexOf_7cf53_7 rfl (lv_at hl 0 rfl) ?_
  refine vk_getf hx hb (hE.1.1 1 (by decide)).2.2.1 hS hown (hG _ wd_1889) (fun _ h9 => h9) dJ0_indexOf_7cf53_8 ?_
  refine lv_iload_n hx hb dJ0_indexOf_7cf53_11 rfl (lv_at hl 1 rfl) ?_
  refine lv_iload_n hx hb dJ0_indexOf_7cf53_12 rfl (lv_at hl 2 rfl) ?_
  refine lv_aload_n hx hb dJ0_indexOf_7cf53_13 rfl (lv_at hl 0 rfl) ?_
  obtain ⟨hPc, hDc, hFc⟩ := nv_sub3 (wc := []) hP hD hS hA [] (by decide) rfl
  have hKc := hK.sub (tys' := []) [] rfl
  refine va_calli (va_runV (As := []) (rest := [.int 0, .int x0, .ref (adV 1)]) ⟨hx, hb, hml, hown, hG⟩ (cJ0_length_8abf5_2 l dC dI adK adV H.size) (cwV 0 hG (gV wd_488 wd_236 wd_237 wd_12 wd_238) rfl rfl rfl (by decide +kernel) ⟨Nat.le_of_ble_eq_true rfl, Nat.le_of_ble_eq_true rfl⟩) ⟨fun a U g mk q => by obtain ⟨q0, q1, qP, qK, qD, qE⟩ := q; exact ⟨q0, q1, qP, va_K.moved (u := U) (U := U.calling g mk a) (Vm.Alike.refl U.vm) qK, qD, qE.same rfl⟩, vk_recv hE.1 (i := 1) (by decide) hS, fun U hU hW => ⟨rfl, by rw [hU], by rw [hU]; exact hPc, va_K.moved hW.alike hKc, hDc.weaken (fun _ _ _ _ => trivial), by rw [hU]; exact ((hE.kept hS.2.1).narrow hFc).warm hW⟩⟩ rfl rfl hl.1 rfl (lv_room (Nat.le_of_ble_eq_true rfl)) dJ0_indexOf_7cf53_14 ⟨by decide, by decide⟩) hS (fun q _ h => hFc q h) hFc (fun r3 u4 t H1 locs ht hvm hw hB hz1 hk1 hS => ?_)
  have hw : r3 = 9 ∧ True := hw
  obtain ⟨er3, -⟩ := hw
  obtain ⟨hP1, hK1, hD1⟩ := hB
  rw [ht] at hP1
  have hK1 := va_K.moved hvm.symm hK1
  obtain ⟨hP, hD⟩ := nv_join (wf := []) hP hD [] [] rfl rfl (by decide) (by decide) hk1 hFc hP1 hD1 rfl
  have hK := (hK.sub (tys' := []) [] rfl).app hK1
  generalize H1 = H at hP hS ⊢
  have hK : va_K (dC, dI) vwCl [] s := hK
  subst er3
  obtain ⟨hPc, hDc, hFc⟩ := nv_sub3 (wc := []) hP hD hS hA [] (by decide) rfl
  have hKc := hK.sub (tys' := []) [] rfl
  refine va_calli (va_runS (As := [.ref (adV 1), .int x0, .int 0, .int 9]) (rest := []) ⟨hx, hb, hml, hown, hG⟩ (cJ1_indexOf_4cfef_1 l dC dI adK adV H.size x0) (va_cwS 4 hG (gS wd_489 wd_490 wd_13 wd_491) rfl rfl rfl (by decide +kernel) ⟨Nat.le_of_ble_eq_true rfl, Nat.le_of_ble_eq_true rfl⟩) ⟨fun a U g mk q => by obtain ⟨q0, q1, qP, qK, qD, qE⟩ := q; exact ⟨q0, q1, qP, va_K.moved (u := U) (U := U.calling g mk a) (Vm.Alike.refl U.vm) qK, qD, qE.same rfl⟩, fun U hU hW => ⟨rfl, by rw [hU], by rw [hU]; exact hPc, va_K.moved hW.alike hKc, hDc.weaken (fun _ _ _ _ => trivial), by rw [hU]; exact ((hE.kept hS.2.1).narrow hFc).warm hW⟩⟩ rfl rfl hl.1 rfl (lv_room (Nat.le_of_ble_eq_true rfl)) dJ0_indexOf_7cf53_17 ⟨by decide, by decide⟩) hS (fun q _ h => hFc q h) hFc (fun r5 u6 t H1 locs ht hvm hw hB hz1 hk1 hS => ?_)
  have hw : iv r5 (-1) 8 ∧ True := hw
  obtain ⟨ir5, -⟩ := hw
  obtain ⟨hP1, hK1, hD1⟩ := hB
  rw [ht] at hP1
  have hK1 := va_K.moved hvm.symm hK1
  obtain ⟨hP, hD⟩ := nv_join (wf := []) hP hD [] [] rfl rfl (by decide) (by decide) hk1 hFc hP1 hD1 rfl
  have hK := (hK.sub (tys' := []) [] rfl).app hK1
  generalize H1 = H at hP hS ⊢
  have hK : va_K (dC, dI) vwCl [] s := hK
  refine lv_goto (tgt := 36) hx hb dJ0_indexOf_7cf53_20 (by decide) ?_
  rw [hQ]
  obtain ⟨hP9, hD9⟩ := nv_sub2 (wc := []) hP hD [] (by decide) rfl
  have hK9 := hK.sub (tys' := []) [] rfl
  exact W.iret (v := r5) hx hb hr (fun t ht hW => ⟨⟨r5, (), rfl, ⟨iv_w ir5 (by decide) (by decide), trivial⟩, by rw [ht]; exact hP9, va_K.moved hW.alike hK9, hD9⟩, hS.F ht⟩) hS.2.2 dJ0_indexOf_7cf53_36
set_option maxHeartbeats 100000000 in
set_option maxRecDepth 100000 in
theorem cJ0_indexOf_0f7a4_1 (l : Launch) (dC : Nat → ClassId) (dI : Nat → Nat → Nat) (adK adV : Nat → Nat) (sz : Nat) (x0 : Int32) : Met l yJ0_indexOf_0f7a4 (Cond.code yJ0_indexOf_0f7a4 cJ0_indexOf_0f7a4 2 (some .int) :: lw_G) ({ frames := 3, cells := 0, slots := 0, locals := 70 }) (va_Pc [.ref (adK 1), .int x0] (fun U => U.heap.size = sz ∧ va_P (dC, dI) vwCl [] U.heap ∧ va_K (dC, dI) vwCl [] U ∧ va_D (fun _ => True) [] ∧ ev adK adV (va_A [] sz) U U.heap)) (va_Qi (fun (r : Int32) (u : Unit) => iv r (-1) 8 ∧ True) (fun (u : Unit) (t : State) => va_P (dC, dI) vwCl [] t.heap ∧ va_K (dC, dI) vwCl [] t ∧ va_D (va_A [] sz) []) (va_A [] sz)) 0 0 (va_A [] sz) := by
  refine Met.ofW (cc := cJ0_indexOf_0f7a4) (maxL := 2) (ret := (some .int)) (by decide) rfl ?_
  intro p e s m args below meth c s₁ B hml hv
  obtain ⟨rfl, hsz, hP, hK, hD0, hE⟩ := hv
  have hx := B.exec
  have hb := B.bytes
  have hr := B.returns
  have hts0 := atoms_spec (ws := Cond.code yJ0_indexOf_0f7a4 cJ0_indexOf_0f7a4 2 (some .int) :: lw_G) B.pre
  have hG : ∀ w ∈ lw_G, w.before _ s = true := fun w h => hts0 w (List.mem_cons_of_mem _ h)
  have hown : s.vm.findClass RJ0 = some m.cls := findClass_of_methodNamed B.named
  have hlocks := B.notSynchronized
  subst hsz
  have hD := hD0.self (sz := s.heap.size)
  generalize hAe : va_A [] s.heap.size = A at hD hE ⊢
  have hA : ∀ q : Nat, s.heap.size ≤ q → A q := fun q h => by rw [← hAe]; exact Or.inr h
  have hS : va_S A s.heap s.heap [] := va_S.rf
  have hP : va_P (dC, dI) vwCl [] s.heap := hP
  have hl := lv_entry ([.ref (adK 1), .int x0]) (n := 2) (Nat.le_of_ble_eq_true rfl)
  rw [lg_entry_eq]
  generalize (lg_sl ([.ref (adK 1), .int x0]) ++ List.replicate (2 - (lg_sl ([.ref (adK 1), .int x0])).length) Slot.unset).toArray = ls at hl ⊢
  have hl : lv_has ls 2 [(0, .ref (adK 1)), (1, .int x0)] := hl
  generalize ([.ref (adK 1), .int x0] : List Value).toArray = ar at hG ⊢
  refine wq (fun Q hQ => ?_)
  refine lv_aload_n hx hb dJ0_indexOf_0f7a4_0 rfl (lv_at hl 0 rfl) ?_
  refine lv_iload_n hx hb dJ0_indexOf_0f7a4_1 rfl (lv_at hl 1 rfl) ?_
  refine lv_iconst (v := 0) hx hb dJ0_indexOf_0f7a4_2 (by decide) ?_
  obtain ⟨hPc, hDc, hFc⟩ := nv_sub3 (wc := []) hP hD hS hA [] (by decide) rfl
  have hKc := hK.sub (tys' := []) [] rfl
  refine va_calli (va_runV (As := [.int x0, .int 0]) (rest := []) ⟨hx, hb, hml, hown, hG⟩ (cJ0_indexOf_7cf53_1 l dC dI adK adV s.heap.size x0) (cwV 2 hG (gV wd_484 wd_485 wd_486 wd_12 wd_487) rfl rfl rfl (by decide +kernel) ⟨Nat.le_of_ble_eq_true rfl, Nat.le_of_ble_eq_true rfl⟩) ⟨fun a U g mk q => by obtain ⟨q0, q1, qP, qK, qD, qE⟩ := q; exact ⟨q0, q1, qP, va_K.moved (u := U) (U := U.calling g mk a) (Vm.Alike.refl U.vm) qK, qD, qE.same rfl⟩, vk_recv hE.1 (i := 1) (by decide) hS, fun U hU hW => ⟨rfl, by rw [hU], by rw [hU]; exact hPc, va_K.moved hW.alike hKc, hDc.weaken (fun _ _ _ _ => trivial), by rw [hU]; exact ((hE.kept hS.2.1).narrow hFc).warm hW⟩⟩ rfl rfl hl.1 rfl (lv_room (Nat.le_of_ble_eq_true rfl)) dJ0_indexOf_0f7a4_3 ⟨by decide, by decide⟩) hS (fun q _ h => hFc q h) hFc (fun r1 u2 t H1 locs ht hvm hw hB hz1 hk1 hS => ?_)
  have hw : iv r1 (-1) 8 ∧ True := hw
  obtain ⟨ir1, -⟩ := hw
  obtain ⟨hP1, hK1, hD1⟩ := hB
  rw [ht] at hP1
  have hK1 := va_K.moved hvm.symm hK1
  obtain ⟨hP, hD⟩ := nv_join (wf := []) hP hD [] [] rfl rfl (by decide) (by decide) hk1 hFc hP1 hD1 rfl
  have hK := (hK.sub (tys' := []) [] rfl).app hK1
  generalize H1 = H at hP hS ⊢
  have hK : va_K (dC, dI) vwCl [] s := hK
  rw [hQ]
  obtain ⟨hP9, hD9⟩ := nv_sub2 (wc := []) hP hD [] (by decide) rfl
  have hK9 := hK.sub (tys' := []) [] rfl
  exact W.iret (v := r1) hx hb hr (fun t ht hW => ⟨⟨r1, (), rfl, ⟨iv_w ir1 (by decide) (by decide), trivial⟩, by rw [ht]; exact hP9, va_K.moved hW.alike hK9, hD9⟩, hS.F ht⟩) hS.2.2 dJ0_indexOf_0f7a4_6
set_option maxHeartbeats 100000000 in
set_option maxRecDepth 100000 in
theorem cX10_digit_1 (l : Launch) (dC : Nat → ClassId) (dI : Nat → Nat → Nat) (sz : Nat) (x0 x1 : Int32) : Met l yX10_digit (Cond.code yX10_digit cX10_digit 2 (some .int) :: lw_G) ({ frames := 0, cells := 0, slots := 0, locals := 0 }) (va_Pc [.int x0, .int x1] (fun U => U.heap.size = sz ∧ va_P (dC, dI) vwCl [] U.heap ∧ va_K (dC, dI) vwCl [] U ∧ va_D (fun _ => True) [])) (va_Qi (fun (r : Int32) (u : Unit) => iv r (-1) 15 ∧ True) (fun (u : Unit) (t : State) => va_P (dC, dI) vwCl [] t.heap ∧ va_K (dC, dI) vwCl [] t ∧ va_D (va_A [] sz) []) (va_A [] sz)) 0 0 (va_A [] sz) := by
  refine Met.ofW (cc := cX10_digit) (maxL := 2) (ret := (some .int)) (by decide) rfl ?_
  intro p e s m args below meth c s₁ B hml hv
  obtain ⟨rfl, hsz, hP, hK, hD0⟩ := hv
  have hx := B.exec
  have hb := B.bytes
  have hr := B.returns
  have hts0 := atoms_spec (ws := Cond.code yX10_digit cX10_digit 2 (some .int) :: lw_G) B.pre
  have hG : ∀ w ∈ lw_G, w.before _ s = true := fun w h => hts0 w (List.mem_cons_of_mem _ h)
  have hown : s.vm.findClass RX10 = some m.cls := findClass_of_methodNamed B.named
  have hlocks := B.notSynchronized
  subst hsz
  have hD := hD0.self (sz := s.heap.size)
  generalize hAe : va_A [] s.heap.size = A at hD ⊢
  have hA : ∀ q : Nat, s.heap.size ≤ q → A q := fun q h => by rw [← hAe]; exact Or.inr h
  have hS : va_S A s.heap s.heap [] := va_S.rf
  have hP : va_P (dC, dI) vwCl [] s.heap := hP
  have hl := lv_entry ([.int x0, .int x1]) (n := 2) (Nat.le_of_ble_eq_true rfl)
  rw [lg_entry_eq]
  generalize (lg_sl ([.int x0, .int x1]) ++ List.replicate (2 - (lg_sl ([.int x0, .int x1])).length) Slot.unset).toArray = ls at hl ⊢
  have hl : lv_has ls 2 [(0, .int x0), (1, .int x1)] := hl
  generalize ([.int x0, .int x1] : List Value).toArray = ar at hG ⊢
  refine wq (fun Q hQ => ?_)
  refine lv_iload_n hx hb dX10_digit_0 rfl (lv_at hl 0 rfl) ?_
  refine lv_bipush (v := 48) hx hb dX10_digit_1 (by decide) ?_
  refine lv_icmp_lt (tgt := 17) hx hb dX10_digit_3 (by decide) (fun c1 => ?_) (fun c1 => ?_)
  · skip
    have j2 : iv x0 (-2147483648) 47 := iv_ltL (iv_any x0) (by decide : iv 48 48 48) c1 (by decide)
    refine lv_iload_n hx hb dX10_digit_17 rfl (lv_at hl 1 rfl) ?_
    refine lv_bipush (v := 16) hx hb dX10_digit_18 (by decide) ?_
    refine jcut (a := ∀ (H : Heap) (locs : List Loc) (hK : va_K (dC, dI) vwCl [] s) (hP : va_P (dC, dI) vwCl [] H) (hD : va_D A []) (hS : va_S A s.heap H locs) (ls : Array Slot) (hl : lv_has ls 2 []), W p l e (headSpec (Cond.code yX10_digit cX10_digit 2 (some .int) :: lw_G) ({ frames := 0, cells := 0, slots := 0, locals := 0 })).room s m ar below meth c H locs 0 0 Q (F0 m 46 ls [.int (-1)])) ?_ (fun j4 => ?_)
    · skip
      intro H locs hK hP hD hS ls hl
      rw [hQ]
      obtain ⟨hP9, hD9⟩ := nv_sub2 (wc := []) hP hD [] (by decide) rfl
      have hK9 := hK.sub (tys' := []) [] rfl
      exact W.iret (v := (-1)) hx hb hr (fun t ht hW => ⟨⟨(-1), (), rfl, ⟨iv_w (by decide : iv (-1) (-1) (-1)) (by decide) (by decide), trivial⟩, by rw [ht]; exact hP9, va_K.moved hW.alike hK9, hD9⟩, hS.F ht⟩) hS.2.2 dX10_digit_46
    refine lv_icmp_ne (tgt := 45) hx hb dX10_digit_20 (by decide) (fun c3 => ?_) (fun c3 => ?_)
    · skip
      refine lv_iconst (v := (-1)) hx hb dX10_digit_45 (by decide) ?_
      exact j4 _ _ hK hP hD hS ls (lv_sub hl [] rfl)
    · skip
      subst c3
      refine lv_iload_n hx hb dX10_digit_23 rfl (lv_at hl 0 rfl) ?_
      refine lv_bipush (v := 97) hx hb dX10_digit_24 (by decide) ?_
      refine lv_icmp_lt (tgt := 45) hx hb dX10_digit_26 (by decide) (fun _ => ?_) (fun c => absurd (iv_lt j2 (by decide : iv 97 97 97) (by decide)) c)
      refine lv_iconst (v := (-1)) hx hb dX10_digit_45 (by decide) ?_
      exact j4 _ _ hK hP hD hS ls (lv_sub hl [] rfl)
  · skip
    have j5 : iv x0 48 2147483647 := iv_nltL (iv_any x0) (by decide : iv 48 48 48) c1 (by decide)
    refine lv_iload_n hx hb dX10_digit_6 rfl (lv_at hl 0 rfl) ?_
    refine lv_bipush (v := 57) hx hb dX10_digit_7 (by decide) ?_
    refine lv_icmp_gt (tgt := 17) hx hb dX10_digit_9 (by decide) (fun c6 => ?_) (fun c6 => ?_)
    · skip
      have j7 : iv x0 58 2147483647 := iv_ltR (by decide : iv 57 57 57) j5 c6 (by decide)
      refine lv_iload_n hx hb dX10_digit_17 rfl (lv_at hl 1 rfl) ?_
      refine lv_bipush (v := 16) hx hb dX10_digit_18 (by decide) ?_
      refine jcut (a := ∀ (b17 : Int32) (ib17 : iv b17 (-1) 15) (H : Heap) (locs : List Loc) (hK : va_K (dC, dI) vwCl [] s) (hP : va_P (dC, dI) vwCl [] H) (hD : va_D A []) (hS : va_S A s.heap H locs) (ls : Array Slot) (hl : lv_has ls 2 []), W p l e (headSpec (Cond.code yX10_digit cX10_digit 2 (some .int) :: lw_G) ({ frames := 0, cells := 0, slots := 0, locals := 0 })).room s m ar below meth c H locs 0 0 Q (F0 m 46 ls [.int b17])) ?_ (fun j18 => ?_)
      · skip
        intro b17 ib17 H locs hK hP hD hS ls hl
        rw [hQ]
        obtain ⟨hP9, hD9⟩ := nv_sub2 (wc := []) hP hD [] (by decide) rfl
        have hK9 := hK.sub (tys' := []) [] rfl
        exact W.iret (v := b17) hx hb hr (fun t ht hW => ⟨⟨b17, (), rfl, ⟨iv_w ib17 (by decide) (by decide), trivial⟩, by rw [ht]; exact hP9, va_K.moved hW.alike hK9, hD9⟩, hS.F ht⟩) hS.2.2 dX10_digit_46
      refine lv_icmp_ne (tgt := 45) hx hb dX10_digit_20 (by decide) (fun c8 => ?_) (fun c8 => ?_)
      · skip
        refine lv_iconst (v := (-1)) hx hb dX10_digit_45 (by decide) ?_
        exact j18 (-1) (iv_w (by decide : iv (-1) (-1) (-1)) (by decide) (by decide)) _ _ hK hP hD hS ls (lv_sub hl [] rfl)
      · skip
        subst c8
        refine lv_iload_n hx hb dX10_digit_23 rfl (lv_at hl 0 rfl) ?_
        refine lv_bipush (v := 97) hx hb dX10_digit_24 (by decide) ?_
        refine lv_icmp_lt (tgt := 45) hx hb dX10_digit_26 (by decide) (fun c19 => ?_) (fun c19 => ?_)
        · skip
          have j20 : iv x0 58 96 := iv_ltL j7 (by decide : iv 97 97 97) c19 (by decide)
          refine lv_iconst (v := (-1)) hx hb dX10_digit_45 (by decide) ?_
          exact j18 (-1) (iv_w (by decide : iv (-1) (-1) (-1)) (by decide) (by decide)) _ _ hK hP hD hS ls (lv_sub hl [] rfl)
        · skip
          have j21 : iv x0 97 2147483647 := iv_nltL j7 (by decide : iv 97 97 97) c19 (by decide)
          refine lv_iload_n hx hb dX10_digit_29 rfl (lv_at hl 0 rfl) ?_
          refine lv_bipush (v := 102) hx hb dX10_digit_30 (by decide) ?_
          refine lv_icmp_gt (tgt := 45) hx hb dX10_digit_32 (by decide) (fun c22 => ?_) (fun c22 => ?_)
          · skip
            have j23 : iv x0 103 2147483647 := iv_ltR (by decide : iv 102 102 102) j21 c22 (by decide)
            refine lv_iconst (v := (-1)) hx hb dX10_digit_45 (by decide) ?_
            exact j18 (-1) (iv_w (by decide : iv (-1) (-1) (-1)) (by decide) (by decide)) _ _ hK hP hD hS ls (lv_sub hl [] rfl)
          · skip
            have j24 : iv x0 97 102 := iv_nltR (by decide : iv 102 102 102) j21 c22 (by decide)
            refine lv_iload_n hx hb dX10_digit_35 rfl (lv_at hl 0 rfl) ?_
            refine lv_bipush (v := 97) hx hb dX10_digit_36 (by decide) ?_
            refine lv_isub hx hb dX10_digit_38 ?_
            refine lv_topi (fun v25 ev25 => ?_)
            have iv25 : iv v25 0 5 := iv_eq ev25 (iv_sub j24 (by decide : iv 97 97 97) (by decide) (by decide))
            have tv25 : v25.toInt = x0.toInt + (-97) := iv_subT ev25 j24 (by decide) (by decide) (by decide)
            refine lv_bipush (v := 10) hx hb dX10_digit_39 (by decide) ?_
            refine lv_iadd hx hb dX10_digit_41 ?_
            refine lv_topi (fun v26 ev26 => ?_)
            have iv26 : iv v26 10 15 := iv_eq ev26 (iv_add iv25 (by decide : iv 10 10 10) (by decide) (by decide))
            have tv26 : v26.toInt = v25.toInt + 10 := iv_addT ev26 iv25 (by decide) (by decide) (by decide)
            refine lv_goto (tgt := 46) hx hb dX10_digit_42 (by decide) ?_
            exact j18 v26 (iv_w iv26 (by decide) (by decide)) _ _ hK hP hD hS ls (lv_sub hl [] rfl)
    · skip
      have j27 : iv x0 48 57 := iv_nltR (by decide : iv 57 57 57) j5 c6 (by decide)
      refine lv_iload_n hx hb dX10_digit_12 rfl (lv_at hl 0 rfl) ?_
      refine lv_bipush (v := 48) hx hb dX10_digit_13 (by decide) ?_
      refine lv_isub hx hb dX10_digit_15 ?_
      refine lv_topi (fun v28 ev28 => ?_)
      have iv28 : iv v28 0 9 := iv_eq ev28 (iv_sub j27 (by decide : iv 48 48 48) (by decide) (by decide))
      have tv28 : v28.toInt = x0.toInt + (-48) := iv_subT ev28 j27 (by decide) (by decide) (by decide)
      rw [hQ]
      obtain ⟨hP9, hD9⟩ := nv_sub2 (wc := []) hP hD [] (by decide) rfl
      have hK9 := hK.sub (tys' := []) [] rfl
      exact W.iret (v := v28) hx hb hr (fun t ht hW => ⟨⟨v28, (), rfl, ⟨iv_w iv28 (by decide) (by decide), trivial⟩, by rw [ht]; exact hP9, va_K.moved hW.alike hK9, hD9⟩, hS.F ht⟩) hS.2.2 dX10_digit_16
set_option maxHeartbeats 100000000 in
set_option maxRecDepth 100000 in
theorem cX10_scanNumber_1 (l : Launch) (dC : Nat → ClassId) (dI : Nat → Nat → Nat) (h0 h1 h2 h3 h4 h5 h6 : Nat) (y0 : ClassId) (sz : Nat) (x0 x1 x2 x3 x4 x5 : Int32) (z0 : Int64) (f0 : Nat → Int32) (ix1 : iv x1 0 2600) (ix2 : iv x2 0 2501) (ix3 : iv x3 0 2500) : Met l yX10_scanNumber (Cond.code yX10_scanNumber cX10_scanNumber 7 (some .int) :: lw_G) ({ frames := 1, cells := 0, slots := 0, locals := 21 }) (va_Pc [.ref h0, .int x0] (fun U => U.heap.size = sz ∧ va_P (dC, dI) vwCl [(h0, .inr (10, [.ref h1, .ref h2, .ref h3, .ref h4, .ref h5, .ref h6, .int x1, .int x2, .int x3, .int x4, .int x5, .long z0])), (h6, .inl (y0, 2600, .inl f0))] U.heap ∧ va_K (dC, dI) vwCl [(y0, .int)] U ∧ va_D (fun _ => True) [(h0, .inr (10, [.ref h1, .ref h2, .ref h3, .ref h4, .ref h5, .ref h6, .int x1, .int x2, .int x3, .int x4, .int x5, .long z0])), (h6, .inl (y0, 2600, .inl f0))])) (va_Qi (fun (r : Int32) (u : Int32 × Int32) => iv u.1 1 5 ∧ True) (fun (u : Int32 × Int32) (t : State) => va_P (dC, dI) vwCl [(h0, .inr (10, [.ref h1, .ref h2, .ref h3, .ref h4, .ref h5, .ref h6, .int x1, .int x2, .int x3, .int u.1, .int u.2, .long z0])), (h6, .inl (y0, 2600, .inl f0))] t.heap ∧ va_K (dC, dI) vwCl [(y0, .int)] t ∧ va_D (va_A [(h0, .inr (10, [.ref h1, .ref h2, .ref h3, .ref h4, .ref h5, .ref h6, .int x1, .int x2, .int x3, .int x4, .int x5, .long z0])), (h6, .inl (y0, 2600, .inl f0))] sz) [(h0, .inr (10, [.ref h1, .ref h2, .ref h3, .ref h4, .ref h5, .ref h6, .int x1, .int x2, .int x3, .int u.1, .int u.2, .long z0])), (h6, .inl (y0, 2600, .inl f0))]) (va_A [(h0, .inr (10, [.ref h1, .ref h2, .ref h3, .ref h4, .ref h5, .ref h6, .int x1, .int x2, .int x3, .int x4, .int x5, .long z0])), (h6, .inl (y0, 2600, .inl f0))] sz)) 0 0 (va_A [(h0, .inr (10, [.ref h1, .ref h2, .ref h3, .ref h4, .ref h5, .ref h6, .int x1, .int x2, .int x3, .int x4, .int x5, .long z0])), (h6, .inl (y0, 2600, .inl f0))] sz) := by
  refine Met.ofW (cc := cX10_scanNumber) (maxL := 7) (ret := (some .int)) (by decide) rfl ?_
  intro p e s m args below meth c s₁ B hml hv
  obtain ⟨rfl, hsz, hP, hK, hD0⟩ := hv
  have hx := B.exec
  have hb := B.bytes
  have hr := B.returns
  have hts0 := atoms_spec (ws := Cond.code yX10_scanNumber cX10_scanNumber 7 (some .int) :: lw_G) B.pre
  have hG : ∀ w ∈ lw_G, w.before _ s = true := fun w h => hts0 w (List.mem_cons_of_mem _ h)
  have hown : s.vm.findClass RX10 = some m.cls := findClass_of_methodNamed B.named
  have hlocks := B.notSynchronized
  subst hsz
  have hD := hD0.self (sz := s.heap.size)
  generalize hAe : va_A [(h0, .inr (10, [.ref h1, .ref h2, .ref h3, .ref h4, .ref h5, .ref h6, .int x1, .int x2, .int x3, .int x4, .int x5, .long z0])), (h6, .inl (y0, 2600, .inl f0))] s.heap.size = A at hD ⊢
  have hA : ∀ q : Nat, s.heap.size ≤ q → A q := fun q h => by rw [← hAe]; exact Or.inr h
  have hS : va_S A s.heap s.heap [] := va_S.rf
  have hP : va_P (dC, dI) vwCl [(h0, .inr (10, [.ref h1, .ref h2, .ref h3, .ref h4, .ref h5, .ref h6, .int x1, .int x2, .int x3, .int x4, .int x5, .long z0])), (h6, .inl (y0, 2600, .inl f0))] s.heap := hP
  have hl := lv_entry ([.ref h0, .int x0]) (n := 7) (Nat.le_of_ble_eq_true rfl)
  rw [lg_entry_eq]
  generalize (lg_sl ([.ref h0, .int x0]) ++ List.replicate (7 - (lg_sl ([.ref h0, .int x0])).length) Slot.unset).toArray = ls at hl ⊢
  have hl : lv_has ls 7 [(0, .ref h0), (1, .int x0)] := hl
  generalize ([.ref h0, .int x0] : List Value).toArray = ar at hG ⊢
  refine wq (fun Q hQ => ?_)
  refine lv_aload_n hx hb dX10_scanNumber_0 rfl (lv_at hl 0 rfl) ?_
  refine lv_iload_n hx hb dX10_scanNumber_1 rfl (lv_at hl 1 rfl) ?_
  obtain ⟨hPc, hDc, hFc⟩ := nv_sub3 (wc := [(h0, .inr (10, [.ref h1, .ref h2, .ref h3, .ref h4, .ref h5, .ref h6, .int x1, .int x2, .int x3, .int x4, .int x5, .long z0])), (h6, .inl (y0, 2600, .inl f0))]) hP hD hS hA [0, 1] (by decide) rfl
  have hKc := hK.sub (tys' := [(y0, .int)]) [0] rfl
  refine va_calli (va_runV (As := [.int x0]) (rest := []) ⟨hx, hb, hml, hown, hG⟩ (cX10_sign_1 l dC dI h0 h1 h2 h3 h4 h5 h6 y0 s.heap.size x0 x1 x2 x3 x4 x5 z0 f0 ix1 ix2 ix3) (cwV 1 hG (gV wd_449 wd_451 wp_3 wd_11 wd_452) rfl rfl rfl (by decide +kernel) ⟨Nat.le_of_ble_eq_true rfl, Nat.le_of_ble_eq_true rfl⟩) ⟨fun a U g mk q => by obtain ⟨q0, q1, qP, qK, qD⟩ := q; exact ⟨q0, q1, qP, va_K.moved (u := U) (U := U.calling g mk a) (Vm.Alike.refl U.vm) qK, qD⟩, va_recv hKc hPc (ci := 10) (q0 := 0) rfl rfl, fun U hU hW => ⟨rfl, by rw [hU], by rw [hU]; exact hPc, va_K.moved hW.alike hKc, hDc.weaken (fun _ _ _ _ => trivial)⟩⟩ rfl rfl hl.1 rfl (lv_room (Nat.le_of_ble_eq_true rfl)) dX10_scanNumber_2 ⟨by decide, by decide⟩) hS (fun q _ h => hFc q h) hFc (fun r1 u2 t H1 locs ht hvm hw hB hz1 hk1 hS => ?_)
  obtain ⟨hP1, hK1, hD1⟩ := hB
  rw [ht] at hP1
  have hK1 := va_K.moved hvm.symm hK1
  obtain ⟨hP, hD⟩ := nv_join (wf := [(h0, .inr (10, [.ref h1, .ref h2, .ref h3, .ref h4, .ref h5, .ref h6, .int x1, .int x2, .int x3, .int x4, .int x5, .long z0])), (h6, .inl (y0, 2600, .inl f0))]) hP hD [0, 1] [] rfl rfl (by decide) (by decide) hk1 hFc hP1 hD1 rfl
  have hK := (hK.sub (tys' := []) [] rfl).app hK1
  generalize H1 = H at hP hS ⊢
  have hK : va_K (dC, dI) vwCl [(y0, .int)] s := hK
  refine lv_bipush (v := 48) hx hb dX10_scanNumber_5 (by decide) ?_
  refine jcut (a := ∀ (b8 : Int32) (ib8 : iv b8 0 1) (H : Heap) (locs : List Loc) (hK : va_K (dC, dI) vwCl [(y0, .int)] s) (hP : va_P (dC, dI) vwCl [(h0, .inr (10, [.ref h1, .ref h2, .ref h3, .ref h4, .ref h5, .ref h6, .int x1, .int x2, .int x3, .int x4, .int x5, .long z0])), (h6, .inl (y0, 2600, .inl f0))] H) (hD : va_D A [(h0, .inr (10, [.ref h1, .ref h2, .ref h3, .ref h4, .ref h5, .ref h6, .int x1, .int x2, .int x3, .int x4, .int x5, .long z0])), (h6, .inl (y0, 2600, .inl f0))]) (hS : va_S A s.heap H locs) (ls : Array Slot) (hl : lv_has ls 7 [(0, .ref h0), (1, .int x0)]), W p l e (headSpec (Cond.code yX10_scanNumber cX10_scanNumber 7 (some .int) :: lw_G) ({ frames := 1, cells := 0, slots := 0, locals := 21 })).room s m ar below meth c H locs 0 0 Q (F0 m 27 ls [.int b8])) ?_ (fun j9 => ?_)
  · skip
    intro b8 ib8 H locs hK hP hD hS ls hl
    refine lv_istore_n (lv' := [(2, .int b8), (0, .ref h0), (1, .int x0)]) hx hb dX10_scanNumber_27 rfl hl (by decide) rfl (fun ls hl => ?_)
    refine lv_iload_n hx hb dX10_scanNumber_28 rfl (lv_at hl 0 rfl) ?_
    refine jcut (a := ∀ (b12 : Int32) (b13 : Int32) (ib12 : iv b12 10 16) (ib13 : iv b13 0 1) (H : Heap) (locs : List Loc) (hK : va_K (dC, dI) vwCl [(y0, .int)] s) (hP : va_P (dC, dI) vwCl [(h0, .inr (10, [.ref h1, .ref h2, .ref h3, .ref h4, .ref h5, .ref h6, .int x1, .int x2, .int x3, .int x4, .int x5, .long z0])), (h6, .inl (y0, 2600, .inl f0))] H) (hD : va_D A [(h0, .inr (10, [.ref h1, .ref h2, .ref h3, .ref h4, .ref h5, .ref h6, .int x1, .int x2, .int x3, .int x4, .int x5, .long z0])), (h6, .inl (y0, 2600, .inl f0))]) (hS : va_S A s.heap H locs) (ls : Array Slot) (hl : lv_has ls 7 [(2, .int b13), (0, .ref h0), (1, .int x0)]), W p l e (headSpec (Cond.code yX10_scanNumber cX10_scanNumber 7 (some .int) :: lw_G) ({ frames := 1, cells := 0, slots := 0, locals := 21 })).room s m ar below meth c H locs 0 0 Q (F0 m 39 ls [.int b12])) ?_ (fun j14 => ?_)
    · skip
      intro b12 b13 ib12 ib13 H locs hK hP hD hS ls hl
      refine lv_istore_n (lv' := [(3, .int b12), (2, .int b13), (0, .ref h0), (1, .int x0)]) hx hb dX10_scanNumber_39 rfl hl (by decide) rfl (fun ls hl => ?_)
      refine lv_iload_n hx hb dX10_scanNumber_40 rfl (lv_at hl 1 rfl) ?_
      refine jcut (a := ∀ (b17 : Int32) (b18 : Int32) (ib17 : iv b17 4 5) (ib18 : iv b18 0 1) (H : Heap) (locs : List Loc) (hK : va_K (dC, dI) vwCl [(y0, .int)] s) (hP : va_P (dC, dI) vwCl [(h0, .inr (10, [.ref h1, .ref h2, .ref h3, .ref h4, .ref h5, .ref h6, .int x1, .int x2, .int x3, .int x4, .int x5, .long z0])), (h6, .inl (y0, 2600, .inl f0))] H) (hD : va_D A [(h0, .inr (10, [.ref h1, .ref h2, .ref h3, .ref h4, .ref h5, .ref h6, .int x1, .int x2, .int x3, .int x4, .int x5, .long z0])), (h6, .inl (y0, 2600, .inl f0))]) (hS : va_S A s.heap H locs) (ls : Array Slot) (hl : lv_has ls 7 [(3, .int b12), (2, .int b18), (0, .ref h0), (1, .int x0)]), W p l e (headSpec (Cond.code yX10_scanNumber cX10_scanNumber 7 (some .int) :: lw_G) ({ frames := 1, cells := 0, slots := 0, locals := 21 })).room s m ar below meth c H locs 0 0 Q (F0 m 49 ls [.int b17])) ?_ (fun j19 => ?_)
      · skip
        intro b17 b18 ib17 ib18 H locs hK hP hD hS ls hl
        refine lv_istore (lv' := [(4, .int b17), (3, .int b12), (2, .int b18), (0, .ref h0), (1, .int x0)]) hx hb dX10_scanNumber_49 hl (by decide) rfl (fun ls hl => ?_)
        refine lv_iload_n hx hb dX10_scanNumber_51 rfl (lv_at hl 2 rfl) ?_
        refine jcut (a := ∀ (b23 : Int32) (H : Heap) (locs : List Loc) (hK : va_K (dC, dI) vwCl [(y0, .int)] s) (hP : va_P (dC, dI) vwCl [(h0, .inr (10, [.ref h1, .ref h2, .ref h3, .ref h4, .ref h5, .ref h6, .int x1, .int x2, .int x3, .int x4, .int x5, .long z0])), (h6, .inl (y0, 2600, .inl f0))] H) (hD : va_D A [(h0, .inr (10, [.ref h1, .ref h2, .ref h3, .ref h4, .ref h5, .ref h6, .int x1, .int x2, .int x3, .int x4, .int x5, .long z0])), (h6, .inl (y0, 2600, .inl f0))]) (hS : va_S A s.heap H locs) (ls : Array Slot) (hl : lv_has ls 7 [(4, .int b17), (3, .int b12), (0, .ref h0)]), W p l e (headSpec (Cond.code yX10_scanNumber cX10_scanNumber 7 (some .int) :: lw_G) ({ frames := 1, cells := 0, slots := 0, locals := 21 })).room s m ar below meth c H locs 0 0 Q (F0 m 62 ls [.int b23])) ?_ (fun j24 => ?_)
        · skip
          intro b23 H locs hK hP hD hS ls hl
          refine lv_istore (lv' := [(5, .int b23), (4, .int b17), (3, .int b12), (0, .ref h0)]) hx hb dX10_scanNumber_62 hl (by decide) rfl (fun ls hl => ?_)
          refine lv_iload hx hb dX10_scanNumber_64 (lv_at hl 0 rfl) ?_
          refine lv_istore (lv' := [(6, .int b23), (5, .int b23), (4, .int b17), (3, .int b12), (0, .ref h0)]) hx hb dX10_scanNumber_66 hl (by decide) rfl (fun ls hl => ?_)
          refine jcut (a := ∀ (n : Nat) (b43 : Int32) (b44 : Int32) (hm : (2600 - b43.toInt).toNat < n) (H : Heap) (locs : List Loc) (hK : va_K (dC, dI) vwCl [(y0, .int)] s) (hP : va_P (dC, dI) vwCl [(h0, .inr (10, [.ref h1, .ref h2, .ref h3, .ref h4, .ref h5, .ref h6, .int x1, .int x2, .int x3, .int x4, .int b44, .long z0])), (h6, .inl (y0, 2600, .inl f0))] H) (hD : va_D A [(h0, .inr (10, [.ref h1, .ref h2, .ref h3, .ref h4, .ref h5, .ref h6, .int x1, .int x2, .int x3, .int x4, .int b44, .long z0])), (h6, .inl (y0, 2600, .inl f0))]) (hS : va_S A s.heap H locs) (ls : Array Slot) (hl : lv_has ls 7 [(6, .int b43), (5, .int b23), (4, .int b17), (3, .int b12), (0, .ref h0)]), W p l e (headSpec (Cond.code yX10_scanNumber cX10_scanNumber 7 (some .int) :: lw_G) ({ frames := 1, cells := 0, slots := 0, locals := 21 })).room s m ar below meth c H locs 0 0 Q (F0 m 68 ls [])) ?_ (fun lp80 => ?_)
          · skip
            intro n
            induction n with
            | zero => intro b43 b44 hm H locs hK hP hD hS ls hl; exact absurd hm (Nat.not_lt_zero _)
            | succ n ih =>
              intro b43 b44 hm H locs hK hP hD hS ls hl
              refine lv_iload hx hb dX10_scanNumber_68 (lv_at hl 0 rfl) ?_
              refine lv_aload_n hx hb dX10_scanNumber_70 rfl (lv_at hl 4 rfl) ?_
              refine va_get (D := (dC, dI)) (ci := 10) (v := .int x1) (C := RX10) (T := TX10) (N := 12) hx hb hG inGX10 hown hK hP 0 rfl rfl 6 (by decide) (hG _ wd_289) (fun _ h9 => h9) rfl dX10_scanNumber_71 ?_
              refine jcut (a := ∀ (H : Heap) (locs : List Loc) (hK : va_K (dC, dI) vwCl [(y0, .int)] s) (hP : va_P (dC, dI) vwCl [(h0, .inr (10, [.ref h1, .ref h2, .ref h3, .ref h4, .ref h5, .ref h6, .int x1, .int x2, .int x3, .int x4, .int b44, .long z0])), (h6, .inl (y0, 2600, .inl f0))] H) (hD : va_D A [(h0, .inr (10, [.ref h1, .ref h2, .ref h3, .ref h4, .ref h5, .ref h6, .int x1, .int x2, .int x3, .int x4, .int b44, .long z0])), (h6, .inl (y0, 2600, .inl f0))]) (hS : va_S A s.heap H locs) (ls : Array Slot) (hl : lv_has ls 7 [(6, .int b43), (5, .int b23), (4, .int b17), (0, .ref h0)]), W p l e (headSpec (Cond.code yX10_scanNumber cX10_scanNumber 7 (some .int) :: lw_G) ({ frames := 1, cells := 0, slots := 0, locals := 21 })).room s m ar below meth c H locs 0 0 Q (F0 m 128 ls [])) ?_ (fun j106 => ?_)
              · skip
                intro H locs hK hP hD hS ls hl
                refine lv_aload_n hx hb dX10_scanNumber_128 rfl (lv_at hl 3 rfl) ?_
                refine lv_iload hx hb dX10_scanNumber_129 (lv_at hl 0 rfl) ?_
                refine lv_iload hx hb dX10_scanNumber_131 (lv_at hl 1 rfl) ?_
                refine jcut (a := ∀ (b114 : Int32) (ib114 : iv b114 1 5) (H : Heap) (locs : List Loc) (hK : va_K (dC, dI) vwCl [(y0, .int)] s) (hP : va_P (dC, dI) vwCl [(h0, .inr (10, [.ref h1, .ref h2, .ref h3, .ref h4, .ref h5, .ref h6, .int x1, .int x2, .int x3, .int x4, .int b44, .long z0])), (h6, .inl (y0, 2600, .inl f0))] H) (hD : va_D A [(h0, .inr (10, [.ref h1, .ref h2, .ref h3, .ref h4, .ref h5, .ref h6, .int x1, .int x2, .int x3, .int x4, .int b44, .long z0])), (h6, .inl (y0, 2600, .inl f0))]) (hS : va_S A s.heap H locs) (ls : Array Slot) (hl : lv_has ls 7 [(6, .int b43)]), W p l e (headSpec (Cond.code yX10_scanNumber cX10_scanNumber 7 (some .int) :: lw_G) ({ frames := 1, cells := 0, slots := 0, locals := 21 })).room s m ar below meth c H locs 0 0 Q (F0 m 151 ls [.int b114, .ref h0])) ?_ (fun j115 => ?_)
                · skip
                  intro b114 ib114 H locs hK hP hD hS ls hl
                  refine va_put (D := (dC, dI)) (ci := 10) (v := .int b114) (ty := .int) (C := RX10) (T := TX10) (N := 12) hx hb hG inGX10 tyX10 tyX10_ok nmX10 hown hK hP hD hS 0 rfl rfl 9 (by decide) (hG _ wd_292) (fun _ h9 => h9) rfl (by decide +kernel) rfl rfl (Nat.le_of_ble_eq_true rfl) dX10_scanNumber_151 (fun H locs hP hD hS => ?_)
                  obtain ⟨hP, hD⟩ := nv_eq (ws' := [(h0, .inr (10, [.ref h1, .ref h2, .ref h3, .ref h4, .ref h5, .ref h6, .int x1, .int x2, .int x3, .int b114, .int b44, .long z0])), (h6, .inl (y0, 2600, .inl f0))]) hP hD rfl
                  refine lv_iload hx hb dX10_scanNumber_154 (lv_at hl 0 rfl) ?_
                  rw [hQ]
                  obtain ⟨hP9, hD9⟩ := nv_sub2 (wc := [(h0, .inr (10, [.ref h1, .ref h2, .ref h3, .ref h4, .ref h5, .ref h6, .int x1, .int x2, .int x3, .int b114, .int b44, .long z0])), (h6, .inl (y0, 2600, .inl f0))]) hP hD [0, 1] (by decide) rfl
                  have hK9 := hK.sub (tys' := [(y0, .int)]) [0] rfl
                  exact W.iret (v := b43) hx hb hr (fun t ht hW => ⟨⟨b43, (b114, b44), rfl, ⟨iv_w ib114 (by decide) (by decide), trivial⟩, by rw [ht]; exact hP9, va_K.moved hW.alike hK9, hD9⟩, hS.F ht⟩) hS.2.2 dX10_scanNumber_156
                refine lv_icmp_eq (tgt := 146) hx hb dX10_scanNumber_133 (by decide) (fun c107 => ?_) (fun c107 => ?_)
                · skip
                  refine lv_iconst (v := 1) hx hb dX10_scanNumber_146 (by decide) ?_
                  refine lv_goto (tgt := 151) hx hb dX10_scanNumber_147 (by decide) ?_
                  exact j115 1 (iv_w (by decide : iv 1 1 1) (by decide) (by decide)) _ _ hK hP hD hS ls (lv_sub hl [0] rfl)
                · skip
                  refine lv_iload hx hb dX10_scanNumber_136 (lv_at hl 0 rfl) ?_
                  refine lv_iload hx hb dX10_scanNumber_138 (lv_at hl 1 rfl) ?_
                  refine lv_isub hx hb dX10_scanNumber_140 ?_
                  refine lv_topi (fun v116 ev116 => ?_)
                  refine lv_iload hx hb dX10_scanNumber_141 (lv_at hl 2 rfl) ?_
                  refine lv_icmp_le (tgt := 150) hx hb dX10_scanNumber_143 (by decide) (fun c117 => ?_) (fun c117 => ?_)
                  · skip
                    have rl118 : v116.toInt ≤ b17.toInt := Int32.le_iff_toInt_le.mp c117
                    have j119 : iv v116 (-2147483648) 5 := iv_leL (iv_any v116) ib17 c117 (by decide)
                    refine lv_iconst (v := 5) hx hb dX10_scanNumber_150 (by decide) ?_
                    exact j115 5 (iv_w (by decide : iv 5 5 5) (by decide) (by decide)) _ _ hK hP hD hS ls (lv_sub hl [0] rfl)
                  · skip
                    have rl120 : b17.toInt < v116.toInt := iv_nle2 c117
                    have j121 : iv v116 5 2147483647 := iv_nleL (iv_any v116) ib17 c117 (by decide)
                    refine lv_iconst (v := 1) hx hb dX10_scanNumber_146 (by decide) ?_
                    refine lv_goto (tgt := 151) hx hb dX10_scanNumber_147 (by decide) ?_
                    exact j115 1 (iv_w (by decide : iv 1 1 1) (by decide) (by decide)) _ _ hK hP hD hS ls (lv_sub hl [0] rfl)
              refine lv_icmp_ge (tgt := 128) hx hb dX10_scanNumber_74 (by decide) (fun c81 => ?_) (fun c81 => ?_)
              · skip
                have rl122 : x1.toInt ≤ b43.toInt := Int32.le_iff_toInt_le.mp c81
                have j123 : iv b43 0 2147483647 := iv_leR ix1 (iv_any b43) c81 (by decide)
                exact j106 _ _ hK hP hD hS ls (lv_sub hl [0, 1, 2, 4] rfl)
              · skip
                have rl124 : b43.toInt < x1.toInt := iv_nle2 c81
                have j125 : iv b43 (-2147483648) 2599 := iv_nleR ix1 (iv_any b43) c81 (by decide)
                refine lv_aload_n hx hb dX10_scanNumber_77 rfl (lv_at hl 4 rfl) ?_
                refine lv_iload hx hb dX10_scanNumber_78 (lv_at hl 0 rfl) ?_
                obtain ⟨hPc, hDc, hFc⟩ := nv_sub3 (wc := [(h0, .inr (10, [.ref h1, .ref h2, .ref h3, .ref h4, .ref h5, .ref h6, .int x1, .int x2, .int x3, .int x4, .int b44, .long z0])), (h6, .inl (y0, 2600, .inl f0))]) hP hD hS hA [0, 1] (by decide) rfl
                have hKc := hK.sub (tys' := [(y0, .int)]) [0] rfl
                refine va_calli (va_runV (As := [.int b43]) (rest := []) ⟨hx, hb, hml, hown, hG⟩ (cX10_sign_1 l dC dI h0 h1 h2 h3 h4 h5 h6 y0 H.size b43 x1 x2 x3 x4 b44 z0 f0 ix1 ix2 ix3) (cwV 1 hG (gV wd_449 wd_451 wp_3 wd_11 wd_452) rfl rfl rfl (by decide +kernel) ⟨Nat.le_of_ble_eq_true rfl, Nat.le_of_ble_eq_true rfl⟩) ⟨fun a U g mk q => by obtain ⟨q0, q1, qP, qK, qD⟩ := q; exact ⟨q0, q1, qP, va_K.moved (u := U) (U := U.calling g mk a) (Vm.Alike.refl U.vm) qK, qD⟩, va_recv hKc hPc (ci := 10) (q0 := 0) rfl rfl, fun U hU hW => ⟨rfl, by rw [hU], by rw [hU]; exact hPc, va_K.moved hW.alike hKc, hDc.weaken (fun _ _ _ _ => trivial)⟩⟩ rfl rfl hl.1 rfl (lv_room (Nat.le_of_ble_eq_true rfl)) dX10_scanNumber_80 ⟨by decide, by decide⟩) hS (fun q _ h => hFc q h) hFc (fun r126 u127 t H1 locs ht hvm hw hB hz1 hk1 hS => ?_)
                obtain ⟨hP1, hK1, hD1⟩ := hB
                rw [ht] at hP1
                have hK1 := va_K.moved hvm.symm hK1
                obtain ⟨hP, hD⟩ := nv_join (wf := [(h0, .inr (10, [.ref h1, .ref h2, .ref h3, .ref h4, .ref h5, .ref h6, .int x1, .int x2, .int x3, .int x4, .int b44, .long z0])), (h6, .inl (y0, 2600, .inl f0))]) hP hD [0, 1] [] rfl rfl (by decide) (by decide) hk1 hFc hP1 hD1 rfl
                have hK := (hK.sub (tys' := []) [] rfl).app hK1
                generalize H1 = H at hP hS ⊢
                have hK : va_K (dC, dI) vwCl [(y0, .int)] s := hK
                refine lv_iload_n hx hb dX10_scanNumber_83 rfl (lv_at hl 3 rfl) ?_
                obtain ⟨hPc, hDc, hFc⟩ := nv_sub3 (wc := []) hP hD hS hA [] (by decide) rfl
                have hKc := hK.sub (tys' := []) [] rfl
                refine va_calli (va_runS (As := [.int r126, .int b12]) (rest := []) ⟨hx, hb, hml, hown, hG⟩ (cX10_digit_1 l dC dI H.size r126 b12) (va_cwS 2 hG (gS wd_476 wd_477 wd_11 wd_478) rfl rfl rfl (by decide +kernel) ⟨Nat.le_of_ble_eq_true rfl, Nat.le_of_ble_eq_true rfl⟩) ⟨fun a U g mk q => by obtain ⟨q0, q1, qP, qK, qD⟩ := q; exact ⟨q0, q1, qP, va_K.moved (u := U) (U := U.calling g mk a) (Vm.Alike.refl U.vm) qK, qD⟩, fun U hU hW => ⟨rfl, by rw [hU], by rw [hU]; exact hPc, va_K.moved hW.alike hKc, hDc.weaken (fun _ _ _ _ => trivial)⟩⟩ rfl rfl hl.1 rfl (lv_room (Nat.le_of_ble_eq_true rfl)) dX10_scanNumber_84 ⟨by decide, by decide⟩) hS (fun q _ h => hFc q h) hFc (fun r128 u129 t H1 locs ht hvm hw hB hz1 hk1 hS => ?_)
                have hw : iv r128 (-1) 15 ∧ True := hw
                obtain ⟨ir128, -⟩ := hw
                obtain ⟨hP1, hK1, hD1⟩ := hB
                rw [ht] at hP1
                have hK1 := va_K.moved hvm.symm hK1
                obtain ⟨hP, hD⟩ := nv_join (wf := [(h0, .inr (10, [.ref h1, .ref h2, .ref h3, .ref h4, .ref h5, .ref h6, .int x1, .int x2, .int x3, .int x4, .int b44, .long z0])), (h6, .inl (y0, 2600, .inl f0))]) hP hD [] [0, 1] rfl rfl (by decide) (by decide) hk1 hFc hP1 hD1 rfl
                have hK := (hK.sub (tys' := [(y0, .int)]) [0] rfl).app hK1
                generalize H1 = H at hP hS ⊢
                have hK : va_K (dC, dI) vwCl [(y0, .int)] s := hK
                refine lv_iconst (v := (-1)) hx hb dX10_scanNumber_87 (by decide) ?_
                refine lv_icmp_eq (tgt := 128) hx hb dX10_scanNumber_88 (by decide) (fun c130 => ?_) (fun c130 => ?_)
                · skip
                  subst c130
                  exact j106 _ _ hK hP hD hS ls (lv_sub hl [0, 1, 2, 4] rfl)
                · skip
                  have j131 : iv r128 0 15 := iv_neLo ir128 (by decide : iv (-1) (-1) (-1)) c130 (by decide)
                  refine lv_iload hx hb dX10_scanNumber_91 (lv_at hl 0 rfl) ?_
                  refine lv_iload hx hb dX10_scanNumber_93 (lv_at hl 1 rfl) ?_
                  refine lv_isub hx hb dX10_scanNumber_95 ?_
                  refine lv_topi (fun v132 ev132 => ?_)
                  refine lv_iload hx hb dX10_scanNumber_96 (lv_at hl 2 rfl) ?_
                  refine jcut (a := ∀ (b144 : Int32) (H : Heap) (locs : List Loc) (hK : va_K (dC, dI) vwCl [(y0, .int)] s) (hP : va_P (dC, dI) vwCl [(h0, .inr (10, [.ref h1, .ref h2, .ref h3, .ref h4, .ref h5, .ref h6, .int x1, .int x2, .int x3, .int x4, .int b144, .long z0])), (h6, .inl (y0, 2600, .inl f0))] H) (hD : va_D A [(h0, .inr (10, [.ref h1, .ref h2, .ref h3, .ref h4, .ref h5, .ref h6, .int x1, .int x2, .int x3, .int x4, .int b144, .long z0])), (h6, .inl (y0, 2600, .inl f0))]) (hS : va_S A s.heap H locs) (ls : Array Slot) (hl : lv_has ls 7 [(6, .int b43), (5, .int b23), (4, .int b17), (3, .int b12), (0, .ref h0)]), W p l e (headSpec (Cond.code yX10_scanNumber cX10_scanNumber 7 (some .int) :: lw_G) ({ frames := 1, cells := 0, slots := 0, locals := 21 })).room s m ar below meth c H locs 0 0 Q (F0 m 122 ls [])) ?_ (fun j145 => ?_)
                  · skip
                    intro b144 H locs hK hP hD hS ls hl
                    obtain ⟨v146, ev146⟩ : ∃ y : Int32, y = b43 + Int32.ofInt 1 := ⟨_, rfl⟩
                    have iv146 : iv v146 (-2147483647) 2600 := iv_eq ev146 (iv_add j125 (by decide : iv (Int32.ofInt 1) 1 1) (by decide) (by decide))
                    have tv146 : v146.toInt = b43.toInt + 1 := iv_addT ev146 j125 (by decide) (by decide) (by decide)
                    refine lv_iinc (v := v146) (lv' := [(6, .int v146), (5, .int b23), (4, .int b17), (3, .int b12), (0, .ref h0)]) hx hb dX10_scanNumber_122 hl (k := 0) rfl ev146.symm (by decide) rfl (fun ls hl => ?_)
                    refine lv_goto (tgt := 68) hx hb dX10_scanNumber_125 (by decide) ?_
                    exact ih v146 b144 (by omega) _ _ hK hP hD hS ls hl
                  refine lv_icmp_ge (tgt := 122) hx hb dX10_scanNumber_98 (by decide) (fun c133 => ?_) (fun c133 => ?_)
                  · skip
                    have rl147 : b17.toInt ≤ v132.toInt := Int32.le_iff_toInt_le.mp c133
                    have j148 : iv v132 4 2147483647 := iv_leR ib17 (iv_any v132) c133 (by decide)
                    exact j145 b44 _ _ hK hP hD hS ls hl
                  · skip
                    have rl149 : v132.toInt < b17.toInt := iv_nle2 c133
                    have j150 : iv v132 (-2147483648) 4 := iv_nleR ib17 (iv_any v132) c133 (by decide)
                    refine lv_aload_n hx hb dX10_scanNumber_101 rfl (lv_at hl 4 rfl) ?_
                    refine lv_aload_n hx hb dX10_scanNumber_102 rfl (lv_at hl 4 rfl) ?_
                    refine va_get (D := (dC, dI)) (ci := 10) (v := .int b44) (C := RX10) (T := TX10) (N := 12) hx hb hG inGX10 hown hK hP 0 rfl rfl 10 (by decide) (hG _ wd_293) (fun _ h9 => h9) rfl dX10_scanNumber_103 ?_
                    refine lv_iload_n hx hb dX10_scanNumber_106 rfl (lv_at hl 3 rfl) ?_
                    refine lv_imul hx hb dX10_scanNumber_107 ?_
                    refine lv_topi (fun v151 ev151 => ?_)
                    refine lv_aload_n hx hb dX10_scanNumber_108 rfl (lv_at hl 4 rfl) ?_
                    refine lv_iload hx hb dX10_scanNumber_109 (lv_at hl 0 rfl) ?_
                    obtain ⟨hPc, hDc, hFc⟩ := nv_sub3 (wc := [(h0, .inr (10, [.ref h1, .ref h2, .ref h3, .ref h4, .ref h5, .ref h6, .int x1, .int x2, .int x3, .int x4, .int b44, .long z0])), (h6, .inl (y0, 2600, .inl f0))]) hP hD hS hA [0, 1] (by decide) rfl
                    have hKc := hK.sub (tys' := [(y0, .int)]) [0] rfl
                    refine va_calli (va_runV (As := [.int b43]) (rest := [.int v151, .ref h0]) ⟨hx, hb, hml, hown, hG⟩ (cX10_sign_1 l dC dI h0 h1 h2 h3 h4 h5 h6 y0 H.size b43 x1 x2 x3 x4 b44 z0 f0 ix1 ix2 ix3) (cwV 1 hG (gV wd_449 wd_451 wp_3 wd_11 wd_452) rfl rfl rfl (by decide +kernel) ⟨Nat.le_of_ble_eq_true rfl, Nat.le_of_ble_eq_true rfl⟩) ⟨fun a U g mk q => by obtain ⟨q0, q1, qP, qK, qD⟩ := q; exact ⟨q0, q1, qP, va_K.moved (u := U) (U := U.calling g mk a) (Vm.Alike.refl U.vm) qK, qD⟩, va_recv hKc hPc (ci := 10) (q0 := 0) rfl rfl, fun U hU hW => ⟨rfl, by rw [hU], by rw [hU]; exact hPc, va_K.moved hW.alike hKc, hDc.weaken (fun _ _ _ _ => trivial)⟩⟩ rfl rfl hl.1 rfl (lv_room (Nat.le_of_ble_eq_true rfl)) dX10_scanNumber_111 ⟨by decide, by decide⟩) hS (fun q _ h => hFc q h) hFc (fun r152 u153 t H1 locs ht hvm hw hB hz1 hk1 hS => ?_)
                    obtain ⟨hP1, hK1, hD1⟩ := hB
                    rw [ht] at hP1
                    have hK1 := va_K.moved hvm.symm hK1
                    obtain ⟨hP, hD⟩ := nv_join (wf := [(h0, .inr (10, [.ref h1, .ref h2, .ref h3, .ref h4, .ref h5, .ref h6, .int x1, .int x2, .int x3, .int x4, .int b44, .long z0])), (h6, .inl (y0, 2600, .inl f0))]) hP hD [0, 1] [] rfl rfl (by decide) (by decide) hk1 hFc hP1 hD1 rfl
                    have hK := (hK.sub (tys' := []) [] rfl).app hK1
                    generalize H1 = H at hP hS ⊢
                    have hK : va_K (dC, dI) vwCl [(y0, .int)] s := hK
                    refine lv_iload_n hx hb dX10_scanNumber_114 rfl (lv_at hl 3 rfl) ?_
                    obtain ⟨hPc, hDc, hFc⟩ := nv_sub3 (wc := []) hP hD hS hA [] (by decide) rfl
                    have hKc := hK.sub (tys' := []) [] rfl
                    refine va_calli (va_runS (As := [.int r152, .int b12]) (rest := [.int v151, .ref h0]) ⟨hx, hb, hml, hown, hG⟩ (cX10_digit_1 l dC dI H.size r152 b12) (va_cwS 2 hG (gS wd_476 wd_477 wd_11 wd_478) rfl rfl rfl (by decide +kernel) ⟨Nat.le_of_ble_eq_true rfl, Nat.le_of_ble_eq_true rfl⟩) ⟨fun a U g mk q => by obtain ⟨q0, q1, qP, qK, qD⟩ := q; exact ⟨q0, q1, qP, va_K.moved (u := U) (U := U.calling g mk a) (Vm.Alike.refl U.vm) qK, qD⟩, fun U hU hW => ⟨rfl, by rw [hU], by rw [hU]; exact hPc, va_K.moved hW.alike hKc, hDc.weaken (fun _ _ _ _ => trivial)⟩⟩ rfl rfl hl.1 rfl (lv_room (Nat.le_of_ble_eq_true rfl)) dX10_scanNumber_115 ⟨by decide, by decide⟩) hS (fun q _ h => hFc q h) hFc (fun r154 u155 t H1 locs ht hvm hw hB hz1 hk1 hS => ?_)
                    have hw : iv r154 (-1) 15 ∧ True := hw
                    obtain ⟨ir154, -⟩ := hw
                    obtain ⟨hP1, hK1, hD1⟩ := hB
                    rw [ht] at hP1
                    have hK1 := va_K.moved hvm.symm hK1
                    obtain ⟨hP, hD⟩ := nv_join (wf := [(h0, .inr (10, [.ref h1, .ref h2, .ref h3, .ref h4, .ref h5, .ref h6, .int x1, .int x2, .int x3, .int x4, .int b44, .long z0])), (h6, .inl (y0, 2600, .inl f0))]) hP hD [] [0, 1] rfl rfl (by decide) (by decide) hk1 hFc hP1 hD1 rfl
                    have hK := (hK.sub (tys' := [(y0, .int)]) [0] rfl).app hK1
                    generalize H1 = H at hP hS ⊢
                    have hK : va_K (dC, dI) vwCl [(y0, .int)] s := hK
                    refine lv_iadd hx hb dX10_scanNumber_118 ?_
                    refine lv_topi (fun v156 ev156 => ?_)
                    refine va_put (D := (dC, dI)) (ci := 10) (v := .int v156) (ty := .int) (C := RX10) (T := TX10) (N := 12) hx hb hG inGX10 tyX10 tyX10_ok nmX10 hown hK hP hD hS 0 rfl rfl 10 (by decide) (hG _ wd_293) (fun _ h9 => h9) rfl (by decide +kernel) rfl rfl (Nat.le_of_ble_eq_true rfl) dX10_scanNumber_119 (fun H locs hP hD hS => ?_)
                    obtain ⟨hP, hD⟩ := nv_eq (ws' := [(h0, .inr (10, [.ref h1, .ref h2, .ref h3, .ref h4, .ref h5, .ref h6, .int x1, .int x2, .int x3, .int x4, .int v156, .long z0])), (h6, .inl (y0, 2600, .inl f0))]) hP hD rfl
                    exact j145 v156 _ _ hK hP hD hS ls hl
          exact lp80 _ b23 x5 (Nat.lt_succ_self _) _ _ hK hP hD hS ls hl
        refine lv_if_eq (tgt := 61) hx hb dX10_scanNumber_52 (by decide) (fun c20 => ?_) (fun c20 => ?_)
        · skip
          subst c20
          refine lv_iload_n hx hb dX10_scanNumber_61 rfl (lv_at hl 4 rfl) ?_
          exact j24 x0 _ _ hK hP hD hS ls (lv_sub hl [0, 1, 3] rfl)
        · skip
          have j157 : iv b18 1 1 := iv_neLo ib18 (by decide : iv 0 0 0) c20 (by decide)
          refine lv_iload_n hx hb dX10_scanNumber_55 rfl (lv_at hl 4 rfl) ?_
          refine lv_iconst (v := 2) hx hb dX10_scanNumber_56 (by decide) ?_
          refine lv_iadd hx hb dX10_scanNumber_57 ?_
          refine lv_topi (fun v158 ev158 => ?_)
          refine lv_goto (tgt := 62) hx hb dX10_scanNumber_58 (by decide) ?_
          exact j24 v158 _ _ hK hP hD hS ls (lv_sub hl [0, 1, 3] rfl)
      refine lv_if_eq (tgt := 48) hx hb dX10_scanNumber_41 (by decide) (fun c15 => ?_) (fun c15 => ?_)
      · skip
        subst c15
        refine lv_iconst (v := 5) hx hb dX10_scanNumber_48 (by decide) ?_
        exact j19 5 0 (iv_w (by decide : iv 5 5 5) (by decide) (by decide)) (iv_w (by decide : iv 0 0 0) (by decide) (by decide)) _ _ hK hP hD hS ls hl
      · skip
        have j159 : iv b13 1 1 := iv_neLo ib13 (by decide : iv 0 0 0) c15 (by decide)
        refine lv_iconst (v := 4) hx hb dX10_scanNumber_44 (by decide) ?_
        refine lv_goto (tgt := 49) hx hb dX10_scanNumber_45 (by decide) ?_
        exact j19 4 b13 (iv_w (by decide : iv 4 4 4) (by decide) (by decide)) (iv_w j159 (by decide) (by decide)) _ _ hK hP hD hS ls hl
    refine lv_if_eq (tgt := 37) hx hb dX10_scanNumber_29 (by decide) (fun c10 => ?_) (fun c10 => ?_)
    · skip
      subst c10
      refine lv_bipush (v := 10) hx hb dX10_scanNumber_37 (by decide) ?_
      exact j14 10 0 (iv_w (by decide : iv 10 10 10) (by decide) (by decide)) (iv_w (by decide : iv 0 0 0) (by decide) (by decide)) _ _ hK hP hD hS ls hl
    · skip
      have j160 : iv b8 1 1 := iv_neLo ib8 (by decide : iv 0 0 0) c10 (by decide)
      refine lv_bipush (v := 16) hx hb dX10_scanNumber_32 (by decide) ?_
      refine lv_goto (tgt := 39) hx hb dX10_scanNumber_34 (by decide) ?_
      exact j14 16 b8 (iv_w (by decide : iv 16 16 16) (by decide) (by decide)) (iv_w j160 (by decide) (by decide)) _ _ hK hP hD hS ls hl
  refine lv_icmp_ne (tgt := 26) hx hb dX10_scanNumber_7 (by decide) (fun c3 => ?_) (fun c3 => ?_)
  · skip
    refine lv_iconst (v := 0) hx hb dX10_scanNumber_26 (by decide) ?_
    exact j9 0 (iv_w (by decide : iv 0 0 0) (by decide) (by decide)) _ _ hK hP hD hS ls hl
  · skip
    subst c3
    refine lv_aload_n hx hb dX10_scanNumber_10 rfl (lv_at hl 0 rfl) ?_
    refine lv_iload_n hx hb dX10_scanNumber_11 rfl (lv_at hl 1 rfl) ?_
    refine lv_iconst (v := 1) hx hb dX10_scanNumber_12 (by decide) ?_
    refine lv_iadd hx hb dX10_scanNumber_13 ?_
    refine lv_topi (fun v161 ev161 => ?_)
    obtain ⟨hPc, hDc, hFc⟩ := nv_sub3 (wc := [(h0, .inr (10, [.ref h1, .ref h2, .ref h3, .ref h4, .ref h5, .ref h6, .int x1, .int x2, .int x3, .int x4, .int x5, .long z0])), (h6, .inl (y0, 2600, .inl f0))]) hP hD hS hA [0, 1] (by decide) rfl
    have hKc := hK.sub (tys' := [(y0, .int)]) [0] rfl
    refine va_calli (va_runV (As := [.int v161]) (rest := []) ⟨hx, hb, hml, hown, hG⟩ (cX10_sign_1 l dC dI h0 h1 h2 h3 h4 h5 h6 y0 H.size v161 x1 x2 x3 x4 x5 z0 f0 ix1 ix2 ix3) (cwV 1 hG (gV wd_449 wd_451 wp_3 wd_11 wd_452) rfl rfl rfl (by decide +kernel) ⟨Nat.le_of_ble_eq_true rfl, Nat.le_of_ble_eq_true rfl⟩) ⟨fun a U g mk q => by obtain ⟨q0, q1, qP, qK, qD⟩ := q; exact ⟨q0, q1, qP, va_K.moved (u := U) (U := U.calling g mk a) (Vm.Alike.refl U.vm) qK, qD⟩, va_recv hKc hPc (ci := 10) (q0 := 0) rfl rfl, fun U hU hW => ⟨rfl, by rw [hU], by rw [hU]; exact hPc, va_K.moved hW.alike hKc, hDc.weaken (fun _ _ _ _ => trivial)⟩⟩ rfl rfl hl.1 rfl (lv_room (Nat.le_of_ble_eq_true rfl)) dX10_scanNumber_14 ⟨by decide, by decide⟩) hS (fun q _ h => hFc q h) hFc (fun r162 u163 t H1 locs ht hvm hw hB hz1 hk1 hS => ?_)
    obtain ⟨hP1, hK1, hD1⟩ := hB
    rw [ht] at hP1
    have hK1 := va_K.moved hvm.symm hK1
    obtain ⟨hP, hD⟩ := nv_join (wf := [(h0, .inr (10, [.ref h1, .ref h2, .ref h3, .ref h4, .ref h5, .ref h6, .int x1, .int x2, .int x3, .int x4, .int x5, .long z0])), (h6, .inl (y0, 2600, .inl f0))]) hP hD [0, 1] [] rfl rfl (by decide) (by decide) hk1 hFc hP1 hD1 rfl
    have hK := (hK.sub (tys' := []) [] rfl).app hK1
    generalize H1 = H at hP hS ⊢
    have hK : va_K (dC, dI) vwCl [(y0, .int)] s := hK
    refine lv_bipush (v := 120) hx hb dX10_scanNumber_17 (by decide) ?_
    refine lv_icmp_ne (tgt := 26) hx hb dX10_scanNumber_19 (by decide) (fun c164 => ?_) (fun c164 => ?_)
    · skip
      refine lv_iconst (v := 0) hx hb dX10_scanNumber_26 (by decide) ?_
      exact j9 0 (iv_w (by decide : iv 0 0 0) (by decide) (by decide)) _ _ hK hP hD hS ls hl
    · skip
      subst c164
      refine lv_iconst (v := 1) hx hb dX10_scanNumber_22 (by decide) ?_
      refine lv_goto (tgt := 27) hx hb dX10_scanNumber_23 (by decide) ?_
      exact j9 1 (iv_w (by decide : iv 1 1 1) (by decide) (by decide)) _ _ hK hP hD hS ls hl
set_option maxHeartbeats 100000000 in
set_option maxRecDepth 100000 in
theorem cX10_isWordSign_1 (l : Launch) (dC : Nat → ClassId) (dI : Nat → Nat → Nat) (sz : Nat) (x0 : Int32) : Met l yX10_isWordSign (Cond.code yX10_isWordSign cX10_isWordSign 1 (some .boolean) :: lw_G) ({ frames := 0, cells := 0, slots := 0, locals := 0 }) (va_Pc [.int x0] (fun U => U.heap.size = sz ∧ va_P (dC, dI) vwCl [] U.heap ∧ va_K (dC, dI) vwCl [] U ∧ va_D (fun _ => True) [])) (va_Qi (fun (r : Int32) (u : Unit) => iv r 0 1 ∧ True) (fun (u : Unit) (t : State) => va_P (dC, dI) vwCl [] t.heap ∧ va_K (dC, dI) vwCl [] t ∧ va_D (va_A [] sz) []) (va_A [] sz)) 0 0 (va_A [] sz) := by
  refine Met.ofW (cc := cX10_isWordSign) (maxL := 1) (ret := (some .boolean)) (by decide) rfl ?_
  intro p e s m args below meth c s₁ B hml hv
  obtain ⟨rfl, hsz, hP, hK, hD0⟩ := hv
  have hx := B.exec
  have hb := B.bytes
  have hr := B.returns
  have hts0 := atoms_spec (ws := Cond.code yX10_isWordSign cX10_isWordSign 1 (some .boolean) :: lw_G) B.pre
  have hG : ∀ w ∈ lw_G, w.before _ s = true := fun w h => hts0 w (List.mem_cons_of_mem _ h)
  have hown : s.vm.findClass RX10 = some m.cls := findClass_of_methodNamed B.named
  have hlocks := B.notSynchronized
  subst hsz
  have hD := hD0.self (sz := s.heap.size)
  generalize hAe : va_A [] s.heap.size = A at hD ⊢
  have hA : ∀ q : Nat, s.heap.size ≤ q → A q := fun q h => by rw [← hAe]; exact Or.inr h
  have hS : va_S A s.heap s.heap [] := va_S.rf
  have hP : va_P (dC, dI) vwCl [] s.heap := hP
  have hl := lv_entry ([.int x0]) (n := 1) (Nat.le_of_ble_eq_true rfl)
  rw [lg_entry_eq]
  generalize (lg_sl ([.int x0]) ++ List.replicate (1 - (lg_sl ([.int x0])).length) Slot.unset).toArray = ls at hl ⊢
  have hl : lv_has ls 1 [(0, .int x0)] := hl
  generalize ([.int x0] : List Value).toArray = ar at hG ⊢
  refine wq (fun Q hQ => ?_)
  refine lv_iload_n hx hb dX10_isWordSign_0 rfl (lv_at hl 0 rfl) ?_
  refine lv_bipush (v := 97) hx hb dX10_isWordSign_1 (by decide) ?_
  refine jcut (a := ∀ (b19 : Int32) (ib19 : iv b19 0 1) (H : Heap) (locs : List Loc) (hK : va_K (dC, dI) vwCl [] s) (hP : va_P (dC, dI) vwCl [] H) (hD : va_D A []) (hS : va_S A s.heap H locs) (ls : Array Slot) (hl : lv_has ls 1 []), W p l e (headSpec (Cond.code yX10_isWordSign cX10_isWordSign 1 (some .boolean) :: lw_G) ({ frames := 0, cells := 0, slots := 0, locals := 0 })).room s m ar below meth c H locs 0 0 Q (F0 m 41 ls [.int b19])) ?_ (fun j20 => ?_)
  · skip
    intro b19 ib19 H locs hK hP hD hS ls hl
    rw [hQ]
    obtain ⟨hP9, hD9⟩ := nv_sub2 (wc := []) hP hD [] (by decide) rfl
    have hK9 := hK.sub (tys' := []) [] rfl
    exact W.zret (v := b19) hx hb hr (iv_z (iv_w ib19 (by decide) (by decide))).1 (fun t ht hW => ⟨⟨b19, (), rfl, ⟨iv_w ib19 (by decide) (by decide), trivial⟩, by rw [ht]; exact hP9, va_K.moved hW.alike hK9, hD9⟩, hS.F ht⟩) hS.2.2 dX10_isWordSign_41
  refine lv_icmp_lt (tgt := 12) hx hb dX10_isWordSign_3 (by decide) (fun c1 => ?_) (fun c1 => ?_)
  · skip
    have j21 : iv x0 (-2147483648) 96 := iv_ltL (iv_any x0) (by decide : iv 97 97 97) c1 (by decide)
    refine lv_iload_n hx hb dX10_isWordSign_12 rfl (lv_at hl 0 rfl) ?_
    refine lv_bipush (v := 65) hx hb dX10_isWordSign_13 (by decide) ?_
    refine lv_icmp_lt (tgt := 24) hx hb dX10_isWordSign_15 (by decide) (fun c22 => ?_) (fun c22 => ?_)
    · skip
      have j23 : iv x0 (-2147483648) 64 := iv_ltL j21 (by decide : iv 65 65 65) c22 (by decide)
      refine lv_iload_n hx hb dX10_isWordSign_24 rfl (lv_at hl 0 rfl) ?_
      refine lv_bipush (v := 48) hx hb dX10_isWordSign_25 (by decide) ?_
      refine lv_icmp_lt (tgt := 40) hx hb dX10_isWordSign_27 (by decide) (fun c24 => ?_) (fun c24 => ?_)
      · skip
        have j25 : iv x0 (-2147483648) 47 := iv_ltL j23 (by decide : iv 48 48 48) c24 (by decide)
        refine lv_iconst (v := 0) hx hb dX10_isWordSign_40 (by decide) ?_
        exact j20 0 (iv_w (by decide : iv 0 0 0) (by decide) (by decide)) _ _ hK hP hD hS ls (lv_sub hl [] rfl)
      · skip
        have j26 : iv x0 48 64 := iv_nltL j23 (by decide : iv 48 48 48) c24 (by decide)
        refine lv_iload_n hx hb dX10_isWordSign_30 rfl (lv_at hl 0 rfl) ?_
        refine lv_bipush (v := 57) hx hb dX10_isWordSign_31 (by decide) ?_
        refine lv_icmp_gt (tgt := 40) hx hb dX10_isWordSign_33 (by decide) (fun c27 => ?_) (fun c27 => ?_)
        · skip
          have j28 : iv x0 58 64 := iv_ltR (by decide : iv 57 57 57) j26 c27 (by decide)
          refine lv_iconst (v := 0) hx hb dX10_isWordSign_40 (by decide) ?_
          exact j20 0 (iv_w (by decide : iv 0 0 0) (by decide) (by decide)) _ _ hK hP hD hS ls (lv_sub hl [] rfl)
        · skip
          have j29 : iv x0 48 57 := iv_nltR (by decide : iv 57 57 57) j26 c27 (by decide)
          refine lv_iconst (v := 1) hx hb dX10_isWordSign_36 (by decide) ?_
          refine lv_goto (tgt := 41) hx hb dX10_isWordSign_37 (by decide) ?_
          exact j20 1 (iv_w (by decide : iv 1 1 1) (by decide) (by decide)) _ _ hK hP hD hS ls (lv_sub hl [] rfl)
    · skip
      have j30 : iv x0 65 96 := iv_nltL j21 (by decide : iv 65 65 65) c22 (by decide)
      refine lv_iload_n hx hb dX10_isWordSign_18 rfl (lv_at hl 0 rfl) ?_
      refine lv_bipush (v := 90) hx hb dX10_isWordSign_19 (by decide) ?_
      refine lv_icmp_le (tgt := 36) hx hb dX10_isWordSign_21 (by decide) (fun c31 => ?_) (fun c31 => ?_)
      · skip
        have j32 : iv x0 65 90 := iv_leL j30 (by decide : iv 90 90 90) c31 (by decide)
        refine lv_iconst (v := 1) hx hb dX10_isWordSign_36 (by decide) ?_
        refine lv_goto (tgt := 41) hx hb dX10_isWordSign_37 (by decide) ?_
        exact j20 1 (iv_w (by decide : iv 1 1 1) (by decide) (by decide)) _ _ hK hP hD hS ls (lv_sub hl [] rfl)
      · skip
        have j33 : iv x0 91 96 := iv_nleL j30 (by decide : iv 90 90 90) c31 (by decide)
        refine lv_iload_n hx hb dX10_isWordSign_24 rfl (lv_at hl 0 rfl) ?_
        refine lv_bipush (v := 48) hx hb dX10_isWordSign_25 (by decide) ?_
        refine lv_icmp_lt (tgt := 40) hx hb dX10_isWordSign_27 (by decide) (fun c => absurd c (iv_nlt j33 (by decide : iv 48 48 48) (by decide))) (fun _ => ?_)
        refine lv_iload_n hx hb dX10_isWordSign_30 rfl (lv_at hl 0 rfl) ?_
        refine lv_bipush (v := 57) hx hb dX10_isWordSign_31 (by decide) ?_
        refine lv_icmp_gt (tgt := 40) hx hb dX10_isWordSign_33 (by decide) (fun _ => ?_) (fun c => absurd (iv_lt (by decide : iv 57 57 57) j33 (by decide)) c)
        refine lv_iconst (v := 0) hx hb dX10_isWordSign_40 (by decide) ?_
        exact j20 0 (iv_w (by decide : iv 0 0 0) (by decide) (by decide)) _ _ hK hP hD hS ls (lv_sub hl [] rfl)
  · skip
    have j34 : iv x0 97 2147483647 := iv_nltL (iv_any x0) (by decide : iv 97 97 97) c1 (by decide)
    refine lv_iload_n hx hb dX10_isWordSign_6 rfl (lv_at hl 0 rfl) ?_
    refine lv_bipush (v := 122) hx hb dX10_isWordSign_7 (by decide) ?_
    refine lv_icmp_le (tgt := 36) hx hb dX10_isWordSign_9 (by decide) (fun c35 => ?_) (fun c35 => ?_)
    · skip
      have j36 : iv x0 97 122 := iv_leL j34 (by decide : iv 122 122 122) c35 (by decide)
      refine lv_iconst (v := 1) hx hb dX10_isWordSign_36 (by decide) ?_
      refine lv_goto (tgt := 41) hx hb dX10_isWordSign_37 (by decide) ?_
      exact j20 1 (iv_w (by decide : iv 1 1 1) (by decide) (by decide)) _ _ hK hP hD hS ls (lv_sub hl [] rfl)
    · skip
      have j37 : iv x0 123 2147483647 := iv_nleL j34 (by decide : iv 122 122 122) c35 (by decide)
      refine lv_iload_n hx hb dX10_isWordSign_12 rfl (lv_at hl 0 rfl) ?_
      refine lv_bipush (v := 65) hx hb dX10_isWordSign_13 (by decide) ?_
      refine lv_icmp_lt (tgt := 24) hx hb dX10_isWordSign_15 (by decide) (fun c => absurd c (iv_nlt j37 (by decide : iv 65 65 65) (by decide))) (fun _ => ?_)
      refine lv_iload_n hx hb dX10_isWordSign_18 rfl (lv_at hl 0 rfl) ?_
      refine lv_bipush (v := 90) hx hb dX10_isWordSign_19 (by decide) ?_
      refine lv_icmp_le (tgt := 36) hx hb dX10_isWordSign_21 (by decide) (fun c => absurd c (iv_nle j37 (by decide : iv 90 90 90) (by decide))) (fun _ => ?_)
      refine lv_iload_n hx hb dX10_isWordSign_24 rfl (lv_at hl 0 rfl) ?_
      refine lv_bipush (v := 48) hx hb dX10_isWordSign_25 (by decide) ?_
      refine lv_icmp_lt (tgt := 40) hx hb dX10_isWordSign_27 (by decide) (fun c => absurd c (iv_nlt j37 (by decide : iv 48 48 48) (by decide))) (fun _ => ?_)
      refine lv_iload_n hx hb dX10_isWordSign_30 rfl (lv_at hl 0 rfl) ?_
      refine lv_bipush (v := 57) hx hb dX10_isWordSign_31 (by decide) ?_
      refine lv_icmp_gt (tgt := 40) hx hb dX10_isWordSign_33 (by decide) (fun _ => ?_) (fun c => absurd (iv_lt (by decide : iv 57 57 57) j37 (by decide)) c)
      refine lv_iconst (v := 0) hx hb dX10_isWordSign_40 (by decide) ?_
      exact j20 0 (iv_w (by decide : iv 0 0 0) (by decide) (by decide)) _ _ hK hP hD hS ls (lv_sub hl [] rfl)
set_option maxHeartbeats 100000000 in
set_option maxRecDepth 100000 in
theorem cX10_registerOf_1 (l : Launch) (dC : Nat → ClassId) (dI : Nat → Nat → Nat) (h0 h1 h2 h3 h4 h5 h6 : Nat) (y0 : ClassId) (sz : Nat) (x0 x1 x2 x3 x4 x5 x6 : Int32) (z0 : Int64) (f0 : Nat → Int32) (ix2 : iv x2 0 2600) (ix3 : iv x3 0 2501) (ix4 : iv x4 0 2500) : Met l yX10_registerOf (Cond.code yX10_registerOf cX10_registerOf 7 (some .int) :: lw_G) ({ frames := 1, cells := 0, slots := 0, locals := 21 }) (va_Pc [.ref h0, .int x0, .int x1] (fun U => U.heap.size = sz ∧ va_P (dC, dI) vwCl [(h0, .inr (10, [.ref h1, .ref h2, .ref h3, .ref h4, .ref h5, .ref h6, .int x2, .int x3, .int x4, .int x5, .int x6, .long z0])), (h6, .inl (y0, 2600, .inl f0))] U.heap ∧ va_K (dC, dI) vwCl [(y0, .int)] U ∧ va_D (fun _ => True) [(h0, .inr (10, [.ref h1, .ref h2, .ref h3, .ref h4, .ref h5, .ref h6, .int x2, .int x3, .int x4, .int x5, .int x6, .long z0])), (h6, .inl (y0, 2600, .inl f0))])) (va_Qi (fun (r : Int32) (u : Unit) => True) (fun (u : Unit) (t : State) => va_P (dC, dI) vwCl [(h0, .inr (10, [.ref h1, .ref h2, .ref h3, .ref h4, .ref h5, .ref h6, .int x2, .int x3, .int x4, .int x5, .int x6, .long z0])), (h6, .inl (y0, 2600, .inl f0))] t.heap ∧ va_K (dC, dI) vwCl [(y0, .int)] t ∧ va_D (va_A [(h0, .inr (10, [.ref h1, .ref h2, .ref h3, .ref h4, .ref h5, .ref h6, .int x2, .int x3, .int x4, .int x5, .int x6, .long z0])), (h6, .inl (y0, 2600, .inl f0))] sz) [(h0, .inr (10, [.ref h1, .ref h2, .ref h3, .ref h4, .ref h5, .ref h6, .int x2, .int x3, .int x4, .int x5, .int x6, .long z0])), (h6, .inl (y0, 2600, .inl f0))]) (va_A [(h0, .inr (10, [.ref h1, .ref h2, .ref h3, .ref h4, .ref h5, .ref h6, .int x2, .int x3, .int x4, .int x5, .int x6, .long z0])), (h6, .inl (y0, 2600, .inl f0))] sz)) 0 0 (va_A [(h0, .inr (10, [.ref h1, .ref h2, .ref h3, .ref h4, .ref h5, .ref h6, .int x2, .int x3, .int x4, .int x5, .int x6, .long z0])), (h6, .inl (y0, 2600, .inl f0))] sz) := by
  refine Met.ofW (cc := cX10_registerOf) (maxL := 7) (ret := (some .int)) (by decide) rfl ?_
  intro p e s m args below meth c s₁ B hml hv
  obtain ⟨rfl, hsz, hP, hK, hD0⟩ := hv
  have hx := B.exec
  have hb := B.bytes
  have hr := B.returns
  have hts0 := atoms_spec (ws := Cond.code yX10_registerOf cX10_registerOf 7 (some .int) :: lw_G) B.pre
  have hG : ∀ w ∈ lw_G, w.before _ s = true := fun w h => hts0 w (List.mem_cons_of_mem _ h)
  have hown : s.vm.findClass RX10 = some m.cls := findClass_of_methodNamed B.named
  have hlocks := B.notSynchronized
  subst hsz
  have hD := hD0.self (sz := s.heap.size)
  generalize hAe : va_A [(h0, .inr (10, [.ref h1, .ref h2, .ref h3, .ref h4, .ref h5, .ref h6, .int x2, .int x3, .int x4, .int x5, .int x6, .long z0])), (h6, .inl (y0, 2600, .inl f0))] s.heap.size = A at hD ⊢
  have hA : ∀ q : Nat, s.heap.size ≤ q → A q := fun q h => by rw [← hAe]; exact Or.inr h
  have hS : va_S A s.heap s.heap [] := va_S.rf
  have hP : va_P (dC, dI) vwCl [(h0, .inr (10, [.ref h1, .ref h2, .ref h3, .ref h4, .ref h5, .ref h6, .int x2, .int x3, .int x4, .int x5, .int x6, .long z0])), (h6, .inl (y0, 2600, .inl f0))] s.heap := hP
  have hl := lv_entry ([.ref h0, .int x0, .int x1]) (n := 7) (Nat.le_of_ble_eq_true rfl)
  rw [lg_entry_eq]
  generalize (lg_sl ([.ref h0, .int x0, .int x1]) ++ List.replicate (7 - (lg_sl ([.ref h0, .int x0, .int x1])).length) Slot.unset).toArray = ls at hl ⊢
  have hl : lv_has ls 7 [(0, .ref h0), (1, .int x0), (2, .int x1)] := hl
  generalize ([.ref h0, .int x0, .int x1] : List Value).toArray = ar at hG ⊢
  refine wq (fun Q hQ => ?_)
  refine lv_aload_n hx hb dX10_registerOf_0 rfl (lv_at hl 0 rfl) ?_
  refine lv_iload_n hx hb dX10_registerOf_1 rfl (lv_at hl 1 rfl) ?_
  obtain ⟨hPc, hDc, hFc⟩ := nv_sub3 (wc := [(h0, .inr (10, [.ref h1, .ref h2, .ref h3, .ref h4, .ref h5, .ref h6, .int x2, .int x3, .int x4, .int x5, .int x6, .long z0])), (h6, .inl (y0, 2600, .inl f0))]) hP hD hS hA [0, 1] (by decide) rfl
  have hKc := hK.sub (tys' := [(y0, .int)]) [0] rfl
  refine va_calli (va_runV (As := [.int x0]) (rest := []) ⟨hx, hb, hml, hown, hG⟩ (cX10_sign_1 l dC dI h0 h1 h2 h3 h4 h5 h6 y0 s.heap.size x0 x2 x3 x4 x5 x6 z0 f0 ix2 ix3 ix4) (cwV 1 hG (gV wd_449 wd_451 wp_3 wd_11 wd_452) rfl rfl rfl (by decide +kernel) ⟨Nat.le_of_ble_eq_true rfl, Nat.le_of_ble_eq_true rfl⟩) ⟨fun a U g mk q => by obtain ⟨q0, q1, qP, qK, qD⟩ := q; exact ⟨q0, q1, qP, va_K.moved (u := U) (U := U.calling g mk a) (Vm.Alike.refl U.vm) qK, qD⟩, va_recv hKc hPc (ci := 10) (q0 := 0) rfl rfl, fun U hU hW => ⟨rfl, by rw [hU], by rw [hU]; exact hPc, va_K.moved hW.alike hKc, hDc.weaken (fun _ _ _ _ => trivial)⟩⟩ rfl rfl hl.1 rfl (lv_room (Nat.le_of_ble_eq_true rfl)) dX10_registerOf_2 ⟨by decide, by decide⟩) hS (fun q _ h => hFc q h) hFc (fun r1 u2 t H1 locs ht hvm hw hB hz1 hk1 hS => ?_)
  obtain ⟨hP1, hK1, hD1⟩ := hB
  rw [ht] at hP1
  have hK1 := va_K.moved hvm.symm hK1
  obtain ⟨hP, hD⟩ := nv_join (wf := [(h0, .inr (10, [.ref h1, .ref h2, .ref h3, .ref h4, .ref h5, .ref h6, .int x2, .int x3, .int x4, .int x5, .int x6, .long z0])), (h6, .inl (y0, 2600, .inl f0))]) hP hD [0, 1] [] rfl rfl (by decide) (by decide) hk1 hFc hP1 hD1 rfl
  have hK := (hK.sub (tys' := []) [] rfl).app hK1
  generalize H1 = H at hP hS ⊢
  have hK : va_K (dC, dI) vwCl [(y0, .int)] s := hK
  refine lv_istore_n (lv' := [(3, .int r1), (0, .ref h0), (1, .int x0), (2, .int x1)]) hx hb dX10_registerOf_5 rfl hl (by decide) rfl (fun ls hl => ?_)
  refine lv_aload_n hx hb dX10_registerOf_6 rfl (lv_at hl 1 rfl) ?_
  refine lv_iload_n hx hb dX10_registerOf_7 rfl (lv_at hl 2 rfl) ?_
  refine lv_iconst (v := 1) hx hb dX10_registerOf_8 (by decide) ?_
  refine lv_iadd hx hb dX10_registerOf_9 ?_
  refine lv_topi (fun v3 ev3 => ?_)
  obtain ⟨hPc, hDc, hFc⟩ := nv_sub3 (wc := [(h0, .inr (10, [.ref h1, .ref h2, .ref h3, .ref h4, .ref h5, .ref h6, .int x2, .int x3, .int x4, .int x5, .int x6, .long z0])), (h6, .inl (y0, 2600, .inl f0))]) hP hD hS hA [0, 1] (by decide) rfl
  have hKc := hK.sub (tys' := [(y0, .int)]) [0] rfl
  refine va_calli (va_runV (As := [.int v3]) (rest := []) ⟨hx, hb, hml, hown, hG⟩ (cX10_sign_1 l dC dI h0 h1 h2 h3 h4 h5 h6 y0 H.size v3 x2 x3 x4 x5 x6 z0 f0 ix2 ix3 ix4) (cwV 1 hG (gV wd_449 wd_451 wp_3 wd_11 wd_452) rfl rfl rfl (by decide +kernel) ⟨Nat.le_of_ble_eq_true rfl, Nat.le_of_ble_eq_true rfl⟩) ⟨fun a U g mk q => by obtain ⟨q0, q1, qP, qK, qD⟩ := q; exact ⟨q0, q1, qP, va_K.moved (u := U) (U := U.calling g mk a) (Vm.Alike.refl U.vm) qK, qD⟩, va_recv hKc hPc (ci := 10) (q0 := 0) rfl rfl, fun U hU hW => ⟨rfl, by rw [hU], by rw [hU]; exact hPc, va_K.moved hW.alike hKc, hDc.weaken (fun _ _ _ _ => trivial)⟩⟩ rfl rfl hl.1 rfl (lv_room (Nat.le_of_ble_eq_true rfl)) dX10_registerOf_10 ⟨by decide, by decide⟩) hS (fun q _ h => hFc q h) hFc (fun r4 u5 t H1 locs ht hvm hw hB hz1 hk1 hS => ?_)
  obtain ⟨hP1, hK1, hD1⟩ := hB
  rw [ht] at hP1
  have hK1 := va_K.moved hvm.symm hK1
  obtain ⟨hP, hD⟩ := nv_join (wf := [(h0, .inr (10, [.ref h1, .ref h2, .ref h3, .ref h4, .ref h5, .ref h6, .int x2, .int x3, .int x4, .int x5, .int x6, .long z0])), (h6, .inl (y0, 2600, .inl f0))]) hP hD [0, 1] [] rfl rfl (by decide) (by decide) hk1 hFc hP1 hD1 rfl
  have hK := (hK.sub (tys' := []) [] rfl).app hK1
  generalize H1 = H at hP hS ⊢
  have hK : va_K (dC, dI) vwCl [(y0, .int)] s := hK
  refine lv_istore (lv' := [(4, .int r4), (3, .int r1), (0, .ref h0), (1, .int x0), (2, .int x1)]) hx hb dX10_registerOf_13 hl (by decide) rfl (fun ls hl => ?_)
  refine lv_iload_n hx hb dX10_registerOf_15 rfl (lv_at hl 4 rfl) ?_
  refine lv_iconst (v := 2) hx hb dX10_registerOf_16 (by decide) ?_
  refine lv_icmp_ne (tgt := 95) hx hb dX10_registerOf_17 (by decide) (fun c6 => ?_) (fun c6 => ?_)
  · skip
    refine lv_aload_n hx hb dX10_registerOf_95 rfl (lv_at hl 2 rfl) ?_
    refine lv_iload_n hx hb dX10_registerOf_96 rfl (lv_at hl 3 rfl) ?_
    refine lv_iconst (v := 2) hx hb dX10_registerOf_97 (by decide) ?_
    refine lv_iadd hx hb dX10_registerOf_98 ?_
    refine lv_topi (fun v7 ev7 => ?_)
    obtain ⟨hPc, hDc, hFc⟩ := nv_sub3 (wc := [(h0, .inr (10, [.ref h1, .ref h2, .ref h3, .ref h4, .ref h5, .ref h6, .int x2, .int x3, .int x4, .int x5, .int x6, .long z0])), (h6, .inl (y0, 2600, .inl f0))]) hP hD hS hA [0, 1] (by decide) rfl
    have hKc := hK.sub (tys' := [(y0, .int)]) [0] rfl
    refine va_calli (va_runV (As := [.int v7]) (rest := []) ⟨hx, hb, hml, hown, hG⟩ (cX10_sign_1 l dC dI h0 h1 h2 h3 h4 h5 h6 y0 H.size v7 x2 x3 x4 x5 x6 z0 f0 ix2 ix3 ix4) (cwV 1 hG (gV wd_449 wd_451 wp_3 wd_11 wd_452) rfl rfl rfl (by decide +kernel) ⟨Nat.le_of_ble_eq_true rfl, Nat.le_of_ble_eq_true rfl⟩) ⟨fun a U g mk q => by obtain ⟨q0, q1, qP, qK, qD⟩ := q; exact ⟨q0, q1, qP, va_K.moved (u := U) (U := U.calling g mk a) (Vm.Alike.refl U.vm) qK, qD⟩, va_recv hKc hPc (ci := 10) (q0 := 0) rfl rfl, fun U hU hW => ⟨rfl, by rw [hU], by rw [hU]; exact hPc, va_K.moved hW.alike hKc, hDc.weaken (fun _ _ _ _ => trivial)⟩⟩ rfl rfl hl.1 rfl (lv_room (Nat.le_of_ble_eq_true rfl)) dX10_registerOf_99 ⟨by decide, by decide⟩) hS (fun q _ h => hFc q h) hFc (fun r8 u9 t H1 locs ht hvm hw hB hz1 hk1 hS => ?_)
    obtain ⟨hP1, hK1, hD1⟩ := hB
    rw [ht] at hP1
    have hK1 := va_K.moved hvm.symm hK1
    obtain ⟨hP, hD⟩ := nv_join (wf := [(h0, .inr (10, [.ref h1, .ref h2, .ref h3, .ref h4, .ref h5, .ref h6, .int x2, .int x3, .int x4, .int x5, .int x6, .long z0])), (h6, .inl (y0, 2600, .inl f0))]) hP hD [0, 1] [] rfl rfl (by decide) (by decide) hk1 hFc hP1 hD1 rfl
    have hK := (hK.sub (tys' := []) [] rfl).app hK1
    generalize H1 = H at hP hS ⊢
    have hK : va_K (dC, dI) vwCl [(y0, .int)] s := hK
    refine lv_istore (lv' := [(5, .int r8), (4, .int r4), (3, .int r1), (0, .ref h0), (1, .int x0), (2, .int x1)]) hx hb dX10_registerOf_102 hl (by decide) rfl (fun ls hl => ?_)
    refine lv_iload_n hx hb dX10_registerOf_104 rfl (lv_at hl 5 rfl) ?_
    refine lv_iconst (v := 3) hx hb dX10_registerOf_105 (by decide) ?_
    refine jcut (a := ∀ (b19 : Int32) (ib19 : iv b19 0 1) (H : Heap) (locs : List Loc) (hK : va_K (dC, dI) vwCl [(y0, .int)] s) (hP : va_P (dC, dI) vwCl [(h0, .inr (10, [.ref h1, .ref h2, .ref h3, .ref h4, .ref h5, .ref h6, .int x2, .int x3, .int x4, .int x5, .int x6, .long z0])), (h6, .inl (y0, 2600, .inl f0))] H) (hD : va_D A [(h0, .inr (10, [.ref h1, .ref h2, .ref h3, .ref h4, .ref h5, .ref h6, .int x2, .int x3, .int x4, .int x5, .int x6, .long z0])), (h6, .inl (y0, 2600, .inl f0))]) (hS : va_S A s.heap H locs) (ls : Array Slot) (hl : lv_has ls 7 [(5, .int r8)]), W p l e (headSpec (Cond.code yX10_registerOf cX10_registerOf 7 (some .int) :: lw_G) ({ frames := 1, cells := 0, slots := 0, locals := 21 })).room s m ar below meth c H locs 0 0 Q (F0 m 141 ls [.int b19])) ?_ (fun j20 => ?_)
    · skip
      intro b19 ib19 H locs hK hP hD hS ls hl
      refine lv_istore (lv' := [(6, .int b19), (5, .int r8)]) hx hb dX10_registerOf_141 hl (by decide) rfl (fun ls hl => ?_)
      refine lv_iload hx hb dX10_registerOf_143 (lv_at hl 0 rfl) ?_
      refine jcut (a := ∀ (b25 : Int32) (H : Heap) (locs : List Loc) (hK : va_K (dC, dI) vwCl [(y0, .int)] s) (hP : va_P (dC, dI) vwCl [(h0, .inr (10, [.ref h1, .ref h2, .ref h3, .ref h4, .ref h5, .ref h6, .int x2, .int x3, .int x4, .int x5, .int x6, .long z0])), (h6, .inl (y0, 2600, .inl f0))] H) (hD : va_D A [(h0, .inr (10, [.ref h1, .ref h2, .ref h3, .ref h4, .ref h5, .ref h6, .int x2, .int x3, .int x4, .int x5, .int x6, .long z0])), (h6, .inl (y0, 2600, .inl f0))]) (hS : va_S A s.heap H locs) (ls : Array Slot) (hl : lv_has ls 7 []), W p l e (headSpec (Cond.code yX10_registerOf cX10_registerOf 7 (some .int) :: lw_G) ({ frames := 1, cells := 0, slots := 0, locals := 21 })).room s m ar below meth c H locs 0 0 Q (F0 m 160 ls [.int b25])) ?_ (fun j26 => ?_)
      · skip
        intro b25 H locs hK hP hD hS ls hl
        rw [hQ]
        obtain ⟨hP9, hD9⟩ := nv_sub2 (wc := [(h0, .inr (10, [.ref h1, .ref h2, .ref h3, .ref h4, .ref h5, .ref h6, .int x2, .int x3, .int x4, .int x5, .int x6, .long z0])), (h6, .inl (y0, 2600, .inl f0))]) hP hD [0, 1] (by decide) rfl
        have hK9 := hK.sub (tys' := [(y0, .int)]) [0] rfl
        exact W.iret (v := b25) hx hb hr (fun t ht hW => ⟨⟨b25, (), rfl, trivial, by rw [ht]; exact hP9, va_K.moved hW.alike hK9, hD9⟩, hS.F ht⟩) hS.2.2 dX10_registerOf_160
      refine lv_if_eq (tgt := 159) hx hb dX10_registerOf_145 (by decide) (fun c21 => ?_) (fun c21 => ?_)
      · skip
        subst c21
        refine lv_iconst (v := (-1)) hx hb dX10_registerOf_159 (by decide) ?_
        exact j26 (-1) _ _ hK hP hD hS ls (lv_sub hl [] rfl)
      · skip
        have j27 : iv b19 1 1 := iv_neLo ib19 (by decide : iv 0 0 0) c21 (by decide)
        refine lv_bipush (v := 10) hx hb dX10_registerOf_148 (by decide) ?_
        refine lv_iload hx hb dX10_registerOf_150 (lv_at hl 1 rfl) ?_
        refine lv_iadd hx hb dX10_registerOf_152 ?_
        refine lv_topi (fun v28 ev28 => ?_)
        refine lv_bipush (v := 48) hx hb dX10_registerOf_153 (by decide) ?_
        refine lv_isub hx hb dX10_registerOf_155 ?_
        refine lv_topi (fun v29 ev29 => ?_)
        refine lv_goto (tgt := 160) hx hb dX10_registerOf_156 (by decide) ?_
        exact j26 v29 _ _ hK hP hD hS ls (lv_sub hl [] rfl)
    refine lv_icmp_ne (tgt := 140) hx hb dX10_registerOf_106 (by decide) (fun c10 => ?_) (fun c10 => ?_)
    · skip
      refine lv_iconst (v := 0) hx hb dX10_registerOf_140 (by decide) ?_
      exact j20 0 (iv_w (by decide : iv 0 0 0) (by decide) (by decide)) _ _ hK hP hD hS ls (lv_sub hl [0] rfl)
    · skip
      subst c10
      refine lv_iload_n hx hb dX10_registerOf_109 rfl (lv_at hl 2 rfl) ?_
      refine lv_bipush (v := 114) hx hb dX10_registerOf_110 (by decide) ?_
      refine lv_icmp_ne (tgt := 140) hx hb dX10_registerOf_112 (by decide) (fun c30 => ?_) (fun c30 => ?_)
      · skip
        refine lv_iconst (v := 0) hx hb dX10_registerOf_140 (by decide) ?_
        exact j20 0 (iv_w (by decide : iv 0 0 0) (by decide) (by decide)) _ _ hK hP hD hS ls (lv_sub hl [0] rfl)
      · skip
        subst c30
        refine lv_iload hx hb dX10_registerOf_115 (lv_at hl 1 rfl) ?_
        refine lv_bipush (v := 49) hx hb dX10_registerOf_117 (by decide) ?_
        refine lv_icmp_ne (tgt := 140) hx hb dX10_registerOf_119 (by decide) (fun c31 => ?_) (fun c31 => ?_)
        · skip
          refine lv_iconst (v := 0) hx hb dX10_registerOf_140 (by decide) ?_
          exact j20 0 (iv_w (by decide : iv 0 0 0) (by decide) (by decide)) _ _ hK hP hD hS ls (lv_sub hl [0] rfl)
        · skip
          subst c31
          refine lv_iload hx hb dX10_registerOf_122 (lv_at hl 0 rfl) ?_
          refine lv_bipush (v := 48) hx hb dX10_registerOf_124 (by decide) ?_
          refine lv_icmp_lt (tgt := 140) hx hb dX10_registerOf_126 (by decide) (fun c32 => ?_) (fun c32 => ?_)
          · skip
            have j33 : iv r8 (-2147483648) 47 := iv_ltL (iv_any r8) (by decide : iv 48 48 48) c32 (by decide)
            refine lv_iconst (v := 0) hx hb dX10_registerOf_140 (by decide) ?_
            exact j20 0 (iv_w (by decide : iv 0 0 0) (by decide) (by decide)) _ _ hK hP hD hS ls (lv_sub hl [0] rfl)
          · skip
            have j34 : iv r8 48 2147483647 := iv_nltL (iv_any r8) (by decide : iv 48 48 48) c32 (by decide)
            refine lv_iload hx hb dX10_registerOf_129 (lv_at hl 0 rfl) ?_
            refine lv_bipush (v := 53) hx hb dX10_registerOf_131 (by decide) ?_
            refine lv_icmp_gt (tgt := 140) hx hb dX10_registerOf_133 (by decide) (fun c35 => ?_) (fun c35 => ?_)
            · skip
              have j36 : iv r8 54 2147483647 := iv_ltR (by decide : iv 53 53 53) j34 c35 (by decide)
              refine lv_iconst (v := 0) hx hb dX10_registerOf_140 (by decide) ?_
              exact j20 0 (iv_w (by decide : iv 0 0 0) (by decide) (by decide)) _ _ hK hP hD hS ls (lv_sub hl [0] rfl)
            · skip
              have j37 : iv r8 48 53 := iv_nltR (by decide : iv 53 53 53) j34 c35 (by decide)
              refine lv_iconst (v := 1) hx hb dX10_registerOf_136 (by decide) ?_
              refine lv_goto (tgt := 141) hx hb dX10_registerOf_137 (by decide) ?_
              exact j20 1 (iv_w (by decide : iv 1 1 1) (by decide) (by decide)) _ _ hK hP hD hS ls (lv_sub hl [0] rfl)
  · skip
    subst c6
    refine lv_iload_n hx hb dX10_registerOf_20 rfl (lv_at hl 1 rfl) ?_
    refine lv_bipush (v := 114) hx hb dX10_registerOf_21 (by decide) ?_
    refine lv_icmp_ne (tgt := 46) hx hb dX10_registerOf_23 (by decide) (fun c38 => ?_) (fun c38 => ?_)
    · skip
      refine lv_iload_n hx hb dX10_registerOf_46 rfl (lv_at hl 1 rfl) ?_
      refine lv_bipush (v := 112) hx hb dX10_registerOf_47 (by decide) ?_
      refine lv_icmp_ne (tgt := 61) hx hb dX10_registerOf_49 (by decide) (fun c39 => ?_) (fun c39 => ?_)
      · skip
        refine lv_iload_n hx hb dX10_registerOf_61 rfl (lv_at hl 1 rfl) ?_
        refine lv_bipush (v := 115) hx hb dX10_registerOf_62 (by decide) ?_
        refine lv_icmp_ne (tgt := 76) hx hb dX10_registerOf_64 (by decide) (fun c40 => ?_) (fun c40 => ?_)
        · skip
          refine lv_iload_n hx hb dX10_registerOf_76 rfl (lv_at hl 1 rfl) ?_
          refine lv_bipush (v := 115) hx hb dX10_registerOf_77 (by decide) ?_
          refine lv_icmp_ne (tgt := 93) hx hb dX10_registerOf_79 (by decide) (fun _ => ?_) (fun c => absurd c c40)
          refine lv_iconst (v := (-1)) hx hb dX10_registerOf_93 (by decide) ?_
          rw [hQ]
          obtain ⟨hP9, hD9⟩ := nv_sub2 (wc := [(h0, .inr (10, [.ref h1, .ref h2, .ref h3, .ref h4, .ref h5, .ref h6, .int x2, .int x3, .int x4, .int x5, .int x6, .long z0])), (h6, .inl (y0, 2600, .inl f0))]) hP hD [0, 1] (by decide) rfl
          have hK9 := hK.sub (tys' := [(y0, .int)]) [0] rfl
          exact W.iret (v := (-1)) hx hb hr (fun t ht hW => ⟨⟨(-1), (), rfl, trivial, by rw [ht]; exact hP9, va_K.moved hW.alike hK9, hD9⟩, hS.F ht⟩) hS.2.2 dX10_registerOf_94
        · skip
          subst c40
          refine lv_iload hx hb dX10_registerOf_67 (lv_at hl 0 rfl) ?_
          refine lv_bipush (v := 112) hx hb dX10_registerOf_69 (by decide) ?_
          refine lv_icmp_ne (tgt := 76) hx hb dX10_registerOf_71 (by decide) (fun c41 => ?_) (fun c41 => ?_)
          · skip
            refine lv_iload_n hx hb dX10_registerOf_76 rfl (lv_at hl 1 rfl) ?_
            refine lv_bipush (v := 115) hx hb dX10_registerOf_77 (by decide) ?_
            refine lv_icmp_ne (tgt := 93) hx hb dX10_registerOf_79 (by decide) (fun c => absurd (by decide) c) (fun _ => ?_)
            refine lv_iload hx hb dX10_registerOf_82 (lv_at hl 0 rfl) ?_
            refine lv_bipush (v := 114) hx hb dX10_registerOf_84 (by decide) ?_
            refine jcut (a := ∀ (b43 : Int32) (ib43 : iv b43 (-1) 2) (H : Heap) (locs : List Loc) (hK : va_K (dC, dI) vwCl [(y0, .int)] s) (hP : va_P (dC, dI) vwCl [(h0, .inr (10, [.ref h1, .ref h2, .ref h3, .ref h4, .ref h5, .ref h6, .int x2, .int x3, .int x4, .int x5, .int x6, .long z0])), (h6, .inl (y0, 2600, .inl f0))] H) (hD : va_D A [(h0, .inr (10, [.ref h1, .ref h2, .ref h3, .ref h4, .ref h5, .ref h6, .int x2, .int x3, .int x4, .int x5, .int x6, .long z0])), (h6, .inl (y0, 2600, .inl f0))]) (hS : va_S A s.heap H locs) (ls : Array Slot) (hl : lv_has ls 7 []), W p l e (headSpec (Cond.code yX10_registerOf cX10_registerOf 7 (some .int) :: lw_G) ({ frames := 1, cells := 0, slots := 0, locals := 21 })).room s m ar below meth c H locs 0 0 Q (F0 m 94 ls [.int b43])) ?_ (fun j44 => ?_)
            · skip
              intro b43 ib43 H locs hK hP hD hS ls hl
              rw [hQ]
              obtain ⟨hP9, hD9⟩ := nv_sub2 (wc := [(h0, .inr (10, [.ref h1, .ref h2, .ref h3, .ref h4, .ref h5, .ref h6, .int x2, .int x3, .int x4, .int x5, .int x6, .long z0])), (h6, .inl (y0, 2600, .inl f0))]) hP hD [0, 1] (by decide) rfl
              have hK9 := hK.sub (tys' := [(y0, .int)]) [0] rfl
              exact W.iret (v := b43) hx hb hr (fun t ht hW => ⟨⟨b43, (), rfl, trivial, by rw [ht]; exact hP9, va_K.moved hW.alike hK9, hD9⟩, hS.F ht⟩) hS.2.2 dX10_registerOf_94
            refine lv_icmp_ne (tgt := 93) hx hb dX10_registerOf_86 (by decide) (fun c42 => ?_) (fun c42 => ?_)
            · skip
              refine lv_iconst (v := (-1)) hx hb dX10_registerOf_93 (by decide) ?_
              exact j44 (-1) (iv_w (by decide : iv (-1) (-1) (-1)) (by decide) (by decide)) _ _ hK hP hD hS ls (lv_sub hl [] rfl)
            · skip
              subst c42
              refine lv_iconst (v := 2) hx hb dX10_registerOf_89 (by decide) ?_
              refine lv_goto (tgt := 94) hx hb dX10_registerOf_90 (by decide) ?_
              exact j44 2 (iv_w (by decide : iv 2 2 2) (by decide) (by decide)) _ _ hK hP hD hS ls (lv_sub hl [] rfl)
          · skip
            subst c41
            refine lv_iconst (v := 1) hx hb dX10_registerOf_74 (by decide) ?_
            rw [hQ]
            obtain ⟨hP9, hD9⟩ := nv_sub2 (wc := [(h0, .inr (10, [.ref h1, .ref h2, .ref h3, .ref h4, .ref h5, .ref h6, .int x2, .int x3, .int x4, .int x5, .int x6, .long z0])), (h6, .inl (y0, 2600, .inl f0))]) hP hD [0, 1] (by decide) rfl
            have hK9 := hK.sub (tys' := [(y0, .int)]) [0] rfl
            exact W.iret (v := 1) hx hb hr (fun t ht hW => ⟨⟨1, (), rfl, trivial, by rw [ht]; exact hP9, va_K.moved hW.alike hK9, hD9⟩, hS.F ht⟩) hS.2.2 dX10_registerOf_75
      · skip
        subst c39
        refine lv_iload hx hb dX10_registerOf_52 (lv_at hl 0 rfl) ?_
        refine lv_bipush (v := 99) hx hb dX10_registerOf_54 (by decide) ?_
        refine lv_icmp_ne (tgt := 61) hx hb dX10_registerOf_56 (by decide) (fun c45 => ?_) (fun c45 => ?_)
        · skip
          refine lv_iload_n hx hb dX10_registerOf_61 rfl (lv_at hl 1 rfl) ?_
          refine lv_bipush (v := 115) hx hb dX10_registerOf_62 (by decide) ?_
          refine lv_icmp_ne (tgt := 76) hx hb dX10_registerOf_64 (by decide) (fun _ => ?_) (fun c => absurd c (by decide))
          refine lv_iload_n hx hb dX10_registerOf_76 rfl (lv_at hl 1 rfl) ?_
          refine lv_bipush (v := 115) hx hb dX10_registerOf_77 (by decide) ?_
          refine lv_icmp_ne (tgt := 93) hx hb dX10_registerOf_79 (by decide) (fun _ => ?_) (fun c => absurd c (by decide))
          refine lv_iconst (v := (-1)) hx hb dX10_registerOf_93 (by decide) ?_
          rw [hQ]
          obtain ⟨hP9, hD9⟩ := nv_sub2 (wc := [(h0, .inr (10, [.ref h1, .ref h2, .ref h3, .ref h4, .ref h5, .ref h6, .int x2, .int x3, .int x4, .int x5, .int x6, .long z0])), (h6, .inl (y0, 2600, .inl f0))]) hP hD [0, 1] (by decide) rfl
          have hK9 := hK.sub (tys' := [(y0, .int)]) [0] rfl
          exact W.iret (v := (-1)) hx hb hr (fun t ht hW => ⟨⟨(-1), (), rfl, trivial, by rw [ht]; exact hP9, va_K.moved hW.alike hK9, hD9⟩, hS.F ht⟩) hS.2.2 dX10_registerOf_94
        · skip
          subst c45
          refine lv_iconst (v := 0) hx hb dX10_registerOf_59 (by decide) ?_
          rw [hQ]
          obtain ⟨hP9, hD9⟩ := nv_sub2 (wc := [(h0, .inr (10, [.ref h1, .ref h2, .ref h3, .ref h4, .ref h5, .ref h6, .int x2, .int x3, .int x4, .int x5, .int x6, .long z0])), (h6, .inl (y0, 2600, .inl f0))]) hP hD [0, 1] (by decide) rfl
          have hK9 := hK.sub (tys' := [(y0, .int)]) [0] rfl
          exact W.iret (v := 0) hx hb hr (fun t ht hW => ⟨⟨0, (), rfl, trivial, by rw [ht]; exact hP9, va_K.moved hW.alike hK9, hD9⟩, hS.F ht⟩) hS.2.2 dX10_registerOf_60
    · skip
      subst c38
      refine lv_iload hx hb dX10_registerOf_26 (lv_at hl 0 rfl) ?_
      refine lv_bipush (v := 48) hx hb dX10_registerOf_28 (by decide) ?_
      refine lv_icmp_lt (tgt := 46) hx hb dX10_registerOf_30 (by decide) (fun c46 => ?_) (fun c46 => ?_)
      · skip
        have j47 : iv r4 (-2147483648) 47 := iv_ltL (iv_any r4) (by decide : iv 48 48 48) c46 (by decide)
        refine lv_iload_n hx hb dX10_registerOf_46 rfl (lv_at hl 1 rfl) ?_
        refine lv_bipush (v := 112) hx hb dX10_registerOf_47 (by decide) ?_
        refine lv_icmp_ne (tgt := 61) hx hb dX10_registerOf_49 (by decide) (fun _ => ?_) (fun c => absurd c (by decide))
        refine lv_iload_n hx hb dX10_registerOf_61 rfl (lv_at hl 1 rfl) ?_
        refine lv_bipush (v := 115) hx hb dX10_registerOf_62 (by decide) ?_
        refine lv_icmp_ne (tgt := 76) hx hb dX10_registerOf_64 (by decide) (fun _ => ?_) (fun c => absurd c (by decide))
        refine lv_iload_n hx hb dX10_registerOf_76 rfl (lv_at hl 1 rfl) ?_
        refine lv_bipush (v := 115) hx hb dX10_registerOf_77 (by decide) ?_
        refine lv_icmp_ne (tgt := 93) hx hb dX10_registerOf_79 (by decide) (fun _ => ?_) (fun c => absurd c (by decide))
        refine lv_iconst (v := (-1)) hx hb dX10_registerOf_93 (by decide) ?_
        rw [hQ]
        obtain ⟨hP9, hD9⟩ := nv_sub2 (wc := [(h0, .inr (10, [.ref h1, .ref h2, .ref h3, .ref h4, .ref h5, .ref h6, .int x2, .int x3, .int x4, .int x5, .int x6, .long z0])), (h6, .inl (y0, 2600, .inl f0))]) hP hD [0, 1] (by decide) rfl
        have hK9 := hK.sub (tys' := [(y0, .int)]) [0] rfl
        exact W.iret (v := (-1)) hx hb hr (fun t ht hW => ⟨⟨(-1), (), rfl, trivial, by rw [ht]; exact hP9, va_K.moved hW.alike hK9, hD9⟩, hS.F ht⟩) hS.2.2 dX10_registerOf_94
      · skip
        have j48 : iv r4 48 2147483647 := iv_nltL (iv_any r4) (by decide : iv 48 48 48) c46 (by decide)
        refine lv_iload hx hb dX10_registerOf_33 (lv_at hl 0 rfl) ?_
        refine lv_bipush (v := 57) hx hb dX10_registerOf_35 (by decide) ?_
        refine lv_icmp_gt (tgt := 46) hx hb dX10_registerOf_37 (by decide) (fun c49 => ?_) (fun c49 => ?_)
        · skip
          have j50 : iv r4 58 2147483647 := iv_ltR (by decide : iv 57 57 57) j48 c49 (by decide)
          refine lv_iload_n hx hb dX10_registerOf_46 rfl (lv_at hl 1 rfl) ?_
          refine lv_bipush (v := 112) hx hb dX10_registerOf_47 (by decide) ?_
          refine lv_icmp_ne (tgt := 61) hx hb dX10_registerOf_49 (by decide) (fun _ => ?_) (fun c => absurd c (by decide))
          refine lv_iload_n hx hb dX10_registerOf_61 rfl (lv_at hl 1 rfl) ?_
          refine lv_bipush (v := 115) hx hb dX10_registerOf_62 (by decide) ?_
          refine lv_icmp_ne (tgt := 76) hx hb dX10_registerOf_64 (by decide) (fun _ => ?_) (fun c => absurd c (by decide))
          refine lv_iload_n hx hb dX10_registerOf_76 rfl (lv_at hl 1 rfl) ?_
          refine lv_bipush (v := 115) hx hb dX10_registerOf_77 (by decide) ?_
          refine lv_icmp_ne (tgt := 93) hx hb dX10_registerOf_79 (by decide) (fun _ => ?_) (fun c => absurd c (by decide))
          refine lv_iconst (v := (-1)) hx hb dX10_registerOf_93 (by decide) ?_
          rw [hQ]
          obtain ⟨hP9, hD9⟩ := nv_sub2 (wc := [(h0, .inr (10, [.ref h1, .ref h2, .ref h3, .ref h4, .ref h5, .ref h6, .int x2, .int x3, .int x4, .int x5, .int x6, .long z0])), (h6, .inl (y0, 2600, .inl f0))]) hP hD [0, 1] (by decide) rfl
          have hK9 := hK.sub (tys' := [(y0, .int)]) [0] rfl
          exact W.iret (v := (-1)) hx hb hr (fun t ht hW => ⟨⟨(-1), (), rfl, trivial, by rw [ht]; exact hP9, va_K.moved hW.alike hK9, hD9⟩, hS.F ht⟩) hS.2.2 dX10_registerOf_94
        · skip
          have j51 : iv r4 48 57 := iv_nltR (by decide : iv 57 57 57) j48 c49 (by decide)
          refine lv_iload hx hb dX10_registerOf_40 (lv_at hl 0 rfl) ?_
          refine lv_bipush (v := 48) hx hb dX10_registerOf_42 (by decide) ?_
          refine lv_isub hx hb dX10_registerOf_44 ?_
          refine lv_topi (fun v52 ev52 => ?_)
          have iv52 : iv v52 0 9 := iv_eq ev52 (iv_sub j51 (by decide : iv 48 48 48) (by decide) (by decide))
          have tv52 : v52.toInt = r4.toInt + (-48) := iv_subT ev52 j51 (by decide) (by decide) (by decide)
          rw [hQ]
          obtain ⟨hP9, hD9⟩ := nv_sub2 (wc := [(h0, .inr (10, [.ref h1, .ref h2, .ref h3, .ref h4, .ref h5, .ref h6, .int x2, .int x3, .int x4, .int x5, .int x6, .long z0])), (h6, .inl (y0, 2600, .inl f0))]) hP hD [0, 1] (by decide) rfl
          have hK9 := hK.sub (tys' := [(y0, .int)]) [0] rfl
          exact W.iret (v := v52) hx hb hr (fun t ht hW => ⟨⟨v52, (), rfl, trivial, by rw [ht]; exact hP9, va_K.moved hW.alike hK9, hD9⟩, hS.F ht⟩) hS.2.2 dX10_registerOf_45
set_option maxHeartbeats 100000000 in
set_option maxRecDepth 100000 in
theorem cX10_nameOf_1 (l : Launch) (dC : Nat → ClassId) (dI : Nat → Nat → Nat) (h0 h1 h2 h3 h4 h5 h6 : Nat) (y0 : ClassId) (sz : Nat) (x0 x1 x2 x3 x4 : Int32) (z0 z1 : Int64) (g0 : Nat → Int64) (ix0 : iv x0 0 2600) (ix1 : iv x1 0 2501) (ix2 : iv x2 0 2500) : Met l yX10_nameOf (Cond.code yX10_nameOf cX10_nameOf 4 (some .int) :: lw_G) ({ frames := 0, cells := 0, slots := 0, locals := 0 }) (va_Pc [.ref h0, .long z0] (fun U => U.heap.size = sz ∧ va_P (dC, dI) vwCl [(h0, .inr (10, [.ref h1, .ref h2, .ref h3, .ref h4, .ref h5, .ref h6, .int x0, .int x1, .int x2, .int x3, .int x4, .long z1])), (h5, .inl (y0, 35, .inr (.inl g0)))] U.heap ∧ va_K (dC, dI) vwCl [(y0, .long)] U ∧ va_D (fun _ => True) [(h0, .inr (10, [.ref h1, .ref h2, .ref h3, .ref h4, .ref h5, .ref h6, .int x0, .int x1, .int x2, .int x3, .int x4, .long z1])), (h5, .inl (y0, 35, .inr (.inl g0)))])) (va_Qi (fun (r : Int32) (u : Unit) => iv r (-1) 34 ∧ True) (fun (u : Unit) (t : State) => va_P (dC, dI) vwCl [(h0, .inr (10, [.ref h1, .ref h2, .ref h3, .ref h4, .ref h5, .ref h6, .int x0, .int x1, .int x2, .int x3, .int x4, .long z1])), (h5, .inl (y0, 35, .inr (.inl g0)))] t.heap ∧ va_K (dC, dI) vwCl [(y0, .long)] t ∧ va_D (va_A [(h0, .inr (10, [.ref h1, .ref h2, .ref h3, .ref h4, .ref h5, .ref h6, .int x0, .int x1, .int x2, .int x3, .int x4, .long z1])), (h5, .inl (y0, 35, .inr (.inl g0)))] sz) [(h0, .inr (10, [.ref h1, .ref h2, .ref h3, .ref h4, .ref h5, .ref h6, .int x0, .int x1, .int x2, .int x3, .int x4, .long z1])), (h5, .inl (y0, 35, .inr (.inl g0)))]) (va_A [(h0, .inr (10, [.ref h1, .ref h2, .ref h3, .ref h4, .ref h5, .ref h6, .int x0, .int x1, .int x2, .int x3, .int x4, .long z1])), (h5, .inl (y0, 35, .inr (.inl g0)))] sz)) 0 0 (va_A [(h0, .inr (10, [.ref h1, .ref h2, .ref h3, .ref h4, .ref h5, .ref h6, .int x0, .int x1, .int x2, .int x3, .int x4, .long z1])), (h5, .inl (y0, 35, .inr (.inl g0)))] sz) := by
  refine Met.ofW (cc := cX10_nameOf) (maxL := 4) (ret := (some .int)) (by decide) rfl ?_
  intro p e s m args below meth c s₁ B hml hv
  obtain ⟨rfl, hsz, hP, hK, hD0⟩ := hv
  have hx := B.exec
  have hb := B.bytes
  have hr := B.returns
  have hts0 := atoms_spec (ws := Cond.code yX10_nameOf cX10_nameOf 4 (some .int) :: lw_G) B.pre
  have hG : ∀ w ∈ lw_G, w.before _ s = true := fun w h => hts0 w (List.mem_cons_of_mem _ h)
  have hown : s.vm.findClass RX10 = some m.cls := findClass_of_methodNamed B.named
  have hlocks := B.notSynchronized
  subst hsz
  have hD := hD0.self (sz := s.heap.size)
  generalize hAe : va_A [(h0, .inr (10, [.ref h1, .ref h2, .ref h3, .ref h4, .ref h5, .ref h6, .int x0, .int x1, .int x2, .int x3, .int x4, .long z1])), (h5, .inl (y0, 35, .inr (.inl g0)))] s.heap.size = A at hD ⊢
  have hA : ∀ q : Nat, s.heap.size ≤ q → A q := fun q h => by rw [← hAe]; exact Or.inr h
  have hS : va_S A s.heap s.heap [] := va_S.rf
  have hP : va_P (dC, dI) vwCl [(h0, .inr (10, [.ref h1, .ref h2, .ref h3, .ref h4, .ref h5, .ref h6, .int x0, .int x1, .int x2, .int x3, .int x4, .long z1])), (h5, .inl (y0, 35, .inr (.inl g0)))] s.heap := hP
  have hl := lv_entry ([.ref h0, .long z0]) (n := 4) (Nat.le_of_ble_eq_true rfl)
  rw [lg_entry_eq]
  generalize (lg_sl ([.ref h0, .long z0]) ++ List.replicate (4 - (lg_sl ([.ref h0, .long z0])).length) Slot.unset).toArray = ls at hl ⊢
  have hl : lv_has ls 4 [(0, .ref h0), (1, .long z0)] := hl
  generalize ([.ref h0, .long z0] : List Value).toArray = ar at hG ⊢
  refine wq (fun Q hQ => ?_)
  refine lv_iconst (v := 0) hx hb dX10_nameOf_0 (by decide) ?_
  refine lv_istore_n (lv' := [(3, .int 0), (0, .ref h0), (1, .long z0)]) hx hb dX10_nameOf_1 rfl hl (by decide) rfl (fun ls hl => ?_)
  refine jcut (a := ∀ (n : Nat) (b64 : Int32) (ib64 : iv b64 0 35) (hm : (35 - b64.toInt).toNat < n) (H : Heap) (locs : List Loc) (hK : va_K (dC, dI) vwCl [(y0, .long)] s) (hP : va_P (dC, dI) vwCl [(h0, .inr (10, [.ref h1, .ref h2, .ref h3, .ref h4, .ref h5, .ref h6, .int x0, .int x1, .int x2, .int x3, .int x4, .long z1])), (h5, .inl (y0, 35, .inr (.inl g0)))] H) (hD : va_D A [(h0, .inr (10, [.ref h1, .ref h2, .ref h3, .ref h4, .ref h5, .ref h6, .int x0, .int x1, .int x2, .int x3, .int x4, .long z1])), (h5, .inl (y0, 35, .inr (.inl g0)))]) (hS : va_S A s.heap H locs) (ls : Array Slot) (hl : lv_has ls 4 [(3, .int b64), (0, .ref h0), (1, .long z0)]), W p l e (headSpec (Cond.code yX10_nameOf cX10_nameOf 4 (some .int) :: lw_G) ({ frames := 0, cells := 0, slots := 0, locals := 0 })).room s m ar below meth c H locs 0 0 Q (F0 m 2 ls [])) ?_ (fun lp73 => ?_)
  · skip
    intro n
    induction n with
    | zero => intro b64 ib64 hm H locs hK hP hD hS ls hl; exact absurd hm (Nat.not_lt_zero _)
    | succ n ih =>
      intro b64 ib64 hm H locs hK hP hD hS ls hl
      refine lv_iload_n hx hb dX10_nameOf_2 rfl (lv_at hl 0 rfl) ?_
      refine lv_bipush (v := 35) hx hb dX10_nameOf_3 (by decide) ?_
      refine lv_icmp_ge (tgt := 27) hx hb dX10_nameOf_5 (by decide) (fun c74 => ?_) (fun c74 => ?_)
      · skip
        have j75 : iv b64 35 35 := iv_leR (by decide : iv 35 35 35) ib64 c74 (by decide)
        refine lv_iconst (v := (-1)) hx hb dX10_nameOf_27 (by decide) ?_
        rw [hQ]
        obtain ⟨hP9, hD9⟩ := nv_sub2 (wc := [(h0, .inr (10, [.ref h1, .ref h2, .ref h3, .ref h4, .ref h5, .ref h6, .int x0, .int x1, .int x2, .int x3, .int x4, .long z1])), (h5, .inl (y0, 35, .inr (.inl g0)))]) hP hD [0, 1] (by decide) rfl
        have hK9 := hK.sub (tys' := [(y0, .long)]) [0] rfl
        exact W.iret (v := (-1)) hx hb hr (fun t ht hW => ⟨⟨(-1), (), rfl, ⟨iv_w (by decide : iv (-1) (-1) (-1)) (by decide) (by decide), trivial⟩, by rw [ht]; exact hP9, va_K.moved hW.alike hK9, hD9⟩, hS.F ht⟩) hS.2.2 dX10_nameOf_28
      · skip
        have j76 : iv b64 0 34 := iv_nleR (by decide : iv 35 35 35) ib64 c74 (by decide)
        refine lv_aload_n hx hb dX10_nameOf_8 rfl (lv_at hl 1 rfl) ?_
        refine va_get (D := (dC, dI)) (ci := 10) (v := .ref h5) (C := RX10) (T := TX10) (N := 12) hx hb hG inGX10 hown hK hP 0 rfl rfl 4 (by decide) (hG _ wd_287) (fun _ h9 => h9) rfl dX10_nameOf_9 ?_
        refine lv_iload_n hx hb dX10_nameOf_12 rfl (lv_at hl 0 rfl) ?_
        refine va_lald hx hb hK hP 1 0 rfl rfl (iv_in j76 (by decide) (by decide) : vp_in b64 35) dX10_nameOf_13 ?_
        refine lv_topl (fun w77 ew77 => ?_)
        refine lv_lload_n hx hb dX10_nameOf_14 rfl (lv_at hl 2 rfl) ?_
        refine W.lcmp hx hb dX10_nameOf_15 ?_
        refine lv_topi (fun v78 ev78 => ?_)
        refine lv_if_ne (tgt := 21) hx hb dX10_nameOf_16 (by decide) (fun c79 => ?_) (fun c79 => ?_)
        · skip
          obtain ⟨v80, ev80⟩ : ∃ y : Int32, y = b64 + Int32.ofInt 1 := ⟨_, rfl⟩
          have iv80 : iv v80 1 35 := iv_eq ev80 (iv_add j76 (by decide : iv (Int32.ofInt 1) 1 1) (by decide) (by decide))
          have tv80 : v80.toInt = b64.toInt + 1 := iv_addT ev80 j76 (by decide) (by decide) (by decide)
          refine lv_iinc (v := v80) (lv' := [(3, .int v80), (0, .ref h0), (1, .long z0)]) hx hb dX10_nameOf_21 hl (k := 0) rfl ev80.symm (by decide) rfl (fun ls hl => ?_)
          refine lv_goto (tgt := 2) hx hb dX10_nameOf_24 (by decide) ?_
          exact ih v80 (iv_w iv80 (by decide) (by decide)) (by omega) _ _ hK hP hD hS ls hl
        · skip
          subst c79
          refine lv_iload_n hx hb dX10_nameOf_19 rfl (lv_at hl 0 rfl) ?_
          rw [hQ]
          obtain ⟨hP9, hD9⟩ := nv_sub2 (wc := [(h0, .inr (10, [.ref h1, .ref h2, .ref h3, .ref h4, .ref h5, .ref h6, .int x0, .int x1, .int x2, .int x3, .int x4, .long z1])), (h5, .inl (y0, 35, .inr (.inl g0)))]) hP hD [0, 1] (by decide) rfl
          have hK9 := hK.sub (tys' := [(y0, .long)]) [0] rfl
          exact W.iret (v := b64) hx hb hr (fun t ht hW => ⟨⟨b64, (), rfl, ⟨iv_w j76 (by decide) (by decide), trivial⟩, by rw [ht]; exact hP9, va_K.moved hW.alike hK9, hD9⟩, hS.F ht⟩) hS.2.2 dX10_nameOf_20
  exact lp73 _ 0 (iv_w (by decide : iv 0 0 0) (by decide) (by decide)) (Nat.lt_succ_self _) _ _ hK hP hD hS ls hl
set_option maxHeartbeats 100000000 in
set_option maxRecDepth 100000 in
theorem cX10_scanWord_1 (l : Launch) (dC : Nat → ClassId) (dI : Nat → Nat → Nat) (h0 h1 h2 h3 h4 h5 h6 : Nat) (y0 y1 : ClassId) (sz : Nat) (x0 x1 x2 x3 x4 x5 : Int32) (z0 : Int64) (f0 : Nat → Int32) (g0 : Nat → Int64) (ix1 : iv x1 0 2600) (ix2 : iv x2 0 2501) (ix3 : iv x3 0 2500) : Met l yX10_scanWord (Cond.code yX10_scanWord cX10_scanWord 5 (some .int) :: lw_G) ({ frames := 2, cells := 0, slots := 0, locals := 47 }) (va_Pc [.ref h0, .int x0] (fun U => U.heap.size = sz ∧ va_P (dC, dI) vwCl [(h0, .inr (10, [.ref h1, .ref h2, .ref h3, .ref h4, .ref h5, .ref h6, .int x1, .int x2, .int x3, .int x4, .int x5, .long z0])), (h6, .inl (y0, 2600, .inl f0)), (h5, .inl (y1, 35, .inr (.inl g0)))] U.heap ∧ va_K (dC, dI) vwCl [(y0, .int), (y1, .long)] U ∧ va_D (fun _ => True) [(h0, .inr (10, [.ref h1, .ref h2, .ref h3, .ref h4, .ref h5, .ref h6, .int x1, .int x2, .int x3, .int x4, .int x5, .long z0])), (h6, .inl (y0, 2600, .inl f0)), (h5, .inl (y1, 35, .inr (.inl g0)))])) (va_Qi (fun (r : Int32) (u : Int32 × Int32 × Int64) => iv u.1 1 4 ∧ True) (fun (u : Int32 × Int32 × Int64) (t : State) => va_P (dC, dI) vwCl [(h0, .inr (10, [.ref h1, .ref h2, .ref h3, .ref h4, .ref h5, .ref h6, .int x1, .int x2, .int x3, .int u.1, .int u.2.1, .long u.2.2])), (h6, .inl (y0, 2600, .inl f0)), (h5, .inl (y1, 35, .inr (.inl g0)))] t.heap ∧ va_K (dC, dI) vwCl [(y0, .int), (y1, .long)] t ∧ va_D (va_A [(h0, .inr (10, [.ref h1, .ref h2, .ref h3, .ref h4, .ref h5, .ref h6, .int x1, .int x2, .int x3, .int x4, .int x5, .long z0])), (h6, .inl (y0, 2600, .inl f0)), (h5, .inl (y1, 35, .inr (.inl g0)))] sz) [(h0, .inr (10, [.ref h1, .ref h2, .ref h3, .ref h4, .ref h5, .ref h6, .int x1, .int x2, .int x3, .int u.1, .int u.2.1, .long u.2.2])), (h6, .inl (y0, 2600, .inl f0)), (h5, .inl (y1, 35, .inr (.inl g0)))]) (va_A [(h0, .inr (10, [.ref h1, .ref h2, .ref h3, .ref h4, .ref h5, .ref h6, .int x1, .int x2, .int x3, .int x4, .int x5, .long z0])), (h6, .inl (y0, 2600, .inl f0)), (h5, .inl (y1, 35, .inr (.inl g0)))] sz)) 0 0 (va_A [(h0, .inr (10, [.ref h1, .ref h2, .ref h3, .ref h4, .ref h5, .ref h6, .int x1, .int x2, .int x3, .int x4, .int x5, .long z0])), (h6, .inl (y0, 2600, .inl f0)), (h5, .inl (y1, 35, .inr (.inl g0)))] sz) := by
  refine Met.ofW (cc := cX10_scanWord) (maxL := 5) (ret := (some .int)) (by decide) rfl ?_
  intro p e s m args below meth c s₁ B hml hv
  obtain ⟨rfl, hsz, hP, hK, hD0⟩ := hv
  have hx := B.exec
  have hb := B.bytes
  have hr := B.returns
  have hts0 := atoms_spec (ws := Cond.code yX10_scanWord cX10_scanWord 5 (some .int) :: lw_G) B.pre
  have hG : ∀ w ∈ lw_G, w.before _ s = true := fun w h => hts0 w (List.mem_cons_of_mem _ h)
  have hown : s.vm.findClass RX10 = some m.cls := findClass_of_methodNamed B.named
  have hlocks := B.notSynchronized
  subst hsz
  have hD := hD0.self (sz := s.heap.size)
  generalize hAe : va_A [(h0, .inr (10, [.ref h1, .ref h2, .ref h3, .ref h4, .ref h5, .ref h6, .int x1, .int x2, .int x3, .int x4, .int x5, .long z0])), (h6, .inl (y0, 2600, .inl f0)), (h5, .inl (y1, 35, .inr (.inl g0)))] s.heap.size = A at hD ⊢
  have hA : ∀ q : Nat, s.heap.size ≤ q → A q := fun q h => by rw [← hAe]; exact Or.inr h
  have hS : va_S A s.heap s.heap [] := va_S.rf
  have hP : va_P (dC, dI) vwCl [(h0, .inr (10, [.ref h1, .ref h2, .ref h3, .ref h4, .ref h5, .ref h6, .int x1, .int x2, .int x3, .int x4, .int x5, .long z0])), (h6, .inl (y0, 2600, .inl f0)), (h5, .inl (y1, 35, .inr (.inl g0)))] s.heap := hP
  have hl := lv_entry ([.ref h0, .int x0]) (n := 5) (Nat.le_of_ble_eq_true rfl)
  rw [lg_entry_eq]
  generalize (lg_sl ([.ref h0, .int x0]) ++ List.replicate (5 - (lg_sl ([.ref h0, .int x0])).length) Slot.unset).toArray = ls at hl ⊢
  have hl : lv_has ls 5 [(0, .ref h0), (1, .int x0)] := hl
  generalize ([.ref h0, .int x0] : List Value).toArray = ar at hG ⊢
  refine wq (fun Q hQ => ?_)
  refine lv_iload_n hx hb dX10_scanWord_0 rfl (lv_at hl 1 rfl) ?_
  refine lv_istore_n (lv' := [(2, .int x0), (0, .ref h0), (1, .int x0)]) hx hb dX10_scanWord_1 rfl hl (by decide) rfl (fun ls hl => ?_)
  refine jcut (a := ∀ (n : Nat) (b27 : Int32) (b28 : Int64) (hm : (2600 - b27.toInt).toNat < n) (H : Heap) (locs : List Loc) (hK : va_K (dC, dI) vwCl [(y0, .int), (y1, .long)] s) (hP : va_P (dC, dI) vwCl [(h0, .inr (10, [.ref h1, .ref h2, .ref h3, .ref h4, .ref h5, .ref h6, .int x1, .int x2, .int x3, .int x4, .int x5, .long b28])), (h6, .inl (y0, 2600, .inl f0)), (h5, .inl (y1, 35, .inr (.inl g0)))] H) (hD : va_D A [(h0, .inr (10, [.ref h1, .ref h2, .ref h3, .ref h4, .ref h5, .ref h6, .int x1, .int x2, .int x3, .int x4, .int x5, .long b28])), (h6, .inl (y0, 2600, .inl f0)), (h5, .inl (y1, 35, .inr (.inl g0)))]) (hS : va_S A s.heap H locs) (ls : Array Slot) (hl : lv_has ls 5 [(2, .int b27), (0, .ref h0), (1, .int x0)]), W p l e (headSpec (Cond.code yX10_scanWord cX10_scanWord 5 (some .int) :: lw_G) ({ frames := 2, cells := 0, slots := 0, locals := 47 })).room s m ar below meth c H locs 0 0 Q (F0 m 2 ls [])) ?_ (fun lp62 => ?_)
  · skip
    intro n
    induction n with
    | zero => intro b27 b28 hm H locs hK hP hD hS ls hl; exact absurd hm (Nat.not_lt_zero _)
    | succ n ih =>
      intro b27 b28 hm H locs hK hP hD hS ls hl
      refine lv_iload_n hx hb dX10_scanWord_2 rfl (lv_at hl 0 rfl) ?_
      refine lv_aload_n hx hb dX10_scanWord_3 rfl (lv_at hl 1 rfl) ?_
      refine va_get (D := (dC, dI)) (ci := 10) (v := .int x1) (C := RX10) (T := TX10) (N := 12) hx hb hG inGX10 hown hK hP 0 rfl rfl 6 (by decide) (hG _ wd_289) (fun _ h9 => h9) rfl dX10_scanWord_4 ?_
      refine jcut (a := ∀ (H : Heap) (locs : List Loc) (hK : va_K (dC, dI) vwCl [(y0, .int), (y1, .long)] s) (hP : va_P (dC, dI) vwCl [(h0, .inr (10, [.ref h1, .ref h2, .ref h3, .ref h4, .ref h5, .ref h6, .int x1, .int x2, .int x3, .int x4, .int x5, .long b28])), (h6, .inl (y0, 2600, .inl f0)), (h5, .inl (y1, 35, .inr (.inl g0)))] H) (hD : va_D A [(h0, .inr (10, [.ref h1, .ref h2, .ref h3, .ref h4, .ref h5, .ref h6, .int x1, .int x2, .int x3, .int x4, .int x5, .long b28])), (h6, .inl (y0, 2600, .inl f0)), (h5, .inl (y1, 35, .inr (.inl g0)))]) (hS : va_S A s.heap H locs) (ls : Array Slot) (hl : lv_has ls 5 [(2, .int b27), (0, .ref h0), (1, .int x0)]), W p l e (headSpec (Cond.code yX10_scanWord cX10_scanWord 5 (some .int) :: lw_G) ({ frames := 2, cells := 0, slots := 0, locals := 47 })).room s m ar below meth c H locs 0 0 Q (F0 m 45 ls [])) ?_ (fun j80 => ?_)
      · skip
        intro H locs hK hP hD hS ls hl
        refine lv_iload_n hx hb dX10_scanWord_45 rfl (lv_at hl 0 rfl) ?_
        refine lv_iload_n hx hb dX10_scanWord_46 rfl (lv_at hl 2 rfl) ?_
        refine lv_isub hx hb dX10_scanWord_47 ?_
        refine lv_topi (fun v81 ev81 => ?_)
        refine lv_bipush (v := 8) hx hb dX10_scanWord_48 (by decide) ?_
        refine lv_icmp_le (tgt := 60) hx hb dX10_scanWord_50 (by decide) (fun c82 => ?_) (fun c82 => ?_)
        · skip
          have j83 : iv v81 (-2147483648) 8 := iv_leL (iv_any v81) (by decide : iv 8 8 8) c82 (by decide)
          refine lv_aload_n hx hb dX10_scanWord_60 rfl (lv_at hl 1 rfl) ?_
          refine lv_iload_n hx hb dX10_scanWord_61 rfl (lv_at hl 2 rfl) ?_
          refine lv_iload_n hx hb dX10_scanWord_62 rfl (lv_at hl 0 rfl) ?_
          refine lv_iload_n hx hb dX10_scanWord_63 rfl (lv_at hl 2 rfl) ?_
          refine lv_isub hx hb dX10_scanWord_64 ?_
          refine lv_topi (fun v84 ev84 => ?_)
          obtain ⟨hPc, hDc, hFc⟩ := nv_sub3 (wc := [(h0, .inr (10, [.ref h1, .ref h2, .ref h3, .ref h4, .ref h5, .ref h6, .int x1, .int x2, .int x3, .int x4, .int x5, .long b28])), (h6, .inl (y0, 2600, .inl f0))]) hP hD hS hA [0, 1] (by decide) rfl
          have hKc := hK.sub (tys' := [(y0, .int)]) [0] rfl
          refine va_calli (va_runV (As := [.int x0, .int v84]) (rest := []) ⟨hx, hb, hml, hown, hG⟩ (cX10_registerOf_1 l dC dI h0 h1 h2 h3 h4 h5 h6 y0 H.size x0 v84 x1 x2 x3 x4 x5 b28 f0 ix1 ix2 ix3) (cwV 2 hG (gV wd_464 wd_466 wp_6 wd_11 wd_467) rfl rfl rfl (by decide +kernel) ⟨Nat.le_of_ble_eq_true rfl, Nat.le_of_ble_eq_true rfl⟩) ⟨fun a U g mk q => by obtain ⟨q0, q1, qP, qK, qD⟩ := q; exact ⟨q0, q1, qP, va_K.moved (u := U) (U := U.calling g mk a) (Vm.Alike.refl U.vm) qK, qD⟩, va_recv hKc hPc (ci := 10) (q0 := 0) rfl rfl, fun U hU hW => ⟨rfl, by rw [hU], by rw [hU]; exact hPc, va_K.moved hW.alike hKc, hDc.weaken (fun _ _ _ _ => trivial)⟩⟩ rfl rfl hl.1 rfl (lv_room (Nat.le_of_ble_eq_true rfl)) dX10_scanWord_65 ⟨by decide, by decide⟩) hS (fun q _ h => hFc q h) hFc (fun r85 u86 t H1 locs ht hvm hw hB hz1 hk1 hS => ?_)
          obtain ⟨hP1, hK1, hD1⟩ := hB
          rw [ht] at hP1
          have hK1 := va_K.moved hvm.symm hK1
          obtain ⟨hP, hD⟩ := nv_join (wf := [(h5, .inl (y1, 35, .inr (.inl g0))), (h0, .inr (10, [.ref h1, .ref h2, .ref h3, .ref h4, .ref h5, .ref h6, .int x1, .int x2, .int x3, .int x4, .int x5, .long b28])), (h6, .inl (y0, 2600, .inl f0))]) hP hD [0, 1] [2] rfl rfl (by decide) (by decide) hk1 hFc hP1 hD1 rfl
          have hK := (hK.sub (tys' := [(y1, .long)]) [1] rfl).app hK1
          generalize H1 = H at hP hS ⊢
          have hK : va_K (dC, dI) vwCl [(y1, .long), (y0, .int)] s := hK
          refine lv_istore_n (lv' := [(3, .int r85), (2, .int b27), (0, .ref h0), (1, .int x0)]) hx hb dX10_scanWord_68 rfl hl (by decide) rfl (fun ls hl => ?_)
          refine lv_aload_n hx hb dX10_scanWord_69 rfl (lv_at hl 2 rfl) ?_
          refine lv_aload_n hx hb dX10_scanWord_70 rfl (lv_at hl 2 rfl) ?_
          refine va_get (D := (dC, dI)) (ci := 10) (v := .long b28) (C := RX10) (T := TX10) (N := 12) hx hb hG inGX10 hown hK hP 1 rfl rfl 11 (by decide) (hG _ wd_294) (fun _ h9 => h9) rfl dX10_scanWord_71 ?_
          obtain ⟨hPc, hDc, hFc⟩ := nv_sub3 (wc := [(h0, .inr (10, [.ref h1, .ref h2, .ref h3, .ref h4, .ref h5, .ref h6, .int x1, .int x2, .int x3, .int x4, .int x5, .long b28])), (h5, .inl (y1, 35, .inr (.inl g0)))]) hP hD hS hA [1, 0] (by decide) rfl
          have hKc := hK.sub (tys' := [(y1, .long)]) [0] rfl
          refine va_calli (va_runV (As := [.long b28]) (rest := []) ⟨hx, hb, hml, hown, hG⟩ (cX10_nameOf_1 l dC dI h0 h1 h2 h3 h4 h5 h6 y1 H.size x1 x2 x3 x4 x5 b28 b28 g0 ix1 ix2 ix3) (cwV 1 hG (gV wd_468 wd_470 wp_7 wd_11 wd_471) rfl rfl rfl (by decide +kernel) ⟨Nat.le_of_ble_eq_true rfl, Nat.le_of_ble_eq_true rfl⟩) ⟨fun a U g mk q => by obtain ⟨q0, q1, qP, qK, qD⟩ := q; exact ⟨q0, q1, qP, va_K.moved (u := U) (U := U.calling g mk a) (Vm.Alike.refl U.vm) qK, qD⟩, va_recv hKc hPc (ci := 10) (q0 := 0) rfl rfl, fun U hU hW => ⟨rfl, by rw [hU], by rw [hU]; exact hPc, va_K.moved hW.alike hKc, hDc.weaken (fun _ _ _ _ => trivial)⟩⟩ rfl rfl hl.1 rfl (lv_room (Nat.le_of_ble_eq_true rfl)) dX10_scanWord_74 ⟨by decide, by decide⟩) hS (fun q _ h => hFc q h) hFc (fun r87 u88 t H1 locs ht hvm hw hB hz1 hk1 hS => ?_)
          have hw : iv r87 (-1) 34 ∧ True := hw
          obtain ⟨ir87, -⟩ := hw
          obtain ⟨hP1, hK1, hD1⟩ := hB
          rw [ht] at hP1
          have hK1 := va_K.moved hvm.symm hK1
          obtain ⟨hP, hD⟩ := nv_join (wf := [(h6, .inl (y0, 2600, .inl f0)), (h0, .inr (10, [.ref h1, .ref h2, .ref h3, .ref h4, .ref h5, .ref h6, .int x1, .int x2, .int x3, .int x4, .int x5, .long b28])), (h5, .inl (y1, 35, .inr (.inl g0)))]) hP hD [1, 0] [2] rfl rfl (by decide) (by decide) hk1 hFc hP1 hD1 rfl
          have hK := (hK.sub (tys' := [(y0, .int)]) [1] rfl).app hK1
          generalize H1 = H at hP hS ⊢
          have hK : va_K (dC, dI) vwCl [(y0, .int), (y1, .long)] s := hK
          refine lv_istore (lv' := [(4, .int r87), (3, .int r85), (2, .int b27), (0, .ref h0), (1, .int x0)]) hx hb dX10_scanWord_77 hl (by decide) rfl (fun ls hl => ?_)
          refine lv_iload_n hx hb dX10_scanWord_79 rfl (lv_at hl 1 rfl) ?_
          refine lv_iconst (v := (-1)) hx hb dX10_scanWord_80 (by decide) ?_
          refine jcut (a := ∀ (b92 : Int32) (b93 : Int32) (ib92 : iv b92 2 4) (H : Heap) (locs : List Loc) (hK : va_K (dC, dI) vwCl [(y0, .int), (y1, .long)] s) (hP : va_P (dC, dI) vwCl [(h6, .inl (y0, 2600, .inl f0)), (h0, .inr (10, [.ref h1, .ref h2, .ref h3, .ref h4, .ref h5, .ref h6, .int x1, .int x2, .int x3, .int b92, .int b93, .long b28])), (h5, .inl (y1, 35, .inr (.inl g0)))] H) (hD : va_D A [(h6, .inl (y0, 2600, .inl f0)), (h0, .inr (10, [.ref h1, .ref h2, .ref h3, .ref h4, .ref h5, .ref h6, .int x1, .int x2, .int x3, .int b92, .int b93, .long b28])), (h5, .inl (y1, 35, .inr (.inl g0)))]) (hS : va_S A s.heap H locs) (ls : Array Slot) (hl : lv_has ls 5 [(2, .int b27)]), W p l e (headSpec (Cond.code yX10_scanWord cX10_scanWord 5 (some .int) :: lw_G) ({ frames := 2, cells := 0, slots := 0, locals := 47 })).room s m ar below meth c H locs 0 0 Q (F0 m 122 ls [])) ?_ (fun j94 => ?_)
          · skip
            intro b92 b93 ib92 H locs hK hP hD hS ls hl
            refine lv_iload_n hx hb dX10_scanWord_122 rfl (lv_at hl 0 rfl) ?_
            rw [hQ]
            obtain ⟨hP9, hD9⟩ := nv_sub2 (wc := [(h0, .inr (10, [.ref h1, .ref h2, .ref h3, .ref h4, .ref h5, .ref h6, .int x1, .int x2, .int x3, .int b92, .int b93, .long b28])), (h6, .inl (y0, 2600, .inl f0)), (h5, .inl (y1, 35, .inr (.inl g0)))]) hP hD [1, 0, 2] (by decide) rfl
            have hK9 := hK.sub (tys' := [(y0, .int), (y1, .long)]) [0, 1] rfl
            exact W.iret (v := b27) hx hb hr (fun t ht hW => ⟨⟨b27, (b92, b93, b28), rfl, ⟨iv_w ib92 (by decide) (by decide), trivial⟩, by rw [ht]; exact hP9, va_K.moved hW.alike hK9, hD9⟩, hS.F ht⟩) hS.2.2 dX10_scanWord_123
          refine lv_icmp_eq (tgt := 97) hx hb dX10_scanWord_81 (by decide) (fun c89 => ?_) (fun c89 => ?_)
          · skip
            subst c89
            refine lv_iload hx hb dX10_scanWord_97 (lv_at hl 0 rfl) ?_
            refine lv_iconst (v := (-1)) hx hb dX10_scanWord_99 (by decide) ?_
            refine lv_icmp_eq (tgt := 117) hx hb dX10_scanWord_100 (by decide) (fun c95 => ?_) (fun c95 => ?_)
            · skip
              subst c95
              refine lv_aload_n hx hb dX10_scanWord_117 rfl (lv_at hl 3 rfl) ?_
              refine lv_iconst (v := 2) hx hb dX10_scanWord_118 (by decide) ?_
              refine va_put (D := (dC, dI)) (ci := 10) (v := .int 2) (ty := .int) (C := RX10) (T := TX10) (N := 12) hx hb hG inGX10 tyX10 tyX10_ok nmX10 hown hK hP hD hS 1 rfl rfl 9 (by decide) (hG _ wd_292) (fun _ h9 => h9) rfl (by decide +kernel) rfl rfl (Nat.le_of_ble_eq_true rfl) dX10_scanWord_119 (fun H locs hP hD hS => ?_)
              obtain ⟨hP, hD⟩ := nv_eq (ws' := [(h6, .inl (y0, 2600, .inl f0)), (h0, .inr (10, [.ref h1, .ref h2, .ref h3, .ref h4, .ref h5, .ref h6, .int x1, .int x2, .int x3, .int 2, .int x5, .long b28])), (h5, .inl (y1, 35, .inr (.inl g0)))]) hP hD rfl
              exact j94 2 x5 (iv_w (by decide : iv 2 2 2) (by decide) (by decide)) _ _ hK hP hD hS ls (lv_sub hl [2] rfl)
            · skip
              have j96 : iv r87 0 34 := iv_neLo ir87 (by decide : iv (-1) (-1) (-1)) c95 (by decide)
              refine lv_aload_n hx hb dX10_scanWord_103 rfl (lv_at hl 3 rfl) ?_
              refine lv_iconst (v := 3) hx hb dX10_scanWord_104 (by decide) ?_
              refine va_put (D := (dC, dI)) (ci := 10) (v := .int 3) (ty := .int) (C := RX10) (T := TX10) (N := 12) hx hb hG inGX10 tyX10 tyX10_ok nmX10 hown hK hP hD hS 1 rfl rfl 9 (by decide) (hG _ wd_292) (fun _ h9 => h9) rfl (by decide +kernel) rfl rfl (Nat.le_of_ble_eq_true rfl) dX10_scanWord_105 (fun H locs hP hD hS => ?_)
              obtain ⟨hP, hD⟩ := nv_eq (ws' := [(h6, .inl (y0, 2600, .inl f0)), (h0, .inr (10, [.ref h1, .ref h2, .ref h3, .ref h4, .ref h5, .ref h6, .int x1, .int x2, .int x3, .int 3, .int x5, .long b28])), (h5, .inl (y1, 35, .inr (.inl g0)))]) hP hD rfl
              refine lv_aload_n hx hb dX10_scanWord_108 rfl (lv_at hl 3 rfl) ?_
              refine lv_iload hx hb dX10_scanWord_109 (lv_at hl 0 rfl) ?_
              refine va_put (D := (dC, dI)) (ci := 10) (v := .int r87) (ty := .int) (C := RX10) (T := TX10) (N := 12) hx hb hG inGX10 tyX10 tyX10_ok nmX10 hown hK hP hD hS 1 rfl rfl 10 (by decide) (hG _ wd_293) (fun _ h9 => h9) rfl (by decide +kernel) rfl rfl (Nat.le_of_ble_eq_true rfl) dX10_scanWord_111 (fun H locs hP hD hS => ?_)
              obtain ⟨hP, hD⟩ := nv_eq (ws' := [(h6, .inl (y0, 2600, .inl f0)), (h0, .inr (10, [.ref h1, .ref h2, .ref h3, .ref h4, .ref h5, .ref h6, .int x1, .int x2, .int x3, .int 3, .int r87, .long b28])), (h5, .inl (y1, 35, .inr (.inl g0)))]) hP hD rfl
              refine lv_goto (tgt := 122) hx hb dX10_scanWord_114 (by decide) ?_
              exact j94 3 r87 (iv_w (by decide : iv 3 3 3) (by decide) (by decide)) _ _ hK hP hD hS ls (lv_sub hl [2] rfl)
          · skip
            refine lv_aload_n hx hb dX10_scanWord_84 rfl (lv_at hl 3 rfl) ?_
            refine lv_iconst (v := 4) hx hb dX10_scanWord_85 (by decide) ?_
            refine va_put (D := (dC, dI)) (ci := 10) (v := .int 4) (ty := .int) (C := RX10) (T := TX10) (N := 12) hx hb hG inGX10 tyX10 tyX10_ok nmX10 hown hK hP hD hS 1 rfl rfl 9 (by decide) (hG _ wd_292) (fun _ h9 => h9) rfl (by decide +kernel) rfl rfl (Nat.le_of_ble_eq_true rfl) dX10_scanWord_86 (fun H locs hP hD hS => ?_)
            obtain ⟨hP, hD⟩ := nv_eq (ws' := [(h6, .inl (y0, 2600, .inl f0)), (h0, .inr (10, [.ref h1, .ref h2, .ref h3, .ref h4, .ref h5, .ref h6, .int x1, .int x2, .int x3, .int 4, .int x5, .long b28])), (h5, .inl (y1, 35, .inr (.inl g0)))]) hP hD rfl
            refine lv_aload_n hx hb dX10_scanWord_89 rfl (lv_at hl 3 rfl) ?_
            refine lv_iload_n hx hb dX10_scanWord_90 rfl (lv_at hl 1 rfl) ?_
            refine va_put (D := (dC, dI)) (ci := 10) (v := .int r85) (ty := .int) (C := RX10) (T := TX10) (N := 12) hx hb hG inGX10 tyX10 tyX10_ok nmX10 hown hK hP hD hS 1 rfl rfl 10 (by decide) (hG _ wd_293) (fun _ h9 => h9) rfl (by decide +kernel) rfl rfl (Nat.le_of_ble_eq_true rfl) dX10_scanWord_91 (fun H locs hP hD hS => ?_)
            obtain ⟨hP, hD⟩ := nv_eq (ws' := [(h6, .inl (y0, 2600, .inl f0)), (h0, .inr (10, [.ref h1, .ref h2, .ref h3, .ref h4, .ref h5, .ref h6, .int x1, .int x2, .int x3, .int 4, .int r85, .long b28])), (h5, .inl (y1, 35, .inr (.inl g0)))]) hP hD rfl
            refine lv_goto (tgt := 122) hx hb dX10_scanWord_94 (by decide) ?_
            exact j94 4 r85 (iv_w (by decide : iv 4 4 4) (by decide) (by decide)) _ _ hK hP hD hS ls (lv_sub hl [2] rfl)
        · skip
          have j97 : iv v81 9 2147483647 := iv_nleL (iv_any v81) (by decide : iv 8 8 8) c82 (by decide)
          refine lv_aload_n hx hb dX10_scanWord_53 rfl (lv_at hl 1 rfl) ?_
          refine lv_iconst (v := 1) hx hb dX10_scanWord_54 (by decide) ?_
          refine va_put (D := (dC, dI)) (ci := 10) (v := .int 1) (ty := .int) (C := RX10) (T := TX10) (N := 12) hx hb hG inGX10 tyX10 tyX10_ok nmX10 hown hK hP hD hS 0 rfl rfl 9 (by decide) (hG _ wd_292) (fun _ h9 => h9) rfl (by decide +kernel) rfl rfl (Nat.le_of_ble_eq_true rfl) dX10_scanWord_55 (fun H locs hP hD hS => ?_)
          obtain ⟨hP, hD⟩ := nv_eq (ws' := [(h0, .inr (10, [.ref h1, .ref h2, .ref h3, .ref h4, .ref h5, .ref h6, .int x1, .int x2, .int x3, .int 1, .int x5, .long b28])), (h6, .inl (y0, 2600, .inl f0)), (h5, .inl (y1, 35, .inr (.inl g0)))]) hP hD rfl
          refine lv_iload_n hx hb dX10_scanWord_58 rfl (lv_at hl 0 rfl) ?_
          rw [hQ]
          obtain ⟨hP9, hD9⟩ := nv_sub2 (wc := [(h0, .inr (10, [.ref h1, .ref h2, .ref h3, .ref h4, .ref h5, .ref h6, .int x1, .int x2, .int x3, .int 1, .int x5, .long b28])), (h6, .inl (y0, 2600, .inl f0)), (h5, .inl (y1, 35, .inr (.inl g0)))]) hP hD [0, 1, 2] (by decide) rfl
          have hK9 := hK.sub (tys' := [(y0, .int), (y1, .long)]) [0, 1] rfl
          exact W.iret (v := b27) hx hb hr (fun t ht hW => ⟨⟨b27, (1, x5, b28), rfl, ⟨iv_w (by decide : iv 1 1 1) (by decide) (by decide), trivial⟩, by rw [ht]; exact hP9, va_K.moved hW.alike hK9, hD9⟩, hS.F ht⟩) hS.2.2 dX10_scanWord_59
      refine lv_icmp_ge (tgt := 45) hx hb dX10_scanWord_7 (by decide) (fun c63 => ?_) (fun c63 => ?_)
      · skip
        have rl98 : x1.toInt ≤ b27.toInt := Int32.le_iff_toInt_le.mp c63
        have j99 : iv b27 0 2147483647 := iv_leR ix1 (iv_any b27) c63 (by decide)
        exact j80 _ _ hK hP hD hS ls hl
      · skip
        have rl100 : b27.toInt < x1.toInt := iv_nle2 c63
        have j101 : iv b27 (-2147483648) 2599 := iv_nleR ix1 (iv_any b27) c63 (by decide)
        refine lv_aload_n hx hb dX10_scanWord_10 rfl (lv_at hl 1 rfl) ?_
        refine lv_iload_n hx hb dX10_scanWord_11 rfl (lv_at hl 0 rfl) ?_
        obtain ⟨hPc, hDc, hFc⟩ := nv_sub3 (wc := [(h0, .inr (10, [.ref h1, .ref h2, .ref h3, .ref h4, .ref h5, .ref h6, .int x1, .int x2, .int x3, .int x4, .int x5, .long b28])), (h6, .inl (y0, 2600, .inl f0))]) hP hD hS hA [0, 1] (by decide) rfl
        have hKc := hK.sub (tys' := [(y0, .int)]) [0] rfl
        refine va_calli (va_runV (As := [.int b27]) (rest := []) ⟨hx, hb, hml, hown, hG⟩ (cX10_sign_1 l dC dI h0 h1 h2 h3 h4 h5 h6 y0 H.size b27 x1 x2 x3 x4 x5 b28 f0 ix1 ix2 ix3) (cwV 1 hG (gV wd_449 wd_451 wp_3 wd_11 wd_452) rfl rfl rfl (by decide +kernel) ⟨Nat.le_of_ble_eq_true rfl, Nat.le_of_ble_eq_true rfl⟩) ⟨fun a U g mk q => by obtain ⟨q0, q1, qP, qK, qD⟩ := q; exact ⟨q0, q1, qP, va_K.moved (u := U) (U := U.calling g mk a) (Vm.Alike.refl U.vm) qK, qD⟩, va_recv hKc hPc (ci := 10) (q0 := 0) rfl rfl, fun U hU hW => ⟨rfl, by rw [hU], by rw [hU]; exact hPc, va_K.moved hW.alike hKc, hDc.weaken (fun _ _ _ _ => trivial)⟩⟩ rfl rfl hl.1 rfl (lv_room (Nat.le_of_ble_eq_true rfl)) dX10_scanWord_12 ⟨by decide, by decide⟩) hS (fun q _ h => hFc q h) hFc (fun r102 u103 t H1 locs ht hvm hw hB hz1 hk1 hS => ?_)
        obtain ⟨hP1, hK1, hD1⟩ := hB
        rw [ht] at hP1
        have hK1 := va_K.moved hvm.symm hK1
        obtain ⟨hP, hD⟩ := nv_join (wf := [(h5, .inl (y1, 35, .inr (.inl g0))), (h0, .inr (10, [.ref h1, .ref h2, .ref h3, .ref h4, .ref h5, .ref h6, .int x1, .int x2, .int x3, .int x4, .int x5, .long b28])), (h6, .inl (y0, 2600, .inl f0))]) hP hD [0, 1] [2] rfl rfl (by decide) (by decide) hk1 hFc hP1 hD1 rfl
        have hK := (hK.sub (tys' := [(y1, .long)]) [1] rfl).app hK1
        generalize H1 = H at hP hS ⊢
        have hK : va_K (dC, dI) vwCl [(y1, .long), (y0, .int)] s := hK
        obtain ⟨hPc, hDc, hFc⟩ := nv_sub3 (wc := []) hP hD hS hA [] (by decide) rfl
        have hKc := hK.sub (tys' := []) [] rfl
        refine va_calli (va_runS (As := [.int r102]) (rest := []) ⟨hx, hb, hml, hown, hG⟩ (cX10_isWordSign_1 l dC dI H.size r102) (va_cwS 1 hG (gS wd_461 wd_462 wd_11 wd_463) rfl rfl rfl (by decide +kernel) ⟨Nat.le_of_ble_eq_true rfl, Nat.le_of_ble_eq_true rfl⟩) ⟨fun a U g mk q => by obtain ⟨q0, q1, qP, qK, qD⟩ := q; exact ⟨q0, q1, qP, va_K.moved (u := U) (U := U.calling g mk a) (Vm.Alike.refl U.vm) qK, qD⟩, fun U hU hW => ⟨rfl, by rw [hU], by rw [hU]; exact hPc, va_K.moved hW.alike hKc, hDc.weaken (fun _ _ _ _ => trivial)⟩⟩ rfl rfl hl.1 rfl (lv_room (Nat.le_of_ble_eq_true rfl)) dX10_scanWord_15 ⟨by decide, by decide⟩) hS (fun q _ h => hFc q h) hFc (fun r104 u105 t H1 locs ht hvm hw hB hz1 hk1 hS => ?_)
        have hw : iv r104 0 1 ∧ True := hw
        obtain ⟨ir104, -⟩ := hw
        obtain ⟨hP1, hK1, hD1⟩ := hB
        rw [ht] at hP1
        have hK1 := va_K.moved hvm.symm hK1
        obtain ⟨hP, hD⟩ := nv_join (wf := [(h5, .inl (y1, 35, .inr (.inl g0))), (h0, .inr (10, [.ref h1, .ref h2, .ref h3, .ref h4, .ref h5, .ref h6, .int x1, .int x2, .int x3, .int x4, .int x5, .long b28])), (h6, .inl (y0, 2600, .inl f0))]) hP hD [] [0, 1, 2] rfl rfl (by decide) (by decide) hk1 hFc hP1 hD1 rfl
        have hK := (hK.sub (tys' := [(y1, .long), (y0, .int)]) [0, 1] rfl).app hK1
        generalize H1 = H at hP hS ⊢
        have hK : va_K (dC, dI) vwCl [(y1, .long), (y0, .int)] s := hK
        refine lv_if_eq (tgt := 45) hx hb dX10_scanWord_18 (by decide) (fun c106 => ?_) (fun c106 => ?_)
        · skip
          subst c106
          exact j80 _ _ (hK.sub (tys' := _) [1, 0] rfl) (hP.sub (ws' := _) [1, 2, 0] rfl) (hD.sub (ws' := _) [1, 2, 0] (by decide) rfl) hS ls hl
        · skip
          have j107 : iv r104 1 1 := iv_neLo ir104 (by decide : iv 0 0 0) c106 (by decide)
          refine lv_aload_n hx hb dX10_scanWord_21 rfl (lv_at hl 1 rfl) ?_
          refine lv_aload_n hx hb dX10_scanWord_22 rfl (lv_at hl 1 rfl) ?_
          refine va_get (D := (dC, dI)) (ci := 10) (v := .long b28) (C := RX10) (T := TX10) (N := 12) hx hb hG inGX10 hown hK hP 1 rfl rfl 11 (by decide) (hG _ wd_294) (fun _ h9 => h9) rfl dX10_scanWord_23 ?_
          refine lv_bipush (v := 8) hx hb dX10_scanWord_26 (by decide) ?_
          refine lv_lshl (v := _) hx hb dX10_scanWord_28 rfl ?_
          refine lv_topl (fun w108 ew108 => ?_)
          refine lv_aload_n hx hb dX10_scanWord_29 rfl (lv_at hl 1 rfl) ?_
          refine lv_iload_n hx hb dX10_scanWord_30 rfl (lv_at hl 0 rfl) ?_
          obtain ⟨hPc, hDc, hFc⟩ := nv_sub3 (wc := [(h0, .inr (10, [.ref h1, .ref h2, .ref h3, .ref h4, .ref h5, .ref h6, .int x1, .int x2, .int x3, .int x4, .int x5, .long b28])), (h6, .inl (y0, 2600, .inl f0))]) hP hD hS hA [1, 2] (by decide) rfl
          have hKc := hK.sub (tys' := [(y0, .int)]) [1] rfl
          refine va_calli (va_runV (As := [.int b27]) (rest := [.long w108, .ref h0]) ⟨hx, hb, hml, hown, hG⟩ (cX10_sign_1 l dC dI h0 h1 h2 h3 h4 h5 h6 y0 H.size b27 x1 x2 x3 x4 x5 b28 f0 ix1 ix2 ix3) (cwV 1 hG (gV wd_449 wd_451 wp_3 wd_11 wd_452) rfl rfl rfl (by decide +kernel) ⟨Nat.le_of_ble_eq_true rfl, Nat.le_of_ble_eq_true rfl⟩) ⟨fun a U g mk q => by obtain ⟨q0, q1, qP, qK, qD⟩ := q; exact ⟨q0, q1, qP, va_K.moved (u := U) (U := U.calling g mk a) (Vm.Alike.refl U.vm) qK, qD⟩, va_recv hKc hPc (ci := 10) (q0 := 0) rfl rfl, fun U hU hW => ⟨rfl, by rw [hU], by rw [hU]; exact hPc, va_K.moved hW.alike hKc, hDc.weaken (fun _ _ _ _ => trivial)⟩⟩ rfl rfl hl.1 rfl (lv_room (Nat.le_of_ble_eq_true rfl)) dX10_scanWord_31 ⟨by decide, by decide⟩) hS (fun q _ h => hFc q h) hFc (fun r109 u110 t H1 locs ht hvm hw hB hz1 hk1 hS => ?_)
          obtain ⟨hP1, hK1, hD1⟩ := hB
          rw [ht] at hP1
          have hK1 := va_K.moved hvm.symm hK1
          obtain ⟨hP, hD⟩ := nv_join (wf := [(h5, .inl (y1, 35, .inr (.inl g0))), (h0, .inr (10, [.ref h1, .ref h2, .ref h3, .ref h4, .ref h5, .ref h6, .int x1, .int x2, .int x3, .int x4, .int x5, .long b28])), (h6, .inl (y0, 2600, .inl f0))]) hP hD [1, 2] [0] rfl rfl (by decide) (by decide) hk1 hFc hP1 hD1 rfl
          have hK := (hK.sub (tys' := [(y1, .long)]) [0] rfl).app hK1
          generalize H1 = H at hP hS ⊢
          have hK : va_K (dC, dI) vwCl [(y1, .long), (y0, .int)] s := hK
          refine lv_i2l (v := _) hx hb dX10_scanWord_34 rfl ?_
          refine lv_topl (fun w111 ew111 => ?_)
          refine lv_lor hx hb dX10_scanWord_35 ?_
          refine lv_topl (fun w112 ew112 => ?_)
          refine va_put (D := (dC, dI)) (ci := 10) (v := .long w112) (ty := .long) (C := RX10) (T := TX10) (N := 12) hx hb hG inGX10 tyX10 tyX10_ok nmX10 hown hK hP hD hS 1 rfl rfl 11 (by decide) (hG _ wd_294) (fun _ h9 => h9) rfl (by decide +kernel) rfl rfl (Nat.le_of_ble_eq_true rfl) dX10_scanWord_36 (fun H locs hP hD hS => ?_)
          obtain ⟨hP, hD⟩ := nv_eq (ws' := [(h5, .inl (y1, 35, .inr (.inl g0))), (h0, .inr (10, [.ref h1, .ref h2, .ref h3, .ref h4, .ref h5, .ref h6, .int x1, .int x2, .int x3, .int x4, .int x5, .long w112])), (h6, .inl (y0, 2600, .inl f0))]) hP hD rfl
          obtain ⟨v113, ev113⟩ : ∃ y : Int32, y = b27 + Int32.ofInt 1 := ⟨_, rfl⟩
          have iv113 : iv v113 (-2147483647) 2600 := iv_eq ev113 (iv_add j101 (by decide : iv (Int32.ofInt 1) 1 1) (by decide) (by decide))
          have tv113 : v113.toInt = b27.toInt + 1 := iv_addT ev113 j101 (by decide) (by decide) (by decide)
          refine lv_iinc (v := v113) (lv' := [(2, .int v113), (0, .ref h0), (1, .int x0)]) hx hb dX10_scanWord_39 hl (k := 0) rfl ev113.symm (by decide) rfl (fun ls hl => ?_)
          refine lv_goto (tgt := 2) hx hb dX10_scanWord_42 (by decide) ?_
          exact ih v113 w112 (by omega) _ _ (hK.sub (tys' := _) [1, 0] rfl) (hP.sub (ws' := _) [1, 2, 0] rfl) (hD.sub (ws' := _) [1, 2, 0] (by decide) rfl) hS ls hl
  exact lp62 _ x0 z0 (Nat.lt_succ_self _) _ _ hK hP hD hS ls hl
