set_option maxHeartbeats 8000000 in
set_option maxRecDepth 100000 in
theorem c9_X9_slot (l : Launch) (dC : Nat → ClassId) (dI : Nat → Nat → Nat) (kc : Nat → ClassId) (ws : va_W) (ad : Nat → Nat) (ga : Nat → Nat) (gc : Nat → Nat) (M : Nat) (n : Nat → Int32) (f : Nat → Nat → Int32) (T : Nat → Option Nat) (G : Nat → Nat → Int32) (K : Nat → Nat → Option Nat) (F : Nat → Nat → Nat → Int32) (R : Nat) (v1 : Int32) (v2 : Int32) (v3 : Int32) (sz hz : Nat) (hQ : Pic9 kc ws ad ga gc M n f T G K F) (hI : I9 M n f T gc G K F R) : Met l yX9_slot (.code yX9_slot cX9_slot 4 (some .boolean) :: gw) ({ frames := 1, cells := 0, slots := 0, locals := 20 }) (va_Pc [.ref (ad 0), .int v1, .int v2, .int v3] (fun U => U.heap.size = sz ∧ hpS U.heap = hz ∧ va_P (dC, dI) vwCl ws U.heap ∧ va_K (dC, dI) vwCl (t9 kc) U ∧ va_D (fun _ => True) ws ∧ nx U)) (va_Qi (fun (r : Int32) (u : (Nat → Nat) × (Nat → Nat) × (Nat → Nat) × Nat × (Nat → Int32) × (Nat → Nat → Int32) × (Nat → Option Nat) × (Nat → Nat → Int32) × (Nat → Nat → Option Nat) × (Nat → Nat → Nat → Int32)) => (r = 1 ∧ ((C9.mk n u.2.2.2.2.2.1 T G K F), r) = k_slot v1 v2 v3 (C9.mk n f T G K F)) ∨ (r = 0 ∧ ((C9.mk n u.2.2.2.2.2.1 T G K F), r) = k_slot v1 v2 v3 (C9.mk n f T G K F))) (fun u t => ∃ w : va_W, va_P (dC, dI) vwCl w t.heap ∧ va_D (va_A ws sz) w ∧ Pic9 kc w ad ga gc M n u.2.2.2.2.2.1 T G K F ∧ I9 M n u.2.2.2.2.2.1 T gc G K F R ∧ hpS t.heap + (260 * M + 2 * S9 M gc) ≤ hz + (260 * M + 2 * S9 M gc) ∧ 16 * t.heap.size + (256 * M + S9 M gc) ≤ 16 * sz + (256 * M + S9 M gc)) (va_A ws sz)) 0 0 (va_A ws sz) := by
  refine Met.ofW (cc := cX9_slot) (maxL := 4) (ret := (some .boolean)) (by decide) rfl ?_
  intro p e s m args below meth c s₁ B hml hv
  obtain ⟨rfl, hsz, rfl, hP, hK, hD0, hN⟩ := hv
  have hx := B.exec
  have hb := B.bytes
  have hr := B.returns
  have hts := atoms_spec (ws := .code yX9_slot cX9_slot 4 (some .boolean) :: gw) B.pre
  have hg : ∀ w ∈ gw, w.before _ s = true := fun w h => hts w (List.mem_cons_of_mem _ h)
  have hown : s.vm.findClass RX9 = some m.cls := findClass_of_methodNamed B.named
  have hlocks := B.notSynchronized
  subst hsz
  have hD := hD0.self (sz := s.heap.size)
  generalize hAe : va_A ws s.heap.size = A at hD ⊢
  have hA : ∀ q : Nat, s.heap.size ≤ q → A q := fun q h => by rw [← hAe]; exact Or.inr h
  clear hAe
  have hS : va_S A s.heap s.heap [] := va_S.rf
  have hl := lv_entry ([.ref (ad 0), .int v1, .int v2, .int v3]) (n := 4) (Nat.le_of_ble_eq_true rfl)
  rw [lg_entry_eq]
  generalize (lg_sl ([.ref (ad 0), .int v1, .int v2, .int v3]) ++ List.replicate (4 - (lg_sl ([.ref (ad 0), .int v1, .int v2, .int v3])).length) Slot.unset).toArray = ls at hl ⊢
  have hl : lv_has ls 4 [(0, .ref (ad 0)), (1, .int v1), (2, .int v2), (3, .int v3)] := hl
  obtain ⟨h_i1, h_i2, h_i3, h_i4, h_i5, h_i6, h_i7, h_i8, h_i9, h_i10, h_i11⟩ := id hI
  have q1_ := h_i1
  unfold i1 at q1_
  exact by
   refine lv_iload_n hx hb dX9_slot_0 rfl (lv_at hl 1 rfl) ?_
   have hCc : ([] : List Nat).map (fun i => ws[i]?) = ([] : va_W).map some := rfl
   have hNd : ([] : List Nat).Nodup := List.nodup_nil
   have hPc := hP.pick [] hCc
   have hDc := hD.pick [] hNd hCc
   have hKc := hK.sub (tys' := []) [] rfl
   have hFc := va_free (wc := []) hD hS hA [] hCc
   refine va_calli (va_runS (As := [.int v1]) (rest := []) ⟨hx, hb, hml, hown, hg⟩ (c_X9_isSlot l dC dI v1 s.heap.size ) (va_cwS 1 hg (gw_S gm_methodLink_RX9_62_yX9_isSlot gm_static_yX9_isSlot gm_initialized_RX9 gm_code_yX9_isSlot_cX9_isSlot_1_some_boolean_) rfl rfl rfl (by decide +kernel) ⟨Nat.le_of_ble_eq_true rfl, Nat.le_of_ble_eq_true rfl⟩) ⟨fun a U g mk q => by obtain ⟨q0, q1, qP, qK, qD, qN⟩ := q; exact ⟨q0, q1, qP, va_K.moved (u := U) (U := U.calling g mk a) (Vm.Alike.refl U.vm) qK, qD, nx_same (u := U) (U := U.calling g mk a) rfl qN⟩, fun U hU hW => ⟨rfl, by rw [hU], by rw [hU]; exact hPc, va_K.moved hW.alike hKc, hDc.weaken (fun _ _ _ _ => trivial), nx_warm hW hN⟩⟩ rfl rfl hl.1 rfl (lv_room (Nat.le_of_ble_eq_true rfl)) dX9_slot_1 ⟨Nat.le_of_ble_eq_true rfl, Nat.le_of_ble_eq_true rfl⟩) hS (fun q _ h => hFc q h) hFc (fun r_1 u_2 t H1 locs ht hvm hw hB hz1 hk1 hS => ?_)
   obtain ⟨hP, hD⟩ := va_replS hP hD [] rfl List.nodup_nil hk1 hFc nil_P nil_D
   generalize H1 = H at hP hS ⊢
   rcases hw with ⟨rfl, w_3⟩ | ⟨rfl, w_3⟩
   · refine lv_if_eq (tgt := 23) hx hb dX9_slot_4 (by decide) (fun c_4 => absurd c_4 (by decide)) (fun _ => ?_)
     exact by
      refine lv_iload_n hx hb dX9_slot_7 rfl (lv_at hl 2 rfl) ?_
      refine lv_if_lt (tgt := 23) hx hb dX9_slot_8 (by decide) (fun c_5 => ?_) (fun c_5 => ?_)
      · simp only [i_lt, i_le, i_eq, ti_0] at c_5
        refine lv_iconst (v := 0) hx hb dX9_slot_23 (by decide) ?_
        refine W_msr2 (fun hm1 hm2 hm3 => ?_)
        exact W.zret (v := 0) hx hb hr rfl (fun t ht hW => ⟨⟨0, (ad, ga, gc, M, n, f, T, G, K, F), rfl, (Or.inr ⟨rfl, (by show ((C9.mk n f T G K F), (0 : Int32)) = k_slot v1 v2 v3 (C9.mk n f T G K F); have hX := (k_slot.eq_1 v1 v2 v3 (C9.mk n f T G K F)).symm; (repeat (first | dsimp +instances only [c9n, c9f, c9T, c9G, c9K, c9F, b_come, b_leave, b_fill, awB, b_settle, b_wake, b_take, f_take, b_gather, f_gather, b_ask, a_ask, b_tell, c_close, d_close, k_add, k_rem, sco, k_clrF, k_mem, k_rebind, k_bnd, k_beg0, k_beg1, b_giveN, b_giveR, f_open, b_hand, k_op, b_turn, wlB, b_beat, f_anew, b_wipe, b_off, k_sadd, fits, frP, cntB, b_trace, b_child, k_lat, cond_true, cond_false, Option.elim_none, Option.elim_some, Option.getD_none, Option.getD_some] at hX | rw [if_pos (by first | with_reducible assumption | omega)] at hX | rw [if_neg (by first | with_reducible assumption | omega)] at hX | rw [jx_of (by omega)] at hX)); first | exact hX | (exfalso; omega) | exact hX)⟩), ws, by rw [ht]; exact hP, hD, hQ, ⟨h_i1, h_i2, h_i3, h_i4, h_i5, h_i6, h_i7, h_i8, h_i9, h_i10, h_i11⟩, by rw [ht]; show hpS H + (260 * M + 2 * S9 M gc) ≤ hpS s.heap + (260 * M + 2 * S9 M gc); omega, by rw [ht]; show 16 * H.size + (256 * M + S9 M gc) ≤ 16 * s.heap.size + (256 * M + S9 M gc); omega⟩, hS.F ht⟩) hS.2.2 dX9_slot_24
      · simp only [i_lt, i_le, i_eq, ti_0] at c_5
        refine lv_iload_n hx hb dX9_slot_11 rfl (lv_at hl 2 rfl) ?_
        refine lv_iconst (v := 4) hx hb dX9_slot_12 (by decide) ?_
        refine lv_icmp_gt (tgt := 23) hx hb dX9_slot_13 (by decide) (fun c_6 => ?_) (fun c_6 => ?_)
        · simp only [i_lt, i_le, i_eq, ti_4] at c_6
          refine lv_iconst (v := 0) hx hb dX9_slot_23 (by decide) ?_
          refine W_msr2 (fun hm1 hm2 hm3 => ?_)
          exact W.zret (v := 0) hx hb hr rfl (fun t ht hW => ⟨⟨0, (ad, ga, gc, M, n, f, T, G, K, F), rfl, (Or.inr ⟨rfl, (by show ((C9.mk n f T G K F), (0 : Int32)) = k_slot v1 v2 v3 (C9.mk n f T G K F); have hX := (k_slot.eq_1 v1 v2 v3 (C9.mk n f T G K F)).symm; (repeat (first | dsimp +instances only [c9n, c9f, c9T, c9G, c9K, c9F, b_come, b_leave, b_fill, awB, b_settle, b_wake, b_take, f_take, b_gather, f_gather, b_ask, a_ask, b_tell, c_close, d_close, k_add, k_rem, sco, k_clrF, k_mem, k_rebind, k_bnd, k_beg0, k_beg1, b_giveN, b_giveR, f_open, b_hand, k_op, b_turn, wlB, b_beat, f_anew, b_wipe, b_off, k_sadd, fits, frP, cntB, b_trace, b_child, k_lat, cond_true, cond_false, Option.elim_none, Option.elim_some, Option.getD_none, Option.getD_some] at hX | rw [if_pos (by first | with_reducible assumption | omega)] at hX | rw [if_neg (by first | with_reducible assumption | omega)] at hX | rw [jx_of (by omega)] at hX)); first | exact hX | (exfalso; omega) | exact hX)⟩), ws, by rw [ht]; exact hP, hD, hQ, ⟨h_i1, h_i2, h_i3, h_i4, h_i5, h_i6, h_i7, h_i8, h_i9, h_i10, h_i11⟩, by rw [ht]; show hpS H + (260 * M + 2 * S9 M gc) ≤ hpS s.heap + (260 * M + 2 * S9 M gc); omega, by rw [ht]; show 16 * H.size + (256 * M + S9 M gc) ≤ 16 * s.heap.size + (256 * M + S9 M gc); omega⟩, hS.F ht⟩) hS.2.2 dX9_slot_24
        · simp only [i_lt, i_le, i_eq, ti_4] at c_6
          exact by
           refine lv_aload_n hx hb dX9_slot_16 rfl (lv_at hl 0 rfl) ?_
           refine va_get (D := (dC, dI)) (ci := 9) (v := .int (n 0)) (C := RX9) (T := TX9) (N := 15) hx hb hg gb_9 hown hK hP 0 hQ.x0 rfl 5 (by decide) (hg _ gm_fieldLink_RX9_66_ErrandGuild_runCount_I_) (fun _ h9 => h9) rfl dX9_slot_17 ?_
           refine lv_if_le (tgt := 25) hx hb dX9_slot_20 (by decide) (fun c_7 => ?_) (fun c_7 => ?_)
           · simp only [i_lt, i_le, i_eq, ti_0] at c_7
             refine lv_aload_n hx hb dX9_slot_25 rfl (lv_at hl 0 rfl) ?_
             refine va_get (D := (dC, dI)) (ci := 9) (v := .ref (ad 1)) (C := RX9) (T := TX9) (N := 15) hx hb hg gb_9 hown hK hP 0 hQ.x0 rfl 0 (by decide) (hg _ gm_fieldLink_RX9_9_ErrandGuild_manners_AI_) (fun _ h9 => h9) rfl dX9_slot_26 ?_
             refine lv_iload_n hx hb dX9_slot_29 rfl (lv_at hl 1 rfl) ?_
             refine lv_iload_n hx hb dX9_slot_30 rfl (lv_at hl 2 rfl) ?_
             refine va_iast (f := f 0) hx hb hK hP hD hS 1 0 hQ.x1 rfl (vp_in_iff.mpr ⟨by omega, by omega⟩) dX9_slot_31 (fun H locs hP hD hS => ?_)
             obtain ⟨ws_9, f_8, ef_8, hP, hD, hQ⟩ : ∃ (ws_9 : va_W) (f_8 : Nat → Nat → Int32), f_8 = u1 f 0 (upd (f 0) v1.toInt.toNat v2) ∧ va_P (dC, dI) vwCl ws_9 H ∧ va_D A ws_9 ∧ Pic9 kc ws_9 ad ga gc M n f_8 T G K F := ⟨_, _, rfl, hP, hD, hQ.fxA 1 0 (by decide) (upd (f 0) v1.toInt.toNat v2) (by show _ = (_, _); rw [u1_eq]; try rfl)⟩
             have i11_10 : i11 M n gc f_8 G F := by rw [ef_8]; exact (i11.pf h_i11 _ (by decide))
             refine lv_aload_n hx hb dX9_slot_32 rfl (lv_at hl 0 rfl) ?_
             exact by
              refine va_get (D := (dC, dI)) (ci := 9) (v := .ref (ad 2)) (C := RX9) (T := TX9) (N := 15) hx hb hg gb_9 hown hK hP 0 hQ.x0 rfl 1 (by decide) (hg _ gm_fieldLink_RX9_13_ErrandGuild_firsts_AI_) (fun _ h9 => h9) rfl dX9_slot_33 ?_
              refine lv_iload_n hx hb dX9_slot_36 rfl (lv_at hl 1 rfl) ?_
              refine lv_iload_n hx hb dX9_slot_37 rfl (lv_at hl 3 rfl) ?_
              refine va_iast (f := f_8 1) hx hb hK hP hD hS 2 0 hQ.x2 rfl (vp_in_iff.mpr ⟨by omega, by omega⟩) dX9_slot_38 (fun H locs hP hD hS => ?_)
              obtain ⟨ws_12, f_11, ef_11, hP, hD, hQ⟩ : ∃ (ws_12 : va_W) (f_11 : Nat → Nat → Int32), f_11 = u1 f_8 1 (upd (f_8 1) v1.toInt.toNat v3) ∧ va_P (dC, dI) vwCl ws_12 H ∧ va_D A ws_12 ∧ Pic9 kc ws_12 ad ga gc M n f_11 T G K F := ⟨_, _, rfl, hP, hD, hQ.fxA 2 1 (by decide) (upd (f_8 1) v1.toInt.toNat v3) (by show _ = (_, _); rw [u1_eq]; try rfl)⟩
              have i11_13 : i11 M n gc f_11 G F := by rw [ef_11]; exact (i11.pf i11_10 _ (by decide))
              refine lv_iconst (v := 1) hx hb dX9_slot_39 (by decide) ?_
              refine W_msr2 (fun hm1 hm2 hm3 => ?_)
              exact W.zret (v := 1) hx hb hr rfl (fun t ht hW => ⟨⟨1, (ad, ga, gc, M, n, f_11, T, G, K, F), rfl, (Or.inl ⟨rfl, (by show ((C9.mk n f_11 T G K F), (1 : Int32)) = k_slot v1 v2 v3 (C9.mk n f T G K F); subst ef_8; subst ef_11; have hX := (k_slot.eq_1 v1 v2 v3 (C9.mk n f T G K F)).symm; (repeat (first | dsimp +instances only [c9n, c9f, c9T, c9G, c9K, c9F, b_come, b_leave, b_fill, awB, b_settle, b_wake, b_take, f_take, b_gather, f_gather, b_ask, a_ask, b_tell, c_close, d_close, k_add, k_rem, sco, k_clrF, k_mem, k_rebind, k_bnd, k_beg0, k_beg1, b_giveN, b_giveR, f_open, b_hand, k_op, b_turn, wlB, b_beat, f_anew, b_wipe, b_off, k_sadd, fits, frP, cntB, b_trace, b_child, k_lat, cond_true, cond_false, Option.elim_none, Option.elim_some, Option.getD_none, Option.getD_some] at hX | rw [if_pos (by first | with_reducible assumption | omega)] at hX | rw [if_neg (by first | with_reducible assumption | omega)] at hX | rw [jx_of (by omega)] at hX)); first | exact hX | (exfalso; omega) | exact hX)⟩), ws_12, by rw [ht]; exact hP, hD, hQ, ⟨h_i1, h_i2, h_i3, h_i4, h_i5, h_i6, h_i7, h_i8, h_i9, h_i10, i11_13⟩, by rw [ht]; show hpS H + (260 * M + 2 * S9 M gc) ≤ hpS s.heap + (260 * M + 2 * S9 M gc); omega, by rw [ht]; show 16 * H.size + (256 * M + S9 M gc) ≤ 16 * s.heap.size + (256 * M + S9 M gc); omega⟩, hS.F ht⟩) hS.2.2 dX9_slot_40
           · simp only [i_lt, i_le, i_eq, ti_0] at c_7
             refine lv_iconst (v := 0) hx hb dX9_slot_23 (by decide) ?_
             refine W_msr2 (fun hm1 hm2 hm3 => ?_)
             exact W.zret (v := 0) hx hb hr rfl (fun t ht hW => ⟨⟨0, (ad, ga, gc, M, n, f, T, G, K, F), rfl, (Or.inr ⟨rfl, (by show ((C9.mk n f T G K F), (0 : Int32)) = k_slot v1 v2 v3 (C9.mk n f T G K F); have hX := (k_slot.eq_1 v1 v2 v3 (C9.mk n f T G K F)).symm; (repeat (first | dsimp +instances only [c9n, c9f, c9T, c9G, c9K, c9F, b_come, b_leave, b_fill, awB, b_settle, b_wake, b_take, f_take, b_gather, f_gather, b_ask, a_ask, b_tell, c_close, d_close, k_add, k_rem, sco, k_clrF, k_mem, k_rebind, k_bnd, k_beg0, k_beg1, b_giveN, b_giveR, f_open, b_hand, k_op, b_turn, wlB, b_beat, f_anew, b_wipe, b_off, k_sadd, fits, frP, cntB, b_trace, b_child, k_lat, cond_true, cond_false, Option.elim_none, Option.elim_some, Option.getD_none, Option.getD_some] at hX | rw [if_pos (by first | with_reducible assumption | omega)] at hX | rw [if_neg (by first | with_reducible assumption | omega)] at hX | rw [jx_of (by omega)] at hX)); first | exact hX | (exfalso; omega) | exact hX)⟩), ws, by rw [ht]; exact hP, hD, hQ, ⟨h_i1, h_i2, h_i3, h_i4, h_i5, h_i6, h_i7, h_i8, h_i9, h_i10, h_i11⟩, by rw [ht]; show hpS H + (260 * M + 2 * S9 M gc) ≤ hpS s.heap + (260 * M + 2 * S9 M gc); omega, by rw [ht]; show 16 * H.size + (256 * M + S9 M gc) ≤ 16 * s.heap.size + (256 * M + S9 M gc); omega⟩, hS.F ht⟩) hS.2.2 dX9_slot_24
   · refine lv_if_eq (tgt := 23) hx hb dX9_slot_4 (by decide) (fun _ => ?_) (fun c_14 => absurd c_14 (by decide))
     refine lv_iconst (v := 0) hx hb dX9_slot_23 (by decide) ?_
     refine W_msr2 (fun hm1 hm2 hm3 => ?_)
     exact W.zret (v := 0) hx hb hr rfl (fun t ht hW => ⟨⟨0, (ad, ga, gc, M, n, f, T, G, K, F), rfl, (Or.inr ⟨rfl, (by show ((C9.mk n f T G K F), (0 : Int32)) = k_slot v1 v2 v3 (C9.mk n f T G K F); have hX := (k_slot.eq_1 v1 v2 v3 (C9.mk n f T G K F)).symm; (repeat (first | dsimp +instances only [c9n, c9f, c9T, c9G, c9K, c9F, b_come, b_leave, b_fill, awB, b_settle, b_wake, b_take, f_take, b_gather, f_gather, b_ask, a_ask, b_tell, c_close, d_close, k_add, k_rem, sco, k_clrF, k_mem, k_rebind, k_bnd, k_beg0, k_beg1, b_giveN, b_giveR, f_open, b_hand, k_op, b_turn, wlB, b_beat, f_anew, b_wipe, b_off, k_sadd, fits, frP, cntB, b_trace, b_child, k_lat, cond_true, cond_false, Option.elim_none, Option.elim_some, Option.getD_none, Option.getD_some] at hX | rw [if_pos (by first | with_reducible assumption | omega)] at hX | rw [if_neg (by first | with_reducible assumption | omega)] at hX | rw [jx_of (by omega)] at hX)); first | exact hX | (exfalso; omega) | exact hX)⟩), ws, by rw [ht]; exact hP, hD, hQ, ⟨h_i1, h_i2, h_i3, h_i4, h_i5, h_i6, h_i7, h_i8, h_i9, h_i10, h_i11⟩, by rw [ht]; show hpS H + (260 * M + 2 * S9 M gc) ≤ hpS s.heap + (260 * M + 2 * S9 M gc); omega, by rw [ht]; show 16 * H.size + (256 * M + S9 M gc) ≤ 16 * s.heap.size + (256 * M + S9 M gc); omega⟩, hS.F ht⟩) hS.2.2 dX9_slot_24

set_option maxHeartbeats 8000000 in
set_option maxRecDepth 100000 in
theorem c9_X9_first (l : Launch) (dC : Nat → ClassId) (dI : Nat → Nat → Nat) (kc : Nat → ClassId) (ws : va_W) (ad : Nat → Nat) (ga : Nat → Nat) (gc : Nat → Nat) (M : Nat) (n : Nat → Int32) (f : Nat → Nat → Int32) (T : Nat → Option Nat) (G : Nat → Nat → Int32) (K : Nat → Nat → Option Nat) (F : Nat → Nat → Nat → Int32) (R : Nat) (v1 : Int32) (v2 : Int32) (sz hz : Nat) (hQ : Pic9 kc ws ad ga gc M n f T G K F) (hI : I9 M n f T gc G K F R) : Met l yX9_first (.code yX9_first cX9_first 3 (some .boolean) :: gw) ({ frames := 1, cells := 0, slots := 0, locals := 20 }) (va_Pc [.ref (ad 0), .int v1, .int v2] (fun U => U.heap.size = sz ∧ hpS U.heap = hz ∧ va_P (dC, dI) vwCl ws U.heap ∧ va_K (dC, dI) vwCl (t9 kc) U ∧ va_D (fun _ => True) ws ∧ nx U)) (va_Qi (fun (r : Int32) (u : (Nat → Nat) × (Nat → Nat) × (Nat → Nat) × Nat × (Nat → Int32) × (Nat → Nat → Int32) × (Nat → Option Nat) × (Nat → Nat → Int32) × (Nat → Nat → Option Nat) × (Nat → Nat → Nat → Int32)) => (r = 1 ∧ ((C9.mk n u.2.2.2.2.2.1 T G K F), r) = k_first v1 v2 (C9.mk n f T G K F)) ∨ (r = 0 ∧ ((C9.mk n u.2.2.2.2.2.1 T G K F), r) = k_first v1 v2 (C9.mk n f T G K F))) (fun u t => ∃ w : va_W, va_P (dC, dI) vwCl w t.heap ∧ va_D (va_A ws sz) w ∧ Pic9 kc w ad ga gc M n u.2.2.2.2.2.1 T G K F ∧ I9 M n u.2.2.2.2.2.1 T gc G K F R ∧ hpS t.heap + (260 * M + 2 * S9 M gc) ≤ hz + (260 * M + 2 * S9 M gc) ∧ 16 * t.heap.size + (256 * M + S9 M gc) ≤ 16 * sz + (256 * M + S9 M gc)) (va_A ws sz)) 0 0 (va_A ws sz) := by
  refine Met.ofW (cc := cX9_first) (maxL := 3) (ret := (some .boolean)) (by decide) rfl ?_
  intro p e s m args below meth c s₁ B hml hv
  obtain ⟨rfl, hsz, rfl, hP, hK, hD0, hN⟩ := hv
  have hx := B.exec
  have hb := B.bytes
  have hr := B.returns
  have hts := atoms_spec (ws := .code yX9_first cX9_first 3 (some .boolean) :: gw) B.pre
  have hg : ∀ w ∈ gw, w.before _ s = true := fun w h => hts w (List.mem_cons_of_mem _ h)
  have hown : s.vm.findClass RX9 = some m.cls := findClass_of_methodNamed B.named
  have hlocks := B.notSynchronized
  subst hsz
  have hD := hD0.self (sz := s.heap.size)
  generalize hAe : va_A ws s.heap.size = A at hD ⊢
  have hA : ∀ q : Nat, s.heap.size ≤ q → A q := fun q h => by rw [← hAe]; exact Or.inr h
  clear hAe
  have hS : va_S A s.heap s.heap [] := va_S.rf
  have hl := lv_entry ([.ref (ad 0), .int v1, .int v2]) (n := 3) (Nat.le_of_ble_eq_true rfl)
  rw [lg_entry_eq]
  generalize (lg_sl ([.ref (ad 0), .int v1, .int v2]) ++ List.replicate (3 - (lg_sl ([.ref (ad 0), .int v1, .int v2])).length) Slot.unset).toArray = ls at hl ⊢
  have hl : lv_has ls 3 [(0, .ref (ad 0)), (1, .int v1), (2, .int v2)] := hl
  obtain ⟨h_i1, h_i2, h_i3, h_i4, h_i5, h_i6, h_i7, h_i8, h_i9, h_i10, h_i11⟩ := id hI
  have q1_ := h_i1
  unfold i1 at q1_
  exact by
   refine lv_iload_n hx hb dX9_first_0 rfl (lv_at hl 1 rfl) ?_
   have hCc : ([] : List Nat).map (fun i => ws[i]?) = ([] : va_W).map some := rfl
   have hNd : ([] : List Nat).Nodup := List.nodup_nil
   have hPc := hP.pick [] hCc
   have hDc := hD.pick [] hNd hCc
   have hKc := hK.sub (tys' := []) [] rfl
   have hFc := va_free (wc := []) hD hS hA [] hCc
   refine va_calli (va_runS (As := [.int v1]) (rest := []) ⟨hx, hb, hml, hown, hg⟩ (c_X9_isSlot l dC dI v1 s.heap.size ) (va_cwS 1 hg (gw_S gm_methodLink_RX9_62_yX9_isSlot gm_static_yX9_isSlot gm_initialized_RX9 gm_code_yX9_isSlot_cX9_isSlot_1_some_boolean_) rfl rfl rfl (by decide +kernel) ⟨Nat.le_of_ble_eq_true rfl, Nat.le_of_ble_eq_true rfl⟩) ⟨fun a U g mk q => by obtain ⟨q0, q1, qP, qK, qD, qN⟩ := q; exact ⟨q0, q1, qP, va_K.moved (u := U) (U := U.calling g mk a) (Vm.Alike.refl U.vm) qK, qD, nx_same (u := U) (U := U.calling g mk a) rfl qN⟩, fun U hU hW => ⟨rfl, by rw [hU], by rw [hU]; exact hPc, va_K.moved hW.alike hKc, hDc.weaken (fun _ _ _ _ => trivial), nx_warm hW hN⟩⟩ rfl rfl hl.1 rfl (lv_room (Nat.le_of_ble_eq_true rfl)) dX9_first_1 ⟨Nat.le_of_ble_eq_true rfl, Nat.le_of_ble_eq_true rfl⟩) hS (fun q _ h => hFc q h) hFc (fun r_1 u_2 t H1 locs ht hvm hw hB hz1 hk1 hS => ?_)
   obtain ⟨hP, hD⟩ := va_replS hP hD [] rfl List.nodup_nil hk1 hFc nil_P nil_D
   generalize H1 = H at hP hS ⊢
   rcases hw with ⟨rfl, w_3⟩ | ⟨rfl, w_3⟩
   · refine lv_if_ne (tgt := 9) hx hb dX9_first_4 (by decide) (fun _ => ?_) (fun c_4 => absurd c_4 (by decide))
     exact by
      refine lv_aload_n hx hb dX9_first_9 rfl (lv_at hl 0 rfl) ?_
      refine va_get (D := (dC, dI)) (ci := 9) (v := .ref (ad 2)) (C := RX9) (T := TX9) (N := 15) hx hb hg gb_9 hown hK hP 0 hQ.x0 rfl 1 (by decide) (hg _ gm_fieldLink_RX9_13_ErrandGuild_firsts_AI_) (fun _ h9 => h9) rfl dX9_first_10 ?_
      refine lv_iload_n hx hb dX9_first_13 rfl (lv_at hl 1 rfl) ?_
      refine lv_iload_n hx hb dX9_first_14 rfl (lv_at hl 2 rfl) ?_
      refine va_iast (f := f 1) hx hb hK hP hD hS 2 0 hQ.x2 rfl (vp_in_iff.mpr ⟨by omega, by omega⟩) dX9_first_15 (fun H locs hP hD hS => ?_)
      obtain ⟨ws_6, f_5, ef_5, hP, hD, hQ⟩ : ∃ (ws_6 : va_W) (f_5 : Nat → Nat → Int32), f_5 = u1 f 1 (upd (f 1) v1.toInt.toNat v2) ∧ va_P (dC, dI) vwCl ws_6 H ∧ va_D A ws_6 ∧ Pic9 kc ws_6 ad ga gc M n f_5 T G K F := ⟨_, _, rfl, hP, hD, hQ.fxA 2 1 (by decide) (upd (f 1) v1.toInt.toNat v2) (by show _ = (_, _); rw [u1_eq]; try rfl)⟩
      have i11_7 : i11 M n gc f_5 G F := by rw [ef_5]; exact (i11.pf h_i11 _ (by decide))
      refine lv_iconst (v := 1) hx hb dX9_first_16 (by decide) ?_
      refine W_msr2 (fun hm1 hm2 hm3 => ?_)
      exact W.zret (v := 1) hx hb hr rfl (fun t ht hW => ⟨⟨1, (ad, ga, gc, M, n, f_5, T, G, K, F), rfl, (Or.inl ⟨rfl, (by show ((C9.mk n f_5 T G K F), (1 : Int32)) = k_first v1 v2 (C9.mk n f T G K F); subst ef_5; have hX := (k_first.eq_1 v1 v2 (C9.mk n f T G K F)).symm; (repeat (first | dsimp +instances only [c9n, c9f, c9T, c9G, c9K, c9F, b_come, b_leave, b_fill, awB, b_settle, b_wake, b_take, f_take, b_gather, f_gather, b_ask, a_ask, b_tell, c_close, d_close, k_add, k_rem, sco, k_clrF, k_mem, k_rebind, k_bnd, k_beg0, k_beg1, b_giveN, b_giveR, f_open, b_hand, k_op, b_turn, wlB, b_beat, f_anew, b_wipe, b_off, k_sadd, fits, frP, cntB, b_trace, b_child, k_lat, cond_true, cond_false, Option.elim_none, Option.elim_some, Option.getD_none, Option.getD_some] at hX | rw [if_pos (by first | with_reducible assumption | omega)] at hX | rw [if_neg (by first | with_reducible assumption | omega)] at hX | rw [jx_of (by omega)] at hX)); first | exact hX | (exfalso; omega) | exact hX)⟩), ws_6, by rw [ht]; exact hP, hD, hQ, ⟨h_i1, h_i2, h_i3, h_i4, h_i5, h_i6, h_i7, h_i8, h_i9, h_i10, i11_7⟩, by rw [ht]; show hpS H + (260 * M + 2 * S9 M gc) ≤ hpS s.heap + (260 * M + 2 * S9 M gc); omega, by rw [ht]; show 16 * H.size + (256 * M + S9 M gc) ≤ 16 * s.heap.size + (256 * M + S9 M gc); omega⟩, hS.F ht⟩) hS.2.2 dX9_first_17
   · refine lv_if_ne (tgt := 9) hx hb dX9_first_4 (by decide) (fun c_8 => absurd c_8 (by decide)) (fun _ => ?_)
     refine lv_iconst (v := 0) hx hb dX9_first_7 (by decide) ?_
     refine W_msr2 (fun hm1 hm2 hm3 => ?_)
     exact W.zret (v := 0) hx hb hr rfl (fun t ht hW => ⟨⟨0, (ad, ga, gc, M, n, f, T, G, K, F), rfl, (Or.inr ⟨rfl, (by show ((C9.mk n f T G K F), (0 : Int32)) = k_first v1 v2 (C9.mk n f T G K F); have hX := (k_first.eq_1 v1 v2 (C9.mk n f T G K F)).symm; (repeat (first | dsimp +instances only [c9n, c9f, c9T, c9G, c9K, c9F, b_come, b_leave, b_fill, awB, b_settle, b_wake, b_take, f_take, b_gather, f_gather, b_ask, a_ask, b_tell, c_close, d_close, k_add, k_rem, sco, k_clrF, k_mem, k_rebind, k_bnd, k_beg0, k_beg1, b_giveN, b_giveR, f_open, b_hand, k_op, b_turn, wlB, b_beat, f_anew, b_wipe, b_off, k_sadd, fits, frP, cntB, b_trace, b_child, k_lat, cond_true, cond_false, Option.elim_none, Option.elim_some, Option.getD_none, Option.getD_some] at hX | rw [if_pos (by first | with_reducible assumption | omega)] at hX | rw [if_neg (by first | with_reducible assumption | omega)] at hX | rw [jx_of (by omega)] at hX)); first | exact hX | (exfalso; omega) | exact hX)⟩), ws, by rw [ht]; exact hP, hD, hQ, ⟨h_i1, h_i2, h_i3, h_i4, h_i5, h_i6, h_i7, h_i8, h_i9, h_i10, h_i11⟩, by rw [ht]; show hpS H + (260 * M + 2 * S9 M gc) ≤ hpS s.heap + (260 * M + 2 * S9 M gc); omega, by rw [ht]; show 16 * H.size + (256 * M + S9 M gc) ≤ 16 * s.heap.size + (256 * M + S9 M gc); omega⟩, hS.F ht⟩) hS.2.2 dX9_first_8

set_option maxHeartbeats 8000000 in
set_option maxRecDepth 100000 in
theorem c9_X9_threads (l : Launch) (dC : Nat → ClassId) (dI : Nat → Nat → Nat) (kc : Nat → ClassId) (ws : va_W) (ad : Nat → Nat) (ga : Nat → Nat) (gc : Nat → Nat) (M : Nat) (n : Nat → Int32) (f : Nat → Nat → Int32) (T : Nat → Option Nat) (G : Nat → Nat → Int32) (K : Nat → Nat → Option Nat) (F : Nat → Nat → Nat → Int32) (R : Nat) (v1 : Int32) (sz hz : Nat) (hQ : Pic9 kc ws ad ga gc M n f T G K F) (hI : I9 M n f T gc G K F R) : Met l yX9_threads (.code yX9_threads cX9_threads 2 (some .boolean) :: gw) ({ frames := 0, cells := 0, slots := 0, locals := 0 }) (va_Pc [.ref (ad 0), .int v1] (fun U => U.heap.size = sz ∧ hpS U.heap = hz ∧ va_P (dC, dI) vwCl ws U.heap ∧ va_K (dC, dI) vwCl (t9 kc) U ∧ va_D (fun _ => True) ws ∧ nx U)) (va_Qi (fun (r : Int32) (u : (Nat → Nat) × (Nat → Nat) × (Nat → Nat) × Nat × (Nat → Int32) × (Nat → Nat → Int32) × (Nat → Option Nat) × (Nat → Nat → Int32) × (Nat → Nat → Option Nat) × (Nat → Nat → Nat → Int32)) => (r = 1 ∧ ((C9.mk u.2.2.2.2.1 f T G K F), r) = k_threads v1 (C9.mk n f T G K F)) ∨ (r = 0 ∧ ((C9.mk u.2.2.2.2.1 f T G K F), r) = k_threads v1 (C9.mk n f T G K F))) (fun u t => ∃ w : va_W, va_P (dC, dI) vwCl w t.heap ∧ va_D (va_A ws sz) w ∧ Pic9 kc w ad ga gc M u.2.2.2.2.1 f T G K F ∧ I9 M u.2.2.2.2.1 f T gc G K F R ∧ hpS t.heap + (260 * M + 2 * S9 M gc) ≤ hz + (260 * M + 2 * S9 M gc) ∧ 16 * t.heap.size + (256 * M + S9 M gc) ≤ 16 * sz + (256 * M + S9 M gc) ∧ (n 0).toInt ≤ (u.2.2.2.2.1 0).toInt) (va_A ws sz)) 0 0 (va_A ws sz) := by
  refine Met.ofW (cc := cX9_threads) (maxL := 2) (ret := (some .boolean)) (by decide) rfl ?_
  intro p e s m args below meth c s₁ B hml hv
  obtain ⟨rfl, hsz, rfl, hP, hK, hD0, hN⟩ := hv
  have hx := B.exec
  have hb := B.bytes
  have hr := B.returns
  have hts := atoms_spec (ws := .code yX9_threads cX9_threads 2 (some .boolean) :: gw) B.pre
  have hg : ∀ w ∈ gw, w.before _ s = true := fun w h => hts w (List.mem_cons_of_mem _ h)
  have hown : s.vm.findClass RX9 = some m.cls := findClass_of_methodNamed B.named
  have hlocks := B.notSynchronized
  subst hsz
  have hD := hD0.self (sz := s.heap.size)
  generalize hAe : va_A ws s.heap.size = A at hD ⊢
  have hA : ∀ q : Nat, s.heap.size ≤ q → A q := fun q h => by rw [← hAe]; exact Or.inr h
  clear hAe
  have hS : va_S A s.heap s.heap [] := va_S.rf
  have hl := lv_entry ([.ref (ad 0), .int v1]) (n := 2) (Nat.le_of_ble_eq_true rfl)
  rw [lg_entry_eq]
  generalize (lg_sl ([.ref (ad 0), .int v1]) ++ List.replicate (2 - (lg_sl ([.ref (ad 0), .int v1])).length) Slot.unset).toArray = ls at hl ⊢
  have hl : lv_has ls 2 [(0, .ref (ad 0)), (1, .int v1)] := hl
  obtain ⟨h_i1, h_i2, h_i3, h_i4, h_i5, h_i6, h_i7, h_i8, h_i9, h_i10, h_i11⟩ := id hI
  have q1_ := h_i1
  unfold i1 at q1_
  exact by
   refine lv_iload_n hx hb dX9_threads_0 rfl (lv_at hl 1 rfl) ?_
   refine lv_iconst (v := 1) hx hb dX9_threads_1 (by decide) ?_
   refine lv_icmp_lt (tgt := 18) hx hb dX9_threads_2 (by decide) (fun c_1 => ?_) (fun c_1 => ?_)
   · simp only [i_lt, i_le, i_eq, ti_1] at c_1
     refine lv_iconst (v := 0) hx hb dX9_threads_18 (by decide) ?_
     refine W_msr2 (fun hm1 hm2 hm3 => ?_)
     exact W.zret (v := 0) hx hb hr rfl (fun t ht hW => ⟨⟨0, (ad, ga, gc, M, n, f, T, G, K, F), rfl, (Or.inr ⟨rfl, (by show ((C9.mk n f T G K F), (0 : Int32)) = k_threads v1 (C9.mk n f T G K F); have hX := (k_threads.eq_1 v1 (C9.mk n f T G K F)).symm; (repeat (first | dsimp +instances only [c9n, c9f, c9T, c9G, c9K, c9F, b_come, b_leave, b_fill, awB, b_settle, b_wake, b_take, f_take, b_gather, f_gather, b_ask, a_ask, b_tell, c_close, d_close, k_add, k_rem, sco, k_clrF, k_mem, k_rebind, k_bnd, k_beg0, k_beg1, b_giveN, b_giveR, f_open, b_hand, k_op, b_turn, wlB, b_beat, f_anew, b_wipe, b_off, k_sadd, fits, frP, cntB, b_trace, b_child, k_lat, cond_true, cond_false, Option.elim_none, Option.elim_some, Option.getD_none, Option.getD_some] at hX | rw [if_pos (by first | with_reducible assumption | omega)] at hX | rw [if_neg (by first | with_reducible assumption | omega)] at hX | rw [jx_of (by omega)] at hX)); first | exact hX | (exfalso; omega) | exact hX)⟩), ws, by rw [ht]; exact hP, hD, hQ, ⟨h_i1, h_i2, h_i3, h_i4, h_i5, h_i6, h_i7, h_i8, h_i9, h_i10, h_i11⟩, by rw [ht]; show hpS s.heap + (260 * M + 2 * S9 M gc) ≤ hpS s.heap + (260 * M + 2 * S9 M gc); omega, by rw [ht]; show 16 * s.heap.size + (256 * M + S9 M gc) ≤ 16 * s.heap.size + (256 * M + S9 M gc); omega, by show (n 0).toInt ≤ (n 0).toInt; omega⟩, hS.F ht⟩) hS.2.2 dX9_threads_19
   · simp only [i_lt, i_le, i_eq, ti_1] at c_1
     refine lv_iload_n hx hb dX9_threads_5 rfl (lv_at hl 1 rfl) ?_
     refine lv_bipush (v := 6) hx hb dX9_threads_6 (by decide) ?_
     refine lv_icmp_gt (tgt := 18) hx hb dX9_threads_8 (by decide) (fun c_2 => ?_) (fun c_2 => ?_)
     · simp only [i_lt, i_le, i_eq, ti_6] at c_2
       exact by
        refine lv_iconst (v := 0) hx hb dX9_threads_18 (by decide) ?_
        refine W_msr2 (fun hm1 hm2 hm3 => ?_)
        exact W.zret (v := 0) hx hb hr rfl (fun t ht hW => ⟨⟨0, (ad, ga, gc, M, n, f, T, G, K, F), rfl, (Or.inr ⟨rfl, (by show ((C9.mk n f T G K F), (0 : Int32)) = k_threads v1 (C9.mk n f T G K F); have hX := (k_threads.eq_1 v1 (C9.mk n f T G K F)).symm; (repeat (first | dsimp +instances only [c9n, c9f, c9T, c9G, c9K, c9F, b_come, b_leave, b_fill, awB, b_settle, b_wake, b_take, f_take, b_gather, f_gather, b_ask, a_ask, b_tell, c_close, d_close, k_add, k_rem, sco, k_clrF, k_mem, k_rebind, k_bnd, k_beg0, k_beg1, b_giveN, b_giveR, f_open, b_hand, k_op, b_turn, wlB, b_beat, f_anew, b_wipe, b_off, k_sadd, fits, frP, cntB, b_trace, b_child, k_lat, cond_true, cond_false, Option.elim_none, Option.elim_some, Option.getD_none, Option.getD_some] at hX | rw [if_pos (by first | with_reducible assumption | omega)] at hX | rw [if_neg (by first | with_reducible assumption | omega)] at hX | rw [jx_of (by omega)] at hX)); first | exact hX | (exfalso; omega) | exact hX)⟩), ws, by rw [ht]; exact hP, hD, hQ, ⟨h_i1, h_i2, h_i3, h_i4, h_i5, h_i6, h_i7, h_i8, h_i9, h_i10, h_i11⟩, by rw [ht]; show hpS s.heap + (260 * M + 2 * S9 M gc) ≤ hpS s.heap + (260 * M + 2 * S9 M gc); omega, by rw [ht]; show 16 * s.heap.size + (256 * M + S9 M gc) ≤ 16 * s.heap.size + (256 * M + S9 M gc); omega, by show (n 0).toInt ≤ (n 0).toInt; omega⟩, hS.F ht⟩) hS.2.2 dX9_threads_19
     · simp only [i_lt, i_le, i_eq, ti_6] at c_2
       refine lv_aload_n hx hb dX9_threads_11 rfl (lv_at hl 0 rfl) ?_
       refine va_get (D := (dC, dI)) (ci := 9) (v := .int (n 0)) (C := RX9) (T := TX9) (N := 15) hx hb hg gb_9 hown hK hP 0 hQ.x0 rfl 5 (by decide) (hg _ gm_fieldLink_RX9_66_ErrandGuild_runCount_I_) (fun _ h9 => h9) rfl dX9_threads_12 ?_
       refine lv_if_le (tgt := 20) hx hb dX9_threads_15 (by decide) (fun c_3 => ?_) (fun c_3 => ?_)
       · simp only [i_lt, i_le, i_eq, ti_0] at c_3
         refine lv_aload_n hx hb dX9_threads_20 rfl (lv_at hl 0 rfl) ?_
         refine lv_iload_n hx hb dX9_threads_21 rfl (lv_at hl 1 rfl) ?_
         refine va_put (D := (dC, dI)) (ci := 9) (v := .int (v1)) (ty := .int) (C := RX9) (T := TX9) (N := 15) hx hb hg gb_9 tyX9 tyX9_ok nmX9 hown hK hP hD hS 0 hQ.x0 rfl 7 (by decide) (hg _ gm_fieldLink_RX9_38_ErrandGuild_threadCount_I_) (fun _ h9 => h9) rfl (by decide +kernel) rfl rfl (Nat.le_of_ble_eq_true rfl) dX9_threads_22 (fun H locs hP hD hS => ?_)
         obtain ⟨ws_5, n_4, en_4, hP, hD, hQ⟩ : ∃ (ws_5 : va_W) (n_4 : Nat → Int32), n_4 = u1 n 1 v1 ∧ va_P (dC, dI) vwCl ws_5 H ∧ va_D A ws_5 ∧ Pic9 kc ws_5 ad ga gc M n_4 f T G K F := ⟨_, _, rfl, hP, hD, hQ.x9 1 7 (by decide) v1⟩
         have i1_6 : i1 M n_4 := by rw [en_4]; exact (i1.pn h_i1 _ (by decide))
         have i5_7 : i5 n_4 K := by rw [en_4]; exact (i5.pn h_i5 _ (by decide))
         have i6_8 : i6 n_4 T G := by rw [en_4]; exact (i6.pn h_i6 _ (by decide))
         have i7_9 : i7 n_4 G := by rw [en_4]; exact (i7.pn h_i7 _ (by decide))
         have i8_10 : i8 M n_4 gc G := by rw [en_4]; exact (i8.pn h_i8 _ (by decide))
         have i11_11 : i11 M n_4 gc f G F := by rw [en_4]; exact (i11.pn h_i11 _ (by decide))
         have hn_12 : n_4 0 = n 0 := by rw [en_4]; rw [u1_ne _ _ (by decide)]
         have thn_12 := congrArg Int32.toInt hn_12
         exact by
          refine lv_iconst (v := 1) hx hb dX9_threads_25 (by decide) ?_
          refine W_msr2 (fun hm1 hm2 hm3 => ?_)
          exact W.zret (v := 1) hx hb hr rfl (fun t ht hW => ⟨⟨1, (ad, ga, gc, M, n_4, f, T, G, K, F), rfl, (Or.inl ⟨rfl, (by show ((C9.mk n_4 f T G K F), (1 : Int32)) = k_threads v1 (C9.mk n f T G K F); subst en_4; have hX := (k_threads.eq_1 v1 (C9.mk n f T G K F)).symm; (repeat (first | dsimp +instances only [c9n, c9f, c9T, c9G, c9K, c9F, b_come, b_leave, b_fill, awB, b_settle, b_wake, b_take, f_take, b_gather, f_gather, b_ask, a_ask, b_tell, c_close, d_close, k_add, k_rem, sco, k_clrF, k_mem, k_rebind, k_bnd, k_beg0, k_beg1, b_giveN, b_giveR, f_open, b_hand, k_op, b_turn, wlB, b_beat, f_anew, b_wipe, b_off, k_sadd, fits, frP, cntB, b_trace, b_child, k_lat, cond_true, cond_false, Option.elim_none, Option.elim_some, Option.getD_none, Option.getD_some] at hX | rw [if_pos (by first | with_reducible assumption | omega)] at hX | rw [if_neg (by first | with_reducible assumption | omega)] at hX | rw [jx_of (by omega)] at hX)); first | exact hX | (exfalso; omega) | exact hX)⟩), ws_5, by rw [ht]; exact hP, hD, hQ, ⟨i1_6, h_i2, h_i3, h_i4, i5_7, i6_8, i7_9, i8_10, h_i9, h_i10, i11_11⟩, by rw [ht]; show hpS H + (260 * M + 2 * S9 M gc) ≤ hpS s.heap + (260 * M + 2 * S9 M gc); omega, by rw [ht]; show 16 * H.size + (256 * M + S9 M gc) ≤ 16 * s.heap.size + (256 * M + S9 M gc); omega, by show (n 0).toInt ≤ (n_4 0).toInt; omega⟩, hS.F ht⟩) hS.2.2 dX9_threads_26
       · simp only [i_lt, i_le, i_eq, ti_0] at c_3
         refine lv_iconst (v := 0) hx hb dX9_threads_18 (by decide) ?_
         refine W_msr2 (fun hm1 hm2 hm3 => ?_)
         exact W.zret (v := 0) hx hb hr rfl (fun t ht hW => ⟨⟨0, (ad, ga, gc, M, n, f, T, G, K, F), rfl, (Or.inr ⟨rfl, (by show ((C9.mk n f T G K F), (0 : Int32)) = k_threads v1 (C9.mk n f T G K F); have hX := (k_threads.eq_1 v1 (C9.mk n f T G K F)).symm; (repeat (first | dsimp +instances only [c9n, c9f, c9T, c9G, c9K, c9F, b_come, b_leave, b_fill, awB, b_settle, b_wake, b_take, f_take, b_gather, f_gather, b_ask, a_ask, b_tell, c_close, d_close, k_add, k_rem, sco, k_clrF, k_mem, k_rebind, k_bnd, k_beg0, k_beg1, b_giveN, b_giveR, f_open, b_hand, k_op, b_turn, wlB, b_beat, f_anew, b_wipe, b_off, k_sadd, fits, frP, cntB, b_trace, b_child, k_lat, cond_true, cond_false, Option.elim_none, Option.elim_some, Option.getD_none, Option.getD_some] at hX | rw [if_pos (by first | with_reducible assumption | omega)] at hX | rw [if_neg (by first | with_reducible assumption | omega)] at hX | rw [jx_of (by omega)] at hX)); first | exact hX | (exfalso; omega) | exact hX)⟩), ws, by rw [ht]; exact hP, hD, hQ, ⟨h_i1, h_i2, h_i3, h_i4, h_i5, h_i6, h_i7, h_i8, h_i9, h_i10, h_i11⟩, by rw [ht]; show hpS s.heap + (260 * M + 2 * S9 M gc) ≤ hpS s.heap + (260 * M + 2 * S9 M gc); omega, by rw [ht]; show 16 * s.heap.size + (256 * M + S9 M gc) ≤ 16 * s.heap.size + (256 * M + S9 M gc); omega, by show (n 0).toInt ≤ (n 0).toInt; omega⟩, hS.F ht⟩) hS.2.2 dX9_threads_19

set_option maxHeartbeats 8000000 in
set_option maxRecDepth 100000 in
theorem c9_X9_handler (l : Launch) (dC : Nat → ClassId) (dI : Nat → Nat → Nat) (kc : Nat → ClassId) (ws : va_W) (ad : Nat → Nat) (ga : Nat → Nat) (gc : Nat → Nat) (M : Nat) (n : Nat → Int32) (f : Nat → Nat → Int32) (T : Nat → Option Nat) (G : Nat → Nat → Int32) (K : Nat → Nat → Option Nat) (F : Nat → Nat → Nat → Int32) (R : Nat) (v1 : Int32) (v2 : Int32) (v3 : Int32) (v4 : Int32) (sz hz : Nat) (hQ : Pic9 kc ws ad ga gc M n f T G K F) (hI : I9 M n f T gc G K F R) (hz4 : v4.toInt = 0 ∨ v4.toInt = 1) : Met l yX9_handler (.code yX9_handler cX9_handler 6 (some .boolean) :: gw) ({ frames := 2, cells := 0, slots := 0, locals := 41 }) (va_Pc [.ref (ad 0), .int v1, .int v2, .int v3, .int v4] (fun U => U.heap.size = sz ∧ hpS U.heap = hz ∧ va_P (dC, dI) vwCl ws U.heap ∧ va_K (dC, dI) vwCl (t9 kc) U ∧ va_D (fun _ => True) ws ∧ nx U)) (va_Qi (fun (r : Int32) (u : (Nat → Nat) × (Nat → Nat) × (Nat → Nat) × Nat × (Nat → Int32) × (Nat → Nat → Int32) × (Nat → Option Nat) × (Nat → Nat → Int32) × (Nat → Nat → Option Nat) × (Nat → Nat → Nat → Int32)) => (r = 1 ∧ ((C9.mk n u.2.2.2.2.2.1 T G K F), r) = k_handler v1 v2 v3 v4 (C9.mk n f T G K F)) ∨ (r = 0 ∧ ((C9.mk n u.2.2.2.2.2.1 T G K F), r) = k_handler v1 v2 v3 v4 (C9.mk n f T G K F))) (fun u t => ∃ w : va_W, va_P (dC, dI) vwCl w t.heap ∧ va_D (va_A ws sz) w ∧ Pic9 kc w ad ga gc M n u.2.2.2.2.2.1 T G K F ∧ I9 M n u.2.2.2.2.2.1 T gc G K F R ∧ hpS t.heap + (260 * M + 2 * S9 M gc) ≤ hz + (260 * M + 2 * S9 M gc) ∧ 16 * t.heap.size + (256 * M + S9 M gc) ≤ 16 * sz + (256 * M + S9 M gc)) (va_A ws sz)) 0 0 (va_A ws sz) := by
  refine Met.ofW (cc := cX9_handler) (maxL := 6) (ret := (some .boolean)) (by decide) rfl ?_
  intro p e s m args below meth c s₁ B hml hv
  obtain ⟨rfl, hsz, rfl, hP, hK, hD0, hN⟩ := hv
  have hx := B.exec
  have hb := B.bytes
  have hr := B.returns
  have hts := atoms_spec (ws := .code yX9_handler cX9_handler 6 (some .boolean) :: gw) B.pre
  have hg : ∀ w ∈ gw, w.before _ s = true := fun w h => hts w (List.mem_cons_of_mem _ h)
  have hown : s.vm.findClass RX9 = some m.cls := findClass_of_methodNamed B.named
  have hlocks := B.notSynchronized
  subst hsz
  have hD := hD0.self (sz := s.heap.size)
  generalize hAe : va_A ws s.heap.size = A at hD ⊢
  have hA : ∀ q : Nat, s.heap.size ≤ q → A q := fun q h => by rw [← hAe]; exact Or.inr h
  clear hAe
  have hS : va_S A s.heap s.heap [] := va_S.rf
  have hl := lv_entry ([.ref (ad 0), .int v1, .int v2, .int v3, .int v4]) (n := 6) (Nat.le_of_ble_eq_true rfl)
  rw [lg_entry_eq]
  generalize (lg_sl ([.ref (ad 0), .int v1, .int v2, .int v3, .int v4]) ++ List.replicate (6 - (lg_sl ([.ref (ad 0), .int v1, .int v2, .int v3, .int v4])).length) Slot.unset).toArray = ls at hl ⊢
  have hl : lv_has ls 6 [(0, .ref (ad 0)), (1, .int v1), (2, .int v2), (3, .int v3), (4, .int v4)] := hl
  obtain ⟨h_i1, h_i2, h_i3, h_i4, h_i5, h_i6, h_i7, h_i8, h_i9, h_i10, h_i11⟩ := id hI
  have q1_ := h_i1
  unfold i1 at q1_
  exact by
   refine lv_iload_n hx hb dX9_handler_0 rfl (lv_at hl 1 rfl) ?_
   refine lv_iload_n hx hb dX9_handler_1 rfl (lv_at hl 2 rfl) ?_
   have hCc : ([] : List Nat).map (fun i => ws[i]?) = ([] : va_W).map some := rfl
   have hNd : ([] : List Nat).Nodup := List.nodup_nil
   have hPc := hP.pick [] hCc
   have hDc := hD.pick [] hNd hCc
   have hKc := hK.sub (tys' := []) [] rfl
   have hFc := va_free (wc := []) hD hS hA [] hCc
   refine va_calli (va_runS (As := [.int v1, .int v2]) (rest := []) ⟨hx, hb, hml, hown, hg⟩ (c_X3_indexOf l dC dI v1 v2 s.heap.size ) (va_cwS 2 hg (gw_S gm_methodLink_RX9_103_yX3_indexOf gm_static_yX3_indexOf gm_initialized_RX3 gm_code_yX3_indexOf_cX3_indexOf_2_some_int_) rfl rfl rfl (by decide +kernel) ⟨Nat.le_of_ble_eq_true rfl, Nat.le_of_ble_eq_true rfl⟩) ⟨fun a U g mk q => by obtain ⟨q0, q1, qP, qK, qD, qN⟩ := q; exact ⟨q0, q1, qP, va_K.moved (u := U) (U := U.calling g mk a) (Vm.Alike.refl U.vm) qK, qD, nx_same (u := U) (U := U.calling g mk a) rfl qN⟩, fun U hU hW => ⟨rfl, by rw [hU], by rw [hU]; exact hPc, va_K.moved hW.alike hKc, hDc.weaken (fun _ _ _ _ => trivial), nx_warm hW hN⟩⟩ rfl rfl hl.1 rfl (lv_room (Nat.le_of_ble_eq_true rfl)) dX9_handler_2 ⟨Nat.le_of_ble_eq_true rfl, Nat.le_of_ble_eq_true rfl⟩) hS (fun q _ h => hFc q h) hFc (fun r_1 u_2 t H1 locs ht hvm hw hB hz1 hk1 hS => ?_)
   obtain ⟨hP, hD⟩ := va_replS hP hD [] rfl List.nodup_nil hk1 hFc nil_P nil_D
   generalize H1 = H at hP hS ⊢
   have w_3 : r_1 = hx32 v1 v2 := hw
   exact by
    refine lv_istore (lv' := [(5, .int r_1), (0, .ref (ad 0)), (1, .int v1), (2, .int v2), (3, .int v3), (4, .int v4)]) hx hb dX9_handler_5 hl (by decide) rfl (fun ls hl => ?_)
    refine lv_iload hx hb dX9_handler_7 (lv_at hl 0 rfl) ?_
    refine lv_iconst (v := -1) hx hb dX9_handler_9 (by decide) ?_
    refine lv_icmp_ne (tgt := 15) hx hb dX9_handler_10 (by decide) (fun c_4 => ?_) (fun c_4 => ?_)
    · simp only [i_lt, i_le, i_eq, ti_m1] at c_4
      refine lv_aload_n hx hb dX9_handler_15 rfl (lv_at hl 1 rfl) ?_
      refine va_get (D := (dC, dI)) (ci := 9) (v := .ref (ad 36)) (C := RX9) (T := TX9) (N := 15) hx hb hg gb_9 hown hK hP 0 hQ.x0 rfl 3 (by decide) (hg _ gm_fieldLink_RX9_25_ErrandGuild_handlers_LErrandGuild_Handlers_) (fun _ h9 => h9) rfl dX9_handler_16 ?_
      refine lv_iload hx hb dX9_handler_19 (lv_at hl 0 rfl) ?_
      refine lv_iload_n hx hb dX9_handler_21 rfl (lv_at hl 4 rfl) ?_
      refine lv_iload hx hb dX9_handler_22 (lv_at hl 5 rfl) ?_
      have hCc : ([36, 37, 38, 39] : List Nat).map (fun i => ws[i]?) = ([(ad 36, .inr (3, [.ref (ad 37), .ref (ad 38), .ref (ad 39)])), (ad 37, .inl (kc 1, 17, .inl (f 26))), (ad 38, .inl (kc 0, 17, .inl (f 27))), (ad 39, .inl (kc 1, 17, .inl (f 28)))] : va_W).map some := mp4 hQ.x36 hQ.x37 hQ.x38 hQ.x39
      have hNd : ([36, 37, 38, 39] : List Nat).Nodup := (by decide)
      have hPc := hP.pick [36, 37, 38, 39] hCc
      have hDc := hD.pick [36, 37, 38, 39] hNd hCc
      have hKc := hK.sub (tys' := [((kc 1), .boolean), ((kc 0), .int), ((kc 1), .boolean)]) [1, 0, 1] rfl
      have hFc := va_free (wc := [(ad 36, .inr (3, [.ref (ad 37), .ref (ad 38), .ref (ad 39)])), (ad 37, .inl (kc 1, 17, .inl (f 26))), (ad 38, .inl (kc 0, 17, .inl (f 27))), (ad 39, .inl (kc 1, 17, .inl (f 28)))]) hD hS hA [36, 37, 38, 39] hCc
      exact by
       refine va_callv (va_runV (As := [.int r_1, .int v3, .int v4]) (rest := []) ⟨hx, hb, hml, hown, hg⟩ (c_X3_put l dC dI (ad 36) (ad 37) (ad 38) (ad 39) (kc 1) (kc 0) (kc 1) (f 26) (f 27) (f 28) r_1 v3 v4 H.size (by show v4.toInt = 0 ∨ v4.toInt = 1; omega)) (cwV 3 hg (gw_V gm_methodLink_RX9_107_yX3_put gm_instanceMethod_yX3_put gm_selects_RX3_yX3_put_yX3_put gm_initialized_RX3 gm_code_yX3_put_cX3_put_4_none) rfl rfl rfl (by decide +kernel) ⟨Nat.le_of_ble_eq_true rfl, Nat.le_of_ble_eq_true rfl⟩) ⟨fun a U g mk q => by obtain ⟨q0, q1, qP, qK, qD, qN⟩ := q; exact ⟨q0, q1, qP, va_K.moved (u := U) (U := U.calling g mk a) (Vm.Alike.refl U.vm) qK, qD, nx_same (u := U) (U := U.calling g mk a) rfl qN⟩, va_recv hK hP (ci := 3) (q0 := 36) rfl hQ.x36, fun U hU hW => ⟨rfl, by rw [hU], by rw [hU]; exact hPc, va_K.moved hW.alike hKc, hDc.weaken (fun _ _ _ _ => trivial), nx_warm hW hN⟩⟩ rfl rfl hl.1 rfl (lv_room (Nat.le_of_ble_eq_true rfl)) dX9_handler_24 ⟨Nat.le_of_ble_eq_true rfl, Nat.le_of_ble_eq_true rfl⟩) hS (fun q _ h => hFc q h) hFc (fun u_6 t H1 locs ht hvm hw hB hz1 hk1 hS => ?_)
       obtain ⟨ad_7, ac_8, af_9, ag_10⟩ := u_6
       obtain ⟨hP1, hD1, hK1, qe_11, qe_12, qe_13⟩ := hB
       rw [ht] at hP1
       have hP1 : va_P (dC, dI) vwCl [((ad 36), .inr (3, [.ref (ad 37), .ref (ad 38), .ref (ad 39)])), ((ad 37), .inl ((kc 1), 17, .inl (af_9 0))), ((ad 38), .inl ((kc 0), 17, .inl (af_9 1))), ((ad 39), .inl ((kc 1), 17, .inl (af_9 2)))] H1 := hP1
       have hD1 : va_D _ [((ad 36), .inr (3, [.ref (ad 37), .ref (ad 38), .ref (ad 39)])), ((ad 37), .inl ((kc 1), 17, .inl (af_9 0))), ((ad 38), .inl ((kc 0), 17, .inl (af_9 1))), ((ad 39), .inl ((kc 1), 17, .inl (af_9 2)))] := hD1
       have qe_11 : (af_9 0) = st17 (f 26) r_1 1 := qe_11
       have qe_12 : (af_9 1) = st17 (f 27) r_1 v3 := qe_12
       have qe_13 : (af_9 2) = st17 (f 28) r_1 v4 := qe_13
       rw [qe_11, qe_12, qe_13] at hP1 hD1
       obtain ⟨hP, hD⟩ := va_repl (w1 := [((ad 36), .inr (3, [.ref (ad 37), .ref (ad 38), .ref (ad 39)])), ((ad 37), .inl ((kc 1), 17, .inl (st17 (f 26) r_1 1))), ((ad 38), .inl ((kc 0), 17, .inl (st17 (f 27) r_1 v3))), ((ad 39), .inl ((kc 1), 17, .inl (st17 (f 28) r_1 v4)))]) hP hD [36, 37, 38, 39] hCc hNd rfl hk1 hFc hP1 hD1
       obtain ⟨ws_15, f_14, ef_14, hP, hD, hQ⟩ : ∃ (ws_15 : va_W) (f_14 : Nat → Nat → Int32), f_14 = u1 (u1 (u1 f 26 (st17 (f 26) r_1 1)) 27 (st17 (f 27) r_1 v3)) 28 (st17 (f 28) r_1 v4) ∧ va_P (dC, dI) vwCl ws_15 H1 ∧ va_D A ws_15 ∧ Pic9 kc ws_15 ad ga gc M n f_14 T G K F := ⟨_, _, rfl, hP, hD, (((hQ.same hQ.x36).fxA 37 26 (by decide) (st17 (f 26) r_1 1) (by show _ = (_, _); rw [u1_eq])).fxA 38 27 (by decide) (st17 (f 27) r_1 v3) (by show _ = (_, _); rw [u1_eq])).fxA 39 28 (by decide) (st17 (f 28) r_1 v4) (by show _ = (_, _); rw [u1_eq])⟩
       have i11_16 : i11 M n gc f_14 G F := by rw [ef_14]; exact (i11.pf (i11.pf (i11.pf h_i11 _ (by decide)) _ (by decide)) _ (by decide))
       generalize H1 = H at hP hS ⊢
       exact by
        refine lv_iconst (v := 1) hx hb dX9_handler_27 (by decide) ?_
        refine W_msr2 (fun hm1 hm2 hm3 => ?_)
        exact W.zret (v := 1) hx hb hr rfl (fun t ht hW => ⟨⟨1, (ad, ga, gc, M, n, f_14, T, G, K, F), rfl, (Or.inl ⟨rfl, (by show ((C9.mk n f_14 T G K F), (1 : Int32)) = k_handler v1 v2 v3 v4 (C9.mk n f T G K F); subst ef_14; have hX := (k_handler.eq_1 v1 v2 v3 v4 (C9.mk n f T G K F)).symm; (repeat (first | dsimp +instances only [c9n, c9f, c9T, c9G, c9K, c9F, b_come, b_leave, b_fill, awB, b_settle, b_wake, b_take, f_take, b_gather, f_gather, b_ask, a_ask, b_tell, c_close, d_close, k_add, k_rem, sco, k_clrF, k_mem, k_rebind, k_bnd, k_beg0, k_beg1, b_giveN, b_giveR, f_open, b_hand, k_op, b_turn, wlB, b_beat, f_anew, b_wipe, b_off, k_sadd, fits, frP, cntB, b_trace, b_child, k_lat, cond_true, cond_false, Option.elim_none, Option.elim_some, Option.getD_none, Option.getD_some] at hX | rw [← w_3] at hX | rw [if_pos (by first | with_reducible assumption | omega)] at hX | rw [if_neg (by first | with_reducible assumption | omega)] at hX | rw [jx_of (by omega)] at hX)); first | exact hX | (exfalso; omega) | exact hX)⟩), ws_15, by rw [ht]; exact hP, hD, hQ, ⟨h_i1, h_i2, h_i3, h_i4, h_i5, h_i6, h_i7, h_i8, h_i9, h_i10, i11_16⟩, by rw [ht]; show hpS H + (260 * M + 2 * S9 M gc) ≤ hpS s.heap + (260 * M + 2 * S9 M gc); omega, by rw [ht]; show 16 * H.size + (256 * M + S9 M gc) ≤ 16 * s.heap.size + (256 * M + S9 M gc); omega⟩, hS.F ht⟩) hS.2.2 dX9_handler_28
    · simp only [i_lt, i_le, i_eq, ti_m1] at c_4
      refine lv_iconst (v := 0) hx hb dX9_handler_13 (by decide) ?_
      refine W_msr2 (fun hm1 hm2 hm3 => ?_)
      exact W.zret (v := 0) hx hb hr rfl (fun t ht hW => ⟨⟨0, (ad, ga, gc, M, n, f, T, G, K, F), rfl, (Or.inr ⟨rfl, (by show ((C9.mk n f T G K F), (0 : Int32)) = k_handler v1 v2 v3 v4 (C9.mk n f T G K F); have hX := (k_handler.eq_1 v1 v2 v3 v4 (C9.mk n f T G K F)).symm; (repeat (first | dsimp +instances only [c9n, c9f, c9T, c9G, c9K, c9F, b_come, b_leave, b_fill, awB, b_settle, b_wake, b_take, f_take, b_gather, f_gather, b_ask, a_ask, b_tell, c_close, d_close, k_add, k_rem, sco, k_clrF, k_mem, k_rebind, k_bnd, k_beg0, k_beg1, b_giveN, b_giveR, f_open, b_hand, k_op, b_turn, wlB, b_beat, f_anew, b_wipe, b_off, k_sadd, fits, frP, cntB, b_trace, b_child, k_lat, cond_true, cond_false, Option.elim_none, Option.elim_some, Option.getD_none, Option.getD_some] at hX | rw [← w_3] at hX | rw [if_pos (by first | with_reducible assumption | omega)] at hX | rw [if_neg (by first | with_reducible assumption | omega)] at hX | rw [jx_of (by omega)] at hX)); first | exact hX | (exfalso; omega) | exact hX)⟩), ws, by rw [ht]; exact hP, hD, hQ, ⟨h_i1, h_i2, h_i3, h_i4, h_i5, h_i6, h_i7, h_i8, h_i9, h_i10, h_i11⟩, by rw [ht]; show hpS H + (260 * M + 2 * S9 M gc) ≤ hpS s.heap + (260 * M + 2 * S9 M gc); omega, by rw [ht]; show 16 * H.size + (256 * M + S9 M gc) ≤ 16 * s.heap.size + (256 * M + S9 M gc); omega⟩, hS.F ht⟩) hS.2.2 dX9_handler_14

theorem fits_of {o a b t : Int} (h : ((0 ≤ o ∧ o ≤ 3 ∧ 0 ≤ a ∧ a < 8) ∨ (o = 4 ∧ 0 ≤ a ∧ a < 8 ∧ (b = 0 ∨ b = 1)) ∨ (o = 5 ∧ 0 ≤ a ∧ a < 8 ∧ 2 ≤ b ∧ b ≤ 4) ∨ (o = 8 ∧ 0 ≤ a ∧ a < 4) ∨ (o = 9 ∧ 0 ≤ a ∧ a ≤ 8 ∧ t < b ∧ b ≤ 24) ∨ o = 6 ∨ o = 7 ∨ (10 ≤ o ∧ o ≤ 12))) : fits o a b t := by
  rcases h with h | h | h | h | h | h | h | h
  · exact Or.inl ⟨by omega, h.2.2.1, h.2.2.2⟩
  · exact Or.inr (Or.inl h)
  · exact Or.inr (Or.inr (Or.inl h))
  · exact Or.inr (Or.inr (Or.inr (Or.inl h)))
  · exact Or.inr (Or.inr (Or.inr (Or.inr (Or.inl h))))
  · exact Or.inr (Or.inr (Or.inr (Or.inr (Or.inr (Or.inl h)))))
  · exact Or.inr (Or.inr (Or.inr (Or.inr (Or.inr (Or.inr (Or.inl h))))))
  · exact Or.inr (Or.inr (Or.inr (Or.inr (Or.inr (Or.inr (Or.inr (by omega)))))))

set_option maxHeartbeats 8000000 in
set_option maxRecDepth 100000 in
theorem c9_X9_step (l : Launch) (dC : Nat → ClassId) (dI : Nat → Nat → Nat) (kc : Nat → ClassId) (ws : va_W) (ad : Nat → Nat) (ga : Nat → Nat) (gc : Nat → Nat) (M : Nat) (n : Nat → Int32) (f : Nat → Nat → Int32) (T : Nat → Option Nat) (G : Nat → Nat → Int32) (K : Nat → Nat → Option Nat) (F : Nat → Nat → Nat → Int32) (R : Nat) (v1 : Int32) (v2 : Int32) (v3 : Int32) (v4 : Int32) (sz hz : Nat) (hQ : Pic9 kc ws ad ga gc M n f T G K F) (hI : I9 M n f T gc G K F R) : Met l yX9_step (.code yX9_step cX9_step 6 (some .int) :: gw) ({ frames := 2, cells := 0, slots := 0, locals := 43 }) (va_Pc [.ref (ad 0), .int v1, .int v2, .int v3, .int v4] (fun U => U.heap.size = sz ∧ hpS U.heap = hz ∧ va_P (dC, dI) vwCl ws U.heap ∧ va_K (dC, dI) vwCl (t9 kc) U ∧ va_D (fun _ => True) ws ∧ nx U)) (va_Qi (fun (r : Int32) (u : (Nat → Nat) × (Nat → Nat) × (Nat → Nat) × Nat × (Nat → Int32) × (Nat → Nat → Int32) × (Nat → Option Nat) × (Nat → Nat → Int32) × (Nat → Nat → Option Nat) × (Nat → Nat → Nat → Int32)) => ((C9.mk u.2.2.2.2.1 u.2.2.2.2.2.1 T G K F), r) = k_stepIn v1 v2 v3 v4 (C9.mk n f T G K F)) (fun u t => ∃ w : va_W, va_P (dC, dI) vwCl w t.heap ∧ va_D (va_A ws sz) w ∧ Pic9 kc w ad ga gc M u.2.2.2.2.1 u.2.2.2.2.2.1 T G K F ∧ I9 M u.2.2.2.2.1 u.2.2.2.2.2.1 T gc G K F R ∧ hpS t.heap + (260 * M + 2 * S9 M gc) ≤ hz + (260 * M + 2 * S9 M gc) ∧ 16 * t.heap.size + (256 * M + S9 M gc) ≤ 16 * sz + (256 * M + S9 M gc) ∧ (n 0).toInt ≤ (u.2.2.2.2.1 0).toInt) (va_A ws sz)) 0 0 (va_A ws sz) := by
  refine Met.ofW (cc := cX9_step) (maxL := 6) (ret := (some .int)) (by decide) rfl ?_
  intro p e s m args below meth c s₁ B hml hv
  obtain ⟨rfl, hsz, rfl, hP, hK, hD0, hN⟩ := hv
  have hx := B.exec
  have hb := B.bytes
  have hr := B.returns
  have hts := atoms_spec (ws := .code yX9_step cX9_step 6 (some .int) :: gw) B.pre
  have hg : ∀ w ∈ gw, w.before _ s = true := fun w h => hts w (List.mem_cons_of_mem _ h)
  have hown : s.vm.findClass RX9 = some m.cls := findClass_of_methodNamed B.named
  have hlocks := B.notSynchronized
  subst hsz
  have hD := hD0.self (sz := s.heap.size)
  generalize hAe : va_A ws s.heap.size = A at hD ⊢
  have hA : ∀ q : Nat, s.heap.size ≤ q → A q := fun q h => by rw [← hAe]; exact Or.inr h
  clear hAe
  have hS : va_S A s.heap s.heap [] := va_S.rf
  have hl := lv_entry ([.ref (ad 0), .int v1, .int v2, .int v3, .int v4]) (n := 6) (Nat.le_of_ble_eq_true rfl)
  rw [lg_entry_eq]
  generalize (lg_sl ([.ref (ad 0), .int v1, .int v2, .int v3, .int v4]) ++ List.replicate (6 - (lg_sl ([.ref (ad 0), .int v1, .int v2, .int v3, .int v4])).length) Slot.unset).toArray = ls at hl ⊢
  have hl : lv_has ls 6 [(0, .ref (ad 0)), (1, .int v1), (2, .int v2), (3, .int v3), (4, .int v4)] := hl
  obtain ⟨h_i1, h_i2, h_i3, h_i4, h_i5, h_i6, h_i7, h_i8, h_i9, h_i10, h_i11⟩ := id hI
  have q1_ := h_i1
  unfold i1 at q1_
  exact by
   refine lv_aload_n hx hb dX9_step_0 rfl (lv_at hl 0 rfl) ?_
   refine lv_iload_n hx hb dX9_step_1 rfl (lv_at hl 1 rfl) ?_
   have hFc := free_all hD hS hA
   refine va_callq (va_runV (As := [.int v1]) (rest := []) ⟨hx, hb, hml, hown, hg⟩ (c9_X9_errandAt l dC dI kc ws ad ga gc M n f T G K F R v1 s.heap.size (hpS s.heap) hQ ⟨h_i1, h_i2, h_i3, h_i4, h_i5, h_i6, h_i7, h_i8, h_i9, h_i10, h_i11⟩) (cwV 1 hg (gw_V gm_methodLink_RX9_69_yX9_errandAt gm_instanceMethod_yX9_errandAt gm_selects_RX9_yX9_errandAt_yX9_errandAt gm_initialized_RX9 gm_code_yX9_errandAt_cX9_errandAt_2_some_object_ErrandGuild_Errand_) rfl rfl rfl (by decide +kernel) ⟨Nat.le_of_ble_eq_true rfl, Nat.le_of_ble_eq_true rfl⟩) ⟨fun a U g mk q => by obtain ⟨q0, q1, q2, qP, qK, qD, qN⟩ := q; exact ⟨q0, q1, q2, qP, va_K.moved (u := U) (U := U.calling g mk a) (Vm.Alike.refl U.vm) qK, qD, nx_same (u := U) (U := U.calling g mk a) rfl qN⟩, va_recv hK hP (ci := 9) (q0 := 0) rfl hQ.x0, fun U hU hW => ⟨rfl, by rw [hU], by rw [hU], by rw [hU]; exact hP, va_K.moved hW.alike hK, hD.weaken (fun _ _ _ _ => trivial), nx_warm hW hN⟩⟩ rfl rfl hl.1 rfl (lv_room (Nat.le_of_ble_eq_true rfl)) dX9_step_2 ⟨Nat.le_of_ble_eq_true rfl, Nat.le_of_ble_eq_true rfl⟩) hS (fun q _ h => hFc q h) hFc (fun r_1 u_2 t H1 locs ht hvm hw hB hz1 hk1 hS => ?_)
   obtain ⟨hP, hD, hy1, hy2⟩ := hB
   rw [ht] at hP hy1 hy2
   have hD := hD.weaken (fun k q _ h => hFc _ h)
   have q1_ := h_i1
   unfold i1 at q1_
   generalize H1 = H at hP hS ⊢
   rcases hw with ⟨rfl, w_3⟩ | ⟨rfl, w_3⟩
   · have w_3 : (0 ≤ v1.toInt ∧ v1.toInt < 8) := w_3
     have hl_4 : v1.toInt.toNat < 8 := by omega
     refine W.eq (g2 := F0 m 5 ls [.ref (ad (4 + 4 * v1.toInt.toNat))]) rfl ?_
     exact by
      refine lv_astore (lv' := [(5, .ref (ad (4 + 4 * v1.toInt.toNat))), (0, .ref (ad 0)), (1, .int v1), (2, .int v2), (3, .int v3), (4, .int v4)]) hx hb dX9_step_5 hl (by decide) rfl (fun ls hl => ?_)
      refine lv_aload hx hb dX9_step_7 (lv_at hl 0 rfl) ?_
      refine lv_ifnull hx hb dX9_step_9 ?_
      refine lv_aload_n hx hb dX9_step_12 rfl (lv_at hl 1 rfl) ?_
      refine va_get (D := (dC, dI)) (ci := 9) (v := .int (n 0)) (C := RX9) (T := TX9) (N := 15) hx hb hg gb_9 hown hK hP 0 hQ.x0 rfl 5 (by decide) (hg _ gm_fieldLink_RX9_66_ErrandGuild_runCount_I_) (fun _ h9 => h9) rfl dX9_step_13 ?_
      refine lv_if_le (tgt := 21) hx hb dX9_step_16 (by decide) (fun c_5 => ?_) (fun c_5 => ?_)
      · simp only [i_lt, i_le, i_eq, ti_0] at c_5
        refine lv_aload hx hb dX9_step_21 (lv_at hl 0 rfl) ?_
        refine va_get (D := (dC, dI)) (ci := 1) (v := .int (n (6 + v1.toInt.toNat))) (C := RX1) (T := TX1) (N := 4) hx hb hg gb_1 hown hK hP (4 + 4 * v1.toInt.toNat) (hQ.e0 hl_4) rfl 3 (by decide) (hg _ gm_fieldLink_RX9_73_ErrandGuild_Errand_count_I_) (fun _ h9 => h9) rfl dX9_step_23 ?_
        refine lv_bipush (v := 24) hx hb dX9_step_26 (by decide) ?_
        refine lv_icmp_ge (tgt := 46) hx hb dX9_step_28 (by decide) (fun c_6 => ?_) (fun c_6 => ?_)
        · simp only [i_lt, i_le, i_eq, ti_24] at c_6
          exact by
           refine lv_iconst (v := -1) hx hb dX9_step_46 (by decide) ?_
           refine W_msr2 (fun hm1 hm2 hm3 => ?_)
           exact W.iret (v := -1) hx hb hr (fun t ht hW => ⟨⟨-1, (ad, ga, gc, M, n, f, T, G, K, F), rfl, (by show ((C9.mk n f T G K F), (-1 : Int32)) = k_stepIn v1 v2 v3 v4 (C9.mk n f T G K F); have hX := (k_stepIn.eq_1 v1 v2 v3 v4 (C9.mk n f T G K F)).symm; (repeat (first | dsimp +instances only [c9n, c9f, c9T, c9G, c9K, c9F, b_come, b_leave, b_fill, awB, b_settle, b_wake, b_take, f_take, b_gather, f_gather, b_ask, a_ask, b_tell, c_close, d_close, k_add, k_rem, sco, k_clrF, k_mem, k_rebind, k_bnd, k_beg0, k_beg1, b_giveN, b_giveR, f_open, b_hand, k_op, b_turn, wlB, b_beat, f_anew, b_wipe, b_off, k_sadd, fits, frP, cntB, b_trace, b_child, k_lat, cond_true, cond_false, Option.elim_none, Option.elim_some, Option.getD_none, Option.getD_some] at hX | rw [if_neg (by first | with_reducible assumption | omega)] at hX | rw [if_pos (by first | with_reducible assumption | omega)] at hX | rw [jx_of (by omega)] at hX)); first | exact hX | (exfalso; omega) | exact hX), ws, by rw [ht]; exact hP, hD, hQ, ⟨h_i1, h_i2, h_i3, h_i4, h_i5, h_i6, h_i7, h_i8, h_i9, h_i10, h_i11⟩, by rw [ht]; show hpS H + (260 * M + 2 * S9 M gc) ≤ hpS s.heap + (260 * M + 2 * S9 M gc); omega, by rw [ht]; show 16 * H.size + (256 * M + S9 M gc) ≤ 16 * s.heap.size + (256 * M + S9 M gc); omega, by show (n 0).toInt ≤ (n 0).toInt; omega⟩, hS.F ht⟩) hS.2.2 dX9_step_47
        · simp only [i_lt, i_le, i_eq, ti_24] at c_6
          refine lv_iload_n hx hb dX9_step_31 rfl (lv_at hl 3 rfl) ?_
          refine lv_iload_n hx hb dX9_step_32 rfl (lv_at hl 4 rfl) ?_
          refine lv_iload hx hb dX9_step_33 (lv_at hl 5 rfl) ?_
          refine lv_aload hx hb dX9_step_35 (lv_at hl 0 rfl) ?_
          refine va_get (D := (dC, dI)) (ci := 1) (v := .int (n (6 + v1.toInt.toNat))) (C := RX1) (T := TX1) (N := 4) hx hb hg gb_1 hown hK hP (4 + 4 * v1.toInt.toNat) (hQ.e0 hl_4) rfl 3 (by decide) (hg _ gm_fieldLink_RX9_73_ErrandGuild_Errand_count_I_) (fun _ h9 => h9) rfl dX9_step_37 ?_
          have hCc : ([] : List Nat).map (fun i => ws[i]?) = ([] : va_W).map some := rfl
          have hNd : ([] : List Nat).Nodup := List.nodup_nil
          have hPc := hP.pick [] hCc
          have hDc := hD.pick [] hNd hCc
          have hKc := hK.sub (tys' := []) [] rfl
          have hFc := va_free (wc := []) hD hS hA [] hCc
          exact by
           refine va_calli (va_runS (As := [.int v2, .int v3, .int v4, .int (n (6 + v1.toInt.toNat))]) (rest := []) ⟨hx, hb, hml, hown, hg⟩ (c_X9_fits l dC dI v2 v3 v4 (n (6 + v1.toInt.toNat)) H.size ) (va_cwS 4 hg (gw_S gm_methodLink_RX9_76_yX9_fits gm_static_yX9_fits gm_initialized_RX9 gm_code_yX9_fits_cX9_fits_4_some_boolean_) rfl rfl rfl (by decide +kernel) ⟨Nat.le_of_ble_eq_true rfl, Nat.le_of_ble_eq_true rfl⟩) ⟨fun a U g mk q => by obtain ⟨q0, q1, qP, qK, qD, qN⟩ := q; exact ⟨q0, q1, qP, va_K.moved (u := U) (U := U.calling g mk a) (Vm.Alike.refl U.vm) qK, qD, nx_same (u := U) (U := U.calling g mk a) rfl qN⟩, fun U hU hW => ⟨rfl, by rw [hU], by rw [hU]; exact hPc, va_K.moved hW.alike hKc, hDc.weaken (fun _ _ _ _ => trivial), nx_warm hW hN⟩⟩ rfl rfl hl.1 rfl (lv_room (Nat.le_of_ble_eq_true rfl)) dX9_step_40 ⟨Nat.le_of_ble_eq_true rfl, Nat.le_of_ble_eq_true rfl⟩) hS (fun q _ h => hFc q h) hFc (fun r_7 u_8 t H1 locs ht hvm hw hB hz1 hk1 hS => ?_)
           obtain ⟨hP, hD⟩ := va_replS hP hD [] rfl List.nodup_nil hk1 hFc nil_P nil_D
           generalize H1 = H at hP hS ⊢
           rcases hw with ⟨rfl, w_9⟩ | ⟨rfl, w_9⟩
           · refine lv_if_ne (tgt := 48) hx hb dX9_step_43 (by decide) (fun _ => ?_) (fun c_10 => absurd c_10 (by decide))
             refine lv_aload hx hb dX9_step_48 (lv_at hl 0 rfl) ?_
             refine lv_iload_n hx hb dX9_step_50 rfl (lv_at hl 3 rfl) ?_
             refine lv_iload_n hx hb dX9_step_51 rfl (lv_at hl 4 rfl) ?_
             refine lv_iload hx hb dX9_step_52 (lv_at hl 5 rfl) ?_
             have hCc : ([(4 + 4 * v1.toInt.toNat), (4 + 4 * v1.toInt.toNat + 1), (4 + 4 * v1.toInt.toNat + 2), (4 + 4 * v1.toInt.toNat + 3)] : List Nat).map (fun i => ws[i]?) = ([(ad (4 + 4 * v1.toInt.toNat), .inr (1, [.ref (ad (4 + 4 * v1.toInt.toNat + 1)), .ref (ad (4 + 4 * v1.toInt.toNat + 2)), .ref (ad (4 + 4 * v1.toInt.toNat + 3)), .int (n (6 + v1.toInt.toNat))])), (ad (4 + 4 * v1.toInt.toNat + 1), .inl (kc 0, 24, .inl (f (2 + 3 * v1.toInt.toNat)))), (ad (4 + 4 * v1.toInt.toNat + 2), .inl (kc 0, 24, .inl (f (3 + 3 * v1.toInt.toNat)))), (ad (4 + 4 * v1.toInt.toNat + 3), .inl (kc 0, 24, .inl (f (4 + 3 * v1.toInt.toNat))))] : va_W).map some := mp4 (hQ.e0 hl_4) (hQ.e1 hl_4) (hQ.e2 hl_4) (hQ.e3 hl_4)
             have hNd : ([(4 + 4 * v1.toInt.toNat), (4 + 4 * v1.toInt.toNat + 1), (4 + 4 * v1.toInt.toNat + 2), (4 + 4 * v1.toInt.toNat + 3)] : List Nat).Nodup := (nd_off (4 + 4 * v1.toInt.toNat) (l := [0, 1, 2, 3]) (by decide))
             have hPc := hP.pick [(4 + 4 * v1.toInt.toNat), (4 + 4 * v1.toInt.toNat + 1), (4 + 4 * v1.toInt.toNat + 2), (4 + 4 * v1.toInt.toNat + 3)] hCc
             have hDc := hD.pick [(4 + 4 * v1.toInt.toNat), (4 + 4 * v1.toInt.toNat + 1), (4 + 4 * v1.toInt.toNat + 2), (4 + 4 * v1.toInt.toNat + 3)] hNd hCc
             have hKc := hK.sub (tys' := [((kc 0), .int), ((kc 0), .int), ((kc 0), .int)]) [0, 0, 0] rfl
             have hFc := va_free (wc := [(ad (4 + 4 * v1.toInt.toNat), .inr (1, [.ref (ad (4 + 4 * v1.toInt.toNat + 1)), .ref (ad (4 + 4 * v1.toInt.toNat + 2)), .ref (ad (4 + 4 * v1.toInt.toNat + 3)), .int (n (6 + v1.toInt.toNat))])), (ad (4 + 4 * v1.toInt.toNat + 1), .inl (kc 0, 24, .inl (f (2 + 3 * v1.toInt.toNat)))), (ad (4 + 4 * v1.toInt.toNat + 2), .inl (kc 0, 24, .inl (f (3 + 3 * v1.toInt.toNat)))), (ad (4 + 4 * v1.toInt.toNat + 3), .inl (kc 0, 24, .inl (f (4 + 3 * v1.toInt.toNat))))]) hD hS hA [(4 + 4 * v1.toInt.toNat), (4 + 4 * v1.toInt.toNat + 1), (4 + 4 * v1.toInt.toNat + 2), (4 + 4 * v1.toInt.toNat + 3)] hCc
             exact by
              refine va_callv (va_runV (As := [.int v2, .int v3, .int v4]) (rest := []) ⟨hx, hb, hml, hown, hg⟩ (c_X1_add l dC dI (ad (4 + 4 * v1.toInt.toNat)) (ad (4 + 4 * v1.toInt.toNat + 1)) (ad (4 + 4 * v1.toInt.toNat + 2)) (ad (4 + 4 * v1.toInt.toNat + 3)) (kc 0) (kc 0) (kc 0) (f (2 + 3 * v1.toInt.toNat)) (f (3 + 3 * v1.toInt.toNat)) (f (4 + 3 * v1.toInt.toNat)) (n (6 + v1.toInt.toNat)) v2 v3 v4 H.size ) (cwV 3 hg (gw_V gm_methodLink_RX9_80_yX1_add gm_instanceMethod_yX1_add gm_selects_RX1_yX1_add_yX1_add gm_initialized_RX1 gm_code_yX1_add_cX1_add_4_none) rfl rfl rfl (by decide +kernel) ⟨Nat.le_of_ble_eq_true rfl, Nat.le_of_ble_eq_true rfl⟩) ⟨fun a U g mk q => by obtain ⟨q0, q1, qP, qK, qD, qN⟩ := q; exact ⟨q0, q1, qP, va_K.moved (u := U) (U := U.calling g mk a) (Vm.Alike.refl U.vm) qK, qD, nx_same (u := U) (U := U.calling g mk a) rfl qN⟩, va_recv hK hP (ci := 1) (q0 := (4 + 4 * v1.toInt.toNat)) rfl (hQ.e0 hl_4), fun U hU hW => ⟨rfl, by rw [hU], by rw [hU]; exact hPc, va_K.moved hW.alike hKc, hDc.weaken (fun _ _ _ _ => trivial), nx_warm hW hN⟩⟩ rfl rfl hl.1 rfl (lv_room (Nat.le_of_ble_eq_true rfl)) dX9_step_54 ⟨Nat.le_of_ble_eq_true rfl, Nat.le_of_ble_eq_true rfl⟩) hS (fun q _ h => hFc q h) hFc (fun u_12 t H1 locs ht hvm hw hB hz1 hk1 hS => ?_)
              obtain ⟨ad_13, ac_14, af_15, ag_16⟩ := u_12
              obtain ⟨hP1, hD1, hK1, qe_17, qe_18, qe_19, qe_20⟩ := hB
              rw [ht] at hP1
              have hP1 : va_P (dC, dI) vwCl [((ad (4 + 4 * v1.toInt.toNat)), .inr (1, [.ref (ad (4 + 4 * v1.toInt.toNat + 1)), .ref (ad (4 + 4 * v1.toInt.toNat + 2)), .ref (ad (4 + 4 * v1.toInt.toNat + 3)), .int (af_15 3 0)])), ((ad (4 + 4 * v1.toInt.toNat + 1)), .inl ((kc 0), 24, .inl (af_15 0))), ((ad (4 + 4 * v1.toInt.toNat + 2)), .inl ((kc 0), 24, .inl (af_15 1))), ((ad (4 + 4 * v1.toInt.toNat + 3)), .inl ((kc 0), 24, .inl (af_15 2)))] H1 := hP1
              have hD1 : va_D _ [((ad (4 + 4 * v1.toInt.toNat)), .inr (1, [.ref (ad (4 + 4 * v1.toInt.toNat + 1)), .ref (ad (4 + 4 * v1.toInt.toNat + 2)), .ref (ad (4 + 4 * v1.toInt.toNat + 3)), .int (af_15 3 0)])), ((ad (4 + 4 * v1.toInt.toNat + 1)), .inl ((kc 0), 24, .inl (af_15 0))), ((ad (4 + 4 * v1.toInt.toNat + 2)), .inl ((kc 0), 24, .inl (af_15 1))), ((ad (4 + 4 * v1.toInt.toNat + 3)), .inl ((kc 0), 24, .inl (af_15 2)))] := hD1
              have qe_17 : (af_15 0) = bnF (n (6 + v1.toInt.toNat)) (f (2 + 3 * v1.toInt.toNat)) v2 := qe_17
              have qe_18 : (af_15 1) = bnF (n (6 + v1.toInt.toNat)) (f (3 + 3 * v1.toInt.toNat)) v3 := qe_18
              have qe_19 : (af_15 2) = bnF (n (6 + v1.toInt.toNat)) (f (4 + 3 * v1.toInt.toNat)) v4 := qe_19
              have qe_20 : (af_15 3 0) = bnN (n (6 + v1.toInt.toNat)) := qe_20
              rw [qe_17, qe_18, qe_19, qe_20] at hP1 hD1
              obtain ⟨hP, hD⟩ := va_repl (w1 := [((ad (4 + 4 * v1.toInt.toNat)), .inr (1, [.ref (ad (4 + 4 * v1.toInt.toNat + 1)), .ref (ad (4 + 4 * v1.toInt.toNat + 2)), .ref (ad (4 + 4 * v1.toInt.toNat + 3)), .int (bnN (n (6 + v1.toInt.toNat)))])), ((ad (4 + 4 * v1.toInt.toNat + 1)), .inl ((kc 0), 24, .inl (bnF (n (6 + v1.toInt.toNat)) (f (2 + 3 * v1.toInt.toNat)) v2))), ((ad (4 + 4 * v1.toInt.toNat + 2)), .inl ((kc 0), 24, .inl (bnF (n (6 + v1.toInt.toNat)) (f (3 + 3 * v1.toInt.toNat)) v3))), ((ad (4 + 4 * v1.toInt.toNat + 3)), .inl ((kc 0), 24, .inl (bnF (n (6 + v1.toInt.toNat)) (f (4 + 3 * v1.toInt.toNat)) v4)))]) hP hD [(4 + 4 * v1.toInt.toNat), (4 + 4 * v1.toInt.toNat + 1), (4 + 4 * v1.toInt.toNat + 2), (4 + 4 * v1.toInt.toNat + 3)] hCc hNd rfl hk1 hFc hP1 hD1
              obtain ⟨ws_23, n_21, f_22, en_21, ef_22, hP, hD, hQ⟩ : ∃ (ws_23 : va_W) (n_21 : Nat → Int32) (f_22 : Nat → Nat → Int32), n_21 = u1 n (6 + v1.toInt.toNat) (bnN (n (6 + v1.toInt.toNat))) ∧ f_22 = u1 (u1 (u1 f (1 + 1 + 3 * v1.toInt.toNat) (bnF (n (6 + v1.toInt.toNat)) (f (2 + 3 * v1.toInt.toNat)) v2)) (1 + 2 + 3 * v1.toInt.toNat) (bnF (n (6 + v1.toInt.toNat)) (f (3 + 3 * v1.toInt.toNat)) v3)) (1 + 3 + 3 * v1.toInt.toNat) (bnF (n (6 + v1.toInt.toNat)) (f (4 + 3 * v1.toInt.toNat)) v4) ∧ va_P (dC, dI) vwCl ws_23 H1 ∧ va_D A ws_23 ∧ Pic9 kc ws_23 ad ga gc M n_21 f_22 T G K F := ⟨_, _, _, rfl, rfl, hP, hD, (((hQ.erN hl_4 (bnN (n (6 + v1.toInt.toNat)))).erA hl_4 1 (by decide) (bnF (n (6 + v1.toInt.toNat)) (f (2 + 3 * v1.toInt.toNat)) v2)).erA hl_4 2 (by decide) (bnF (n (6 + v1.toInt.toNat)) (f (3 + 3 * v1.toInt.toNat)) v3)).erA hl_4 3 (by decide) (bnF (n (6 + v1.toInt.toNat)) (f (4 + 3 * v1.toInt.toNat)) v4)⟩
              have i1_24 : i1 M n_21 := by rw [en_21]; exact (i1.pn h_i1 _ (by omega))
              have i5_25 : i5 n_21 K := by rw [en_21]; exact (i5.pn h_i5 _ (by omega))
              have i6_26 : i6 n_21 T G := by rw [en_21]; exact (i6.pn h_i6 _ (by omega))
              have i7_27 : i7 n_21 G := by rw [en_21]; exact (i7.pn h_i7 _ (by omega))
              have i8_28 : i8 M n_21 gc G := by rw [en_21]; exact (i8.pn h_i8 _ (by omega))
              have hn_29 : n_21 0 = n 0 := by rw [en_21]; rw [u1_ne _ _ (by omega)]
              have thn_29 := congrArg Int32.toInt hn_29
              have i11_30 : i11 M n_21 gc f_22 G F := by rw [en_21, ef_22]; exact i11.pf (i11.pf (i11.pf (i11.pn h_i11 _ (by omega)) _ (by omega)) _ (by omega)) _ (by omega)
              have ec_31 : n_21 (6 + v1.toInt.toNat) = (bnN (n (6 + v1.toInt.toNat))) := by rw [en_21, u1_eq]
              have tec_31 := congrArg Int32.toInt ec_31
              generalize H1 = H at hP hS ⊢
              exact by
               refine lv_aload hx hb dX9_step_57 (lv_at hl 0 rfl) ?_
               refine va_get (D := (dC, dI)) (ci := 1) (v := .int (n_21 (6 + v1.toInt.toNat))) (C := RX1) (T := TX1) (N := 4) hx hb hg gb_1 hown hK hP (4 + 4 * v1.toInt.toNat) (hQ.e0 hl_4) rfl 3 (by decide) (hg _ gm_fieldLink_RX9_73_ErrandGuild_Errand_count_I_) (fun _ h9 => h9) rfl dX9_step_59 ?_
               refine W_msr2 (fun hm1 hm2 hm3 => ?_)
               exact W.iret (v := n_21 (6 + v1.toInt.toNat)) hx hb hr (fun t ht hW => ⟨⟨n_21 (6 + v1.toInt.toNat), (ad, ga, gc, M, n_21, f_22, T, G, K, F), rfl, (by show ((C9.mk n_21 f_22 T G K F), n_21 (6 + v1.toInt.toNat)) = k_stepIn v1 v2 v3 v4 (C9.mk n f T G K F); subst en_21; subst ef_22; have hX := (k_stepIn.eq_1 v1 v2 v3 v4 (C9.mk n f T G K F)).symm; (repeat (first | dsimp +instances only [c9n, c9f, c9T, c9G, c9K, c9F, b_come, b_leave, b_fill, awB, b_settle, b_wake, b_take, f_take, b_gather, f_gather, b_ask, a_ask, b_tell, c_close, d_close, k_add, k_rem, sco, k_clrF, k_mem, k_rebind, k_bnd, k_beg0, k_beg1, b_giveN, b_giveR, f_open, b_hand, k_op, b_turn, wlB, b_beat, f_anew, b_wipe, b_off, k_sadd, fits, frP, cntB, b_trace, b_child, k_lat, cond_true, cond_false, Option.elim_none, Option.elim_some, Option.getD_none, Option.getD_some] at hX | rw [if_pos (by first | exact ⟨by omega, by omega, by omega, by omega, fits_of w_9⟩ | with_reducible assumption | omega)] at hX | rw [if_neg (by first | with_reducible assumption | omega)] at hX | rw [jx_of (by omega)] at hX)); first | exact hX | (exfalso; omega) | exact hX), ws_23, by rw [ht]; exact hP, hD, hQ, ⟨i1_24, h_i2, h_i3, h_i4, i5_25, i6_26, i7_27, i8_28, h_i9, h_i10, i11_30⟩, by rw [ht]; show hpS H + (260 * M + 2 * S9 M gc) ≤ hpS s.heap + (260 * M + 2 * S9 M gc); omega, by rw [ht]; show 16 * H.size + (256 * M + S9 M gc) ≤ 16 * s.heap.size + (256 * M + S9 M gc); omega, by show (n 0).toInt ≤ (n_21 0).toInt; omega⟩, hS.F ht⟩) hS.2.2 dX9_step_62
           · refine lv_if_ne (tgt := 48) hx hb dX9_step_43 (by decide) (fun c_32 => absurd c_32 (by decide)) (fun _ => ?_)
             refine lv_iconst (v := -1) hx hb dX9_step_46 (by decide) ?_
             refine W_msr2 (fun hm1 hm2 hm3 => ?_)
             exact W.iret (v := -1) hx hb hr (fun t ht hW => ⟨⟨-1, (ad, ga, gc, M, n, f, T, G, K, F), rfl, (by show ((C9.mk n f T G K F), (-1 : Int32)) = k_stepIn v1 v2 v3 v4 (C9.mk n f T G K F); have hX := (k_stepIn.eq_1 v1 v2 v3 v4 (C9.mk n f T G K F)).symm; (repeat (first | dsimp +instances only [c9n, c9f, c9T, c9G, c9K, c9F, b_come, b_leave, b_fill, awB, b_settle, b_wake, b_take, f_take, b_gather, f_gather, b_ask, a_ask, b_tell, c_close, d_close, k_add, k_rem, sco, k_clrF, k_mem, k_rebind, k_bnd, k_beg0, k_beg1, b_giveN, b_giveR, f_open, b_hand, k_op, b_turn, wlB, b_beat, f_anew, b_wipe, b_off, k_sadd, fits, frP, cntB, b_trace, b_child, k_lat, cond_true, cond_false, Option.elim_none, Option.elim_some, Option.getD_none, Option.getD_some] at hX | rw [if_neg (by first | with_reducible assumption | omega)] at hX | rw [if_pos (by first | with_reducible assumption | omega)] at hX | rw [jx_of (by omega)] at hX)); first | exact hX | (exfalso; omega) | exact hX), ws, by rw [ht]; exact hP, hD, hQ, ⟨h_i1, h_i2, h_i3, h_i4, h_i5, h_i6, h_i7, h_i8, h_i9, h_i10, h_i11⟩, by rw [ht]; show hpS H + (260 * M + 2 * S9 M gc) ≤ hpS s.heap + (260 * M + 2 * S9 M gc); omega, by rw [ht]; show 16 * H.size + (256 * M + S9 M gc) ≤ 16 * s.heap.size + (256 * M + S9 M gc); omega, by show (n 0).toInt ≤ (n 0).toInt; omega⟩, hS.F ht⟩) hS.2.2 dX9_step_47
      · simp only [i_lt, i_le, i_eq, ti_0] at c_5
        refine lv_iconst (v := -1) hx hb dX9_step_19 (by decide) ?_
        refine W_msr2 (fun hm1 hm2 hm3 => ?_)
        exact W.iret (v := -1) hx hb hr (fun t ht hW => ⟨⟨-1, (ad, ga, gc, M, n, f, T, G, K, F), rfl, (by show ((C9.mk n f T G K F), (-1 : Int32)) = k_stepIn v1 v2 v3 v4 (C9.mk n f T G K F); have hX := (k_stepIn.eq_1 v1 v2 v3 v4 (C9.mk n f T G K F)).symm; (repeat (first | dsimp +instances only [c9n, c9f, c9T, c9G, c9K, c9F, b_come, b_leave, b_fill, awB, b_settle, b_wake, b_take, f_take, b_gather, f_gather, b_ask, a_ask, b_tell, c_close, d_close, k_add, k_rem, sco, k_clrF, k_mem, k_rebind, k_bnd, k_beg0, k_beg1, b_giveN, b_giveR, f_open, b_hand, k_op, b_turn, wlB, b_beat, f_anew, b_wipe, b_off, k_sadd, fits, frP, cntB, b_trace, b_child, k_lat, cond_true, cond_false, Option.elim_none, Option.elim_some, Option.getD_none, Option.getD_some] at hX | rw [if_neg (by first | with_reducible assumption | omega)] at hX | rw [if_pos (by first | with_reducible assumption | omega)] at hX | rw [jx_of (by omega)] at hX)); first | exact hX | (exfalso; omega) | exact hX), ws, by rw [ht]; exact hP, hD, hQ, ⟨h_i1, h_i2, h_i3, h_i4, h_i5, h_i6, h_i7, h_i8, h_i9, h_i10, h_i11⟩, by rw [ht]; show hpS H + (260 * M + 2 * S9 M gc) ≤ hpS s.heap + (260 * M + 2 * S9 M gc); omega, by rw [ht]; show 16 * H.size + (256 * M + S9 M gc) ≤ 16 * s.heap.size + (256 * M + S9 M gc); omega, by show (n 0).toInt ≤ (n 0).toInt; omega⟩, hS.F ht⟩) hS.2.2 dX9_step_20
   · have w_3 : ¬ (0 ≤ v1.toInt ∧ v1.toInt < 8) := w_3
     refine W.eq (g2 := F0 m 5 ls [.null]) rfl ?_
     refine lv_astoreN (lv' := [(5, .null), (0, .ref (ad 0)), (1, .int v1), (2, .int v2), (3, .int v3), (4, .int v4)]) hx hb dX9_step_5 hl (by decide) rfl (fun ls hl => ?_)
     refine lv_aloadN hx hb dX9_step_7 (lv_at hl 0 rfl) ?_
     refine lv_ifnullN (tgt := 19) hx hb dX9_step_9 (by decide) ?_
     refine lv_iconst (v := -1) hx hb dX9_step_19 (by decide) ?_
     refine W_msr2 (fun hm1 hm2 hm3 => ?_)
     exact W.iret (v := -1) hx hb hr (fun t ht hW => ⟨⟨-1, (ad, ga, gc, M, n, f, T, G, K, F), rfl, (by show ((C9.mk n f T G K F), (-1 : Int32)) = k_stepIn v1 v2 v3 v4 (C9.mk n f T G K F); have hX := (k_stepIn.eq_1 v1 v2 v3 v4 (C9.mk n f T G K F)).symm; (repeat (first | dsimp +instances only [c9n, c9f, c9T, c9G, c9K, c9F, b_come, b_leave, b_fill, awB, b_settle, b_wake, b_take, f_take, b_gather, f_gather, b_ask, a_ask, b_tell, c_close, d_close, k_add, k_rem, sco, k_clrF, k_mem, k_rebind, k_bnd, k_beg0, k_beg1, b_giveN, b_giveR, f_open, b_hand, k_op, b_turn, wlB, b_beat, f_anew, b_wipe, b_off, k_sadd, fits, frP, cntB, b_trace, b_child, k_lat, cond_true, cond_false, Option.elim_none, Option.elim_some, Option.getD_none, Option.getD_some] at hX | rw [if_neg (by first | with_reducible assumption | omega)] at hX | rw [if_pos (by first | with_reducible assumption | omega)] at hX | rw [jx_of (by omega)] at hX)); first | exact hX | (exfalso; omega) | exact hX), ws, by rw [ht]; exact hP, hD, hQ, ⟨h_i1, h_i2, h_i3, h_i4, h_i5, h_i6, h_i7, h_i8, h_i9, h_i10, h_i11⟩, by rw [ht]; show hpS H + (260 * M + 2 * S9 M gc) ≤ hpS s.heap + (260 * M + 2 * S9 M gc); omega, by rw [ht]; show 16 * H.size + (256 * M + S9 M gc) ≤ 16 * s.heap.size + (256 * M + S9 M gc); omega, by show (n 0).toInt ≤ (n 0).toInt; omega⟩, hS.F ht⟩) hS.2.2 dX9_step_20
