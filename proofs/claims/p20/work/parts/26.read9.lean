set_option maxHeartbeats 8000000 in
set_option maxRecDepth 100000 in
theorem c_X9_runsThatAre (l : Launch) (dC : Nat → ClassId) (dI : Nat → Nat → Nat) (kc : Nat → ClassId) (ws : va_W) (ad : Nat → Nat) (ga : Nat → Nat) (gc : Nat → Nat) (M : Nat) (n : Nat → Int32) (f : Nat → Nat → Int32) (T : Nat → Option Nat) (G : Nat → Nat → Int32) (K : Nat → Nat → Option Nat) (F : Nat → Nat → Nat → Int32) (R : Nat) (v1 : Int32) (sz hz : Nat) (hQ : Pic9 kc ws ad ga gc M n f T G K F) (hI : I9 M n f T gc G K F R) : Met l yX9_runsThatAre (.code yX9_runsThatAre cX9_runsThatAre 5 (some .int) :: gw) ({ frames := 1, cells := 0, slots := 0, locals := 21 }) (va_Pc [.ref (ad 0), .int v1] (fun U => U.heap.size = sz ∧ hpS U.heap = hz ∧ va_P (dC, dI) vwCl ws U.heap ∧ va_K (dC, dI) vwCl (t9 kc) U ∧ va_D (fun _ => True) ws ∧ nx U)) (va_Qi (fun (r : Int32) (u : Unit) => r = k_cnt v1 (C9.mk n f T G K F)) (fun _ t => va_P (dC, dI) vwCl ws t.heap ∧ va_D (va_A ws sz) ws ∧ hpS t.heap ≤ hz ∧ t.heap.size ≤ sz) (va_A ws sz)) 0 0 (va_A ws sz) := by
  refine Met.ofW (cc := cX9_runsThatAre) (maxL := 5) (ret := (some .int)) (by decide) rfl ?_
  intro p e s m args below meth c s₁ B hml hv
  obtain ⟨rfl, hsz, rfl, hP, hK, hD0, hN⟩ := hv
  have hx := B.exec
  have hb := B.bytes
  have hr := B.returns
  have hts := atoms_spec (ws := .code yX9_runsThatAre cX9_runsThatAre 5 (some .int) :: gw) B.pre
  have hg : ∀ w ∈ gw, w.before _ s = true := fun w h => hts w (List.mem_cons_of_mem _ h)
  have hown : s.vm.findClass RX9 = some m.cls := findClass_of_methodNamed B.named
  have hlocks := B.notSynchronized
  subst hsz
  have hD := hD0.self (sz := s.heap.size)
  generalize hAe : va_A ws s.heap.size = A at hD ⊢
  have hA : ∀ q : Nat, s.heap.size ≤ q → A q := fun q h => by rw [← hAe]; exact Or.inr h
  clear hAe
  have hS : va_S A s.heap s.heap [] := va_S.rf
  have hl := lv_entry ([.ref (ad 0), .int v1]) (n := 5) (Nat.le_of_ble_eq_true rfl)
  rw [lg_entry_eq]
  generalize (lg_sl ([.ref (ad 0), .int v1]) ++ List.replicate (5 - (lg_sl ([.ref (ad 0), .int v1])).length) Slot.unset).toArray = ls at hl ⊢
  have hl : lv_has ls 5 [(0, .ref (ad 0)), (1, .int v1)] := hl
  obtain ⟨h_i1, h_i2, h_i3, h_i4, h_i5, h_i6, h_i7, h_i8, h_i9, h_i10, h_i11⟩ := id hI
  have q1_ := h_i1
  unfold i1 at q1_
  exact by
   refine lv_iconst (v := 0) hx hb dX9_runsThatAre_0 (by decide) ?_
   refine lv_istore_n (lv' := [(2, .int 0), (0, .ref (ad 0)), (1, .int v1)]) hx hb dX9_runsThatAre_1 rfl hl (by decide) rfl (fun ls hl => ?_)
   refine lv_iconst (v := 0) hx hb dX9_runsThatAre_2 (by decide) ?_
   refine lv_istore_n (lv' := [(3, .int 0), (2, .int 0), (0, .ref (ad 0)), (1, .int v1)]) hx hb dX9_runsThatAre_3 rfl hl (by decide) rfl (fun ls hl => ?_)
   have L4 : ∀ (fuel : Nat) (x_1 : Int32) (x_2 : Int32)     (H : Heap) (locs : List Loc) (ls : Array Slot), (201 - x_2.toInt).toNat < fuel → (0 ≤ x_2.toInt ∧ x_2.toInt ≤ 200) → (itr (cntB G v1) (fun c => c) x_2.toInt.toNat ((n 0).toInt.toNat - x_2.toInt.toNat) x_1 = k_cnt v1 (C9.mk n f T G K F)) → va_P (dC, dI) vwCl ws H → va_D A ws → va_S A s.heap H locs → lv_has ls 5 [(3, .int x_2), (2, .int x_1), (0, .ref (ad 0)), (1, .int v1)] → W p l e (headSpec (.code yX9_runsThatAre cX9_runsThatAre 5 (some .int) :: gw) ({ frames := 1, cells := 0, slots := 0, locals := 21 })).room s m ([.ref (ad 0), .int v1] : List Value).toArray below meth c H locs 0 0 (MQ below (va_Qi (fun (r : Int32) (u : Unit) => r = k_cnt v1 (C9.mk n f T G K F)) (fun _ t => va_P (dC, dI) vwCl ws t.heap ∧ va_D A ws ∧ hpS t.heap ≤ (hpS s.heap) ∧ t.heap.size ≤ s.heap.size) A) ([.ref (ad 0), .int v1] : List Value).toArray s 0 0 A) (F0 m 4 ls []) := by
     intro fuel
     induction fuel with
     | zero => intro x_1 x_2 H locs ls hm; exact absurd hm (Nat.not_lt_zero _)
     | succ fuel_7 ih_6 =>
       intro x_1 x_2 H locs ls hm_3 v_4 v_5 hP hD hS hl
       refine lv_iload_n hx hb dX9_runsThatAre_4 rfl (lv_at hl 0 rfl) ?_
       refine lv_aload_n hx hb dX9_runsThatAre_5 rfl (lv_at hl 2 rfl) ?_
       exact by
        refine va_get (D := (dC, dI)) (ci := 9) (v := .int (n 0)) (C := RX9) (T := TX9) (N := 15) hx hb hg gb_9 hown hK hP 0 hQ.x0 rfl 5 (by decide) (hg _ gm_fieldLink_RX9_66_ErrandGuild_runCount_I_) (fun _ h9 => h9) rfl dX9_runsThatAre_6 ?_
        refine lv_icmp_ge (tgt := 42) hx hb dX9_runsThatAre_9 (by decide) (fun c_8 => ?_) (fun c_8 => ?_)
        · simp only [i_lt, i_le, i_eq] at c_8
          refine lv_iload_n hx hb dX9_runsThatAre_42 rfl (lv_at hl 1 rfl) ?_
          refine W_msr2 (fun hm1 hm2 hm3 => ?_)
          exact W.iret (v := x_1) hx hb hr (fun t ht hW => ⟨⟨x_1, (), rfl, (by show x_1 = k_cnt v1 (C9.mk n f T G K F); have hX := v_5; (first | rw [itr_go (by omega)] at hX | rw [itr_end (by omega)] at hX); (repeat (first | dsimp +instances only [c9n, c9f, c9T, c9G, c9K, c9F, b_come, b_leave, b_fill, awB, b_settle, b_wake, b_take, f_take, b_gather, f_gather, b_ask, a_ask, b_tell, c_close, d_close, k_add, k_rem, sco, k_clrF, k_mem, k_rebind, k_bnd, k_beg0, k_beg1, b_giveN, b_giveR, f_open, b_hand, k_op, b_turn, wlB, b_beat, f_anew, b_wipe, b_off, k_sadd, fits, frP, cntB, b_trace, b_child, k_lat, cond_true, cond_false, Option.elim_none, Option.elim_some, Option.getD_none, Option.getD_some] at hX | rw [if_pos (by first | with_reducible assumption | omega)] at hX | rw [if_neg (by first | with_reducible assumption | omega)] at hX | rw [jx_of (by omega)] at hX)); first | exact hX | (exfalso; omega) | exact hX), by rw [ht]; exact hP, hD, by rw [ht]; omega, by rw [ht]; omega⟩, hS.F ht⟩) hS.2.2 dX9_runsThatAre_43
        · simp only [i_lt, i_le, i_eq] at c_8
          refine lv_aload_n hx hb dX9_runsThatAre_12 rfl (lv_at hl 2 rfl) ?_
          refine lv_iload_n hx hb dX9_runsThatAre_13 rfl (lv_at hl 0 rfl) ?_
          have hFc := free_all hD hS hA
          refine va_callq (va_runV (As := [.int x_2]) (rest := []) ⟨hx, hb, hml, hown, hg⟩ (c_X9_runAt l dC dI kc ws ad ga gc M n f T G K F R x_2 H.size (hpS H) hQ ⟨h_i1, h_i2, h_i3, h_i4, h_i5, h_i6, h_i7, h_i8, h_i9, h_i10, h_i11⟩) (cwV 1 hg (gw_V gm_methodLink_RX9_134_yX9_runAt gm_instanceMethod_yX9_runAt gm_selects_RX9_yX9_runAt_yX9_runAt gm_initialized_RX9 gm_code_yX9_runAt_cX9_runAt_2_some_object_ErrandGuild_Run_) rfl rfl rfl (by decide +kernel) ⟨Nat.le_of_ble_eq_true rfl, Nat.le_of_ble_eq_true rfl⟩) ⟨fun a U g mk q => by obtain ⟨q0, q1, q2, qP, qK, qD, qN⟩ := q; exact ⟨q0, q1, q2, qP, va_K.moved (u := U) (U := U.calling g mk a) (Vm.Alike.refl U.vm) qK, qD, nx_same (u := U) (U := U.calling g mk a) rfl qN⟩, va_recv hK hP (ci := 9) (q0 := 0) rfl hQ.x0, fun U hU hW => ⟨rfl, by rw [hU], by rw [hU], by rw [hU]; exact hP, va_K.moved hW.alike hK, hD.weaken (fun _ _ _ _ => trivial), nx_warm hW hN⟩⟩ rfl rfl hl.1 rfl (lv_room (Nat.le_of_ble_eq_true rfl)) dX9_runsThatAre_14 ⟨Nat.le_of_ble_eq_true rfl, Nat.le_of_ble_eq_true rfl⟩) hS (fun q _ h => hFc q h) hFc (fun r_9 u_10 t H1 locs ht hvm hw hB hz1 hk1 hS => ?_)
          obtain ⟨hP, hD, hy1, hy2⟩ := hB
          rw [ht] at hP hy1 hy2
          have hD := hD.weaken (fun k q _ h => hFc _ h)
          have q1_ := h_i1
          unfold i1 at q1_
          generalize H1 = H at hP hS ⊢
          rcases hw with ⟨rfl, w_11⟩ | ⟨rfl, w_11⟩
          · have w_11 : (0 ≤ x_2.toInt ∧ x_2.toInt < (n 0).toInt) := w_11
            have hl_12 : x_2.toInt.toNat < M := by omega
            refine W.eq (g2 := F0 m 17 ls [.ref (ad (50 + 16 * x_2.toInt.toNat))]) rfl ?_
            exact by
             refine lv_astore (lv' := [(4, .ref (ad (50 + 16 * x_2.toInt.toNat))), (3, .int x_2), (2, .int x_1), (0, .ref (ad 0)), (1, .int v1)]) hx hb dX9_runsThatAre_17 hl (by decide) rfl (fun ls hl => ?_)
             refine lv_aload hx hb dX9_runsThatAre_19 (lv_at hl 0 rfl) ?_
             refine lv_ifnull hx hb dX9_runsThatAre_21 ?_
             refine lv_aload hx hb dX9_runsThatAre_24 (lv_at hl 0 rfl) ?_
             refine va_get (D := (dC, dI)) (ci := 7) (v := .int (G x_2.toInt.toNat 2)) (C := RX7) (T := TX7) (N := 15) hx hb hg gb_7 hown hK hP (50 + 16 * x_2.toInt.toNat) (hQ.b0 hl_12) rfl 2 (by decide) (hg _ gm_fieldLink_RX9_145_ErrandGuild_Run_state_I_) (fun _ h9 => h9) rfl dX9_runsThatAre_26 ?_
             refine lv_iload_n hx hb dX9_runsThatAre_29 rfl (lv_at hl 4 rfl) ?_
             refine lv_icmp_ne (tgt := 36) hx hb dX9_runsThatAre_30 (by decide) (fun c_13 => ?_) (fun c_13 => ?_)
             · simp only [i_lt, i_le, i_eq] at c_13
               obtain ⟨y_14, ey_14⟩ : ∃ q : Int32, q = x_2 + (1) := ⟨_, rfl⟩
               refine lv_iinc (v := y_14) (lv' := [(3, .int y_14), (4, .ref (ad (50 + 16 * x_2.toInt.toNat))), (2, .int x_1), (0, .ref (ad 0)), (1, .int v1)]) hx hb dX9_runsThatAre_36 hl (k := 1) rfl (by rw [ey_14]; rfl) (by decide) rfl (fun ls hl => ?_)
               have ty_14 : y_14.toInt = x_2.toInt + (1) := ar_add rfl ti_1 ey_14 (by omega)
               refine lv_goto (tgt := 4) hx hb dX9_runsThatAre_39 (by decide) ?_
               exact ih_6 x_1 y_14     H locs ls (by show (201 - y_14.toInt).toNat < _; omega) (by show 0 ≤ y_14.toInt ∧ y_14.toInt ≤ 200; omega) (by show itr (cntB G v1) (fun c => c) y_14.toInt.toNat ((n 0).toInt.toNat - y_14.toInt.toNat) x_1 = k_cnt v1 (C9.mk n f T G K F); have hX := v_5; (first | rw [itr_go (by omega)] at hX | rw [itr_end (by omega)] at hX); (repeat (first | dsimp +instances only [c9n, c9f, c9T, c9G, c9K, c9F, b_come, b_leave, b_fill, awB, b_settle, b_wake, b_take, f_take, b_gather, f_gather, b_ask, a_ask, b_tell, c_close, d_close, k_add, k_rem, sco, k_clrF, k_mem, k_rebind, k_bnd, k_beg0, k_beg1, b_giveN, b_giveR, f_open, b_hand, k_op, b_turn, wlB, b_beat, f_anew, b_wipe, b_off, k_sadd, fits, frP, cntB, b_trace, b_child, k_lat, cond_true, cond_false, Option.elim_none, Option.elim_some, Option.getD_none, Option.getD_some] at hX | rw [if_pos (by first | with_reducible assumption | omega)] at hX | rw [if_neg (by first | with_reducible assumption | omega)] at hX | rw [jx_of (by omega)] at hX)); (rw [show y_14.toInt.toNat = x_2.toInt.toNat + 1 by omega]); first | exact hX | (exfalso; omega) | exact hX) hP hD hS (lv_sub hl [0, 2, 3, 4] rfl)
             · simp only [i_lt, i_le, i_eq] at c_13
               obtain ⟨y_15, ey_15⟩ : ∃ q : Int32, q = x_1 + (1) := ⟨_, rfl⟩
               exact by
                refine lv_iinc (v := y_15) (lv' := [(2, .int y_15), (4, .ref (ad (50 + 16 * x_2.toInt.toNat))), (3, .int x_2), (0, .ref (ad 0)), (1, .int v1)]) hx hb dX9_runsThatAre_33 hl (k := 2) rfl (by rw [ey_15]; rfl) (by decide) rfl (fun ls hl => ?_)
                obtain ⟨y_16, ey_16⟩ : ∃ q : Int32, q = x_2 + (1) := ⟨_, rfl⟩
                refine lv_iinc (v := y_16) (lv' := [(3, .int y_16), (2, .int y_15), (4, .ref (ad (50 + 16 * x_2.toInt.toNat))), (0, .ref (ad 0)), (1, .int v1)]) hx hb dX9_runsThatAre_36 hl (k := 2) rfl (by rw [ey_16]; rfl) (by decide) rfl (fun ls hl => ?_)
                have ty_16 : y_16.toInt = x_2.toInt + (1) := ar_add rfl ti_1 ey_16 (by omega)
                refine lv_goto (tgt := 4) hx hb dX9_runsThatAre_39 (by decide) ?_
                exact ih_6 y_15 y_16     H locs ls (by show (201 - y_16.toInt).toNat < _; omega) (by show 0 ≤ y_16.toInt ∧ y_16.toInt ≤ 200; omega) (by show itr (cntB G v1) (fun c => c) y_16.toInt.toNat ((n 0).toInt.toNat - y_16.toInt.toNat) y_15 = k_cnt v1 (C9.mk n f T G K F); subst ey_15; have hX := v_5; (first | rw [itr_go (by omega)] at hX | rw [itr_end (by omega)] at hX); (repeat (first | dsimp +instances only [c9n, c9f, c9T, c9G, c9K, c9F, b_come, b_leave, b_fill, awB, b_settle, b_wake, b_take, f_take, b_gather, f_gather, b_ask, a_ask, b_tell, c_close, d_close, k_add, k_rem, sco, k_clrF, k_mem, k_rebind, k_bnd, k_beg0, k_beg1, b_giveN, b_giveR, f_open, b_hand, k_op, b_turn, wlB, b_beat, f_anew, b_wipe, b_off, k_sadd, fits, frP, cntB, b_trace, b_child, k_lat, cond_true, cond_false, Option.elim_none, Option.elim_some, Option.getD_none, Option.getD_some] at hX | rw [if_pos (by first | with_reducible assumption | omega)] at hX | rw [if_neg (by first | with_reducible assumption | omega)] at hX | rw [jx_of (by omega)] at hX)); (rw [show y_16.toInt.toNat = x_2.toInt.toNat + 1 by omega]); first | exact hX | (exfalso; omega) | exact hX) hP hD hS (lv_sub hl [0, 1, 3, 4] rfl)
          · have w_11 : ¬ (0 ≤ x_2.toInt ∧ x_2.toInt < (n 0).toInt) := w_11
            refine W.eq (g2 := F0 m 17 ls [.null]) rfl ?_
            refine lv_astoreN (lv' := [(4, .null), (3, .int x_2), (2, .int x_1), (0, .ref (ad 0)), (1, .int v1)]) hx hb dX9_runsThatAre_17 hl (by decide) rfl (fun ls hl => ?_)
            refine lv_aloadN hx hb dX9_runsThatAre_19 (lv_at hl 0 rfl) ?_
            refine lv_ifnullN (tgt := 36) hx hb dX9_runsThatAre_21 (by decide) ?_
            obtain ⟨y_17, ey_17⟩ : ∃ q : Int32, q = x_2 + (1) := ⟨_, rfl⟩
            refine lv_iinc (v := y_17) (lv' := [(3, .int y_17), (4, .null), (2, .int x_1), (0, .ref (ad 0)), (1, .int v1)]) hx hb dX9_runsThatAre_36 hl (k := 1) rfl (by rw [ey_17]; rfl) (by decide) rfl (fun ls hl => ?_)
            have ty_17 : y_17.toInt = x_2.toInt + (1) := ar_add rfl ti_1 ey_17 (by omega)
            refine lv_goto (tgt := 4) hx hb dX9_runsThatAre_39 (by decide) ?_
            exact ih_6 x_1 y_17     H locs ls (by show (201 - y_17.toInt).toNat < _; omega) (by show 0 ≤ y_17.toInt ∧ y_17.toInt ≤ 200; omega) (by show itr (cntB G v1) (fun c => c) y_17.toInt.toNat ((n 0).toInt.toNat - y_17.toInt.toNat) x_1 = k_cnt v1 (C9.mk n f T G K F); have hX := v_5; (first | rw [itr_go (by omega)] at hX | rw [itr_end (by omega)] at hX); (repeat (first | dsimp +instances only [c9n, c9f, c9T, c9G, c9K, c9F, b_come, b_leave, b_fill, awB, b_settle, b_wake, b_take, f_take, b_gather, f_gather, b_ask, a_ask, b_tell, c_close, d_close, k_add, k_rem, sco, k_clrF, k_mem, k_rebind, k_bnd, k_beg0, k_beg1, b_giveN, b_giveR, f_open, b_hand, k_op, b_turn, wlB, b_beat, f_anew, b_wipe, b_off, k_sadd, fits, frP, cntB, b_trace, b_child, k_lat, cond_true, cond_false, Option.elim_none, Option.elim_some, Option.getD_none, Option.getD_some] at hX | rw [if_pos (by first | with_reducible assumption | omega)] at hX | rw [if_neg (by first | with_reducible assumption | omega)] at hX | rw [jx_of (by omega)] at hX)); (rw [show y_17.toInt.toNat = x_2.toInt.toNat + 1 by omega]); first | exact hX | (exfalso; omega) | exact hX) hP hD hS (lv_sub hl [0, 2, 3, 4] rfl)
   exact L4 _ (0 : Int32) (0 : Int32)     _ _ _ (Nat.lt_succ_self _) (by have t_0 := ti_0; have t_1 := ti_0; show 0 ≤ (0 : Int32).toInt ∧ (0 : Int32).toInt ≤ 200; omega) (by show itr (cntB G v1) (fun c => c) (0 : Int32).toInt.toNat ((n 0).toInt.toNat - (0 : Int32).toInt.toNat) (0 : Int32) = k_cnt v1 (C9.mk n f T G K F); have hX := (k_cnt.eq_1 v1 (C9.mk n f T G K F)).symm; (repeat (first | dsimp +instances only [c9n, c9f, c9T, c9G, c9K, c9F, b_come, b_leave, b_fill, awB, b_settle, b_wake, b_take, f_take, b_gather, f_gather, b_ask, a_ask, b_tell, c_close, d_close, k_add, k_rem, sco, k_clrF, k_mem, k_rebind, k_bnd, k_beg0, k_beg1, b_giveN, b_giveR, f_open, b_hand, k_op, b_turn, wlB, b_beat, f_anew, b_wipe, b_off, k_sadd, fits, frP, cntB, b_trace, b_child, k_lat, cond_true, cond_false, Option.elim_none, Option.elim_some, Option.getD_none, Option.getD_some] at hX | rw [if_pos (by first | with_reducible assumption | omega)] at hX | rw [if_neg (by first | with_reducible assumption | omega)] at hX | rw [jx_of (by omega)] at hX)); (skip); first | exact hX | (exfalso; omega) | exact hX) hP hD hS (lv_sub hl [0, 1, 2, 3] rfl)

set_option maxHeartbeats 8000000 in
set_option maxRecDepth 100000 in
theorem c_X9_isWorkLeft (l : Launch) (dC : Nat → ClassId) (dI : Nat → Nat → Nat) (kc : Nat → ClassId) (ws : va_W) (ad : Nat → Nat) (ga : Nat → Nat) (gc : Nat → Nat) (M : Nat) (n : Nat → Int32) (f : Nat → Nat → Int32) (T : Nat → Option Nat) (G : Nat → Nat → Int32) (K : Nat → Nat → Option Nat) (F : Nat → Nat → Nat → Int32) (R : Nat) (sz hz : Nat) (hQ : Pic9 kc ws ad ga gc M n f T G K F) (hI : I9 M n f T gc G K F R) : Met l yX9_isWorkLeft (.code yX9_isWorkLeft cX9_isWorkLeft 3 (some .boolean) :: gw) ({ frames := 1, cells := 0, slots := 0, locals := 21 }) (va_Pc [.ref (ad 0)] (fun U => U.heap.size = sz ∧ hpS U.heap = hz ∧ va_P (dC, dI) vwCl ws U.heap ∧ va_K (dC, dI) vwCl (t9 kc) U ∧ va_D (fun _ => True) ws ∧ nx U)) (va_Qi (fun (r : Int32) (u : Unit) => (r = 1 ∧ k_wl (C9.mk n f T G K F) = true ∧ 0 < (n 0).toInt) ∨ (r = 0 ∧ k_wl (C9.mk n f T G K F) = false)) (fun _ t => va_P (dC, dI) vwCl ws t.heap ∧ va_D (va_A ws sz) ws ∧ hpS t.heap ≤ hz ∧ t.heap.size ≤ sz) (va_A ws sz)) 0 0 (va_A ws sz) := by
  refine Met.ofW (cc := cX9_isWorkLeft) (maxL := 3) (ret := (some .boolean)) (by decide) rfl ?_
  intro p e s m args below meth c s₁ B hml hv
  obtain ⟨rfl, hsz, rfl, hP, hK, hD0, hN⟩ := hv
  have hx := B.exec
  have hb := B.bytes
  have hr := B.returns
  have hts := atoms_spec (ws := .code yX9_isWorkLeft cX9_isWorkLeft 3 (some .boolean) :: gw) B.pre
  have hg : ∀ w ∈ gw, w.before _ s = true := fun w h => hts w (List.mem_cons_of_mem _ h)
  have hown : s.vm.findClass RX9 = some m.cls := findClass_of_methodNamed B.named
  have hlocks := B.notSynchronized
  subst hsz
  have hD := hD0.self (sz := s.heap.size)
  generalize hAe : va_A ws s.heap.size = A at hD ⊢
  have hA : ∀ q : Nat, s.heap.size ≤ q → A q := fun q h => by rw [← hAe]; exact Or.inr h
  clear hAe
  have hS : va_S A s.heap s.heap [] := va_S.rf
  have hl := lv_entry ([.ref (ad 0)]) (n := 3) (Nat.le_of_ble_eq_true rfl)
  rw [lg_entry_eq]
  generalize (lg_sl ([.ref (ad 0)]) ++ List.replicate (3 - (lg_sl ([.ref (ad 0)])).length) Slot.unset).toArray = ls at hl ⊢
  have hl : lv_has ls 3 [(0, .ref (ad 0))] := hl
  obtain ⟨h_i1, h_i2, h_i3, h_i4, h_i5, h_i6, h_i7, h_i8, h_i9, h_i10, h_i11⟩ := id hI
  have q1_ := h_i1
  unfold i1 at q1_
  exact by
   refine lv_iconst (v := 0) hx hb dX9_isWorkLeft_0 (by decide) ?_
   refine lv_istore_n (lv' := [(1, .int 0), (0, .ref (ad 0))]) hx hb dX9_isWorkLeft_1 rfl hl (by decide) rfl (fun ls hl => ?_)
   have L2 : ∀ (fuel : Nat) (x_1 : Int32)     (H : Heap) (locs : List Loc) (ls : Array Slot), (201 - x_1.toInt).toNat < fuel → (0 ≤ x_1.toInt ∧ x_1.toInt ≤ 200) → (itr (wlB G) (fun _ => false) x_1.toInt.toNat ((n 0).toInt.toNat - x_1.toInt.toNat) () = k_wl (C9.mk n f T G K F)) → va_P (dC, dI) vwCl ws H → va_D A ws → va_S A s.heap H locs → lv_has ls 3 [(1, .int x_1), (0, .ref (ad 0))] → W p l e (headSpec (.code yX9_isWorkLeft cX9_isWorkLeft 3 (some .boolean) :: gw) ({ frames := 1, cells := 0, slots := 0, locals := 21 })).room s m ([.ref (ad 0)] : List Value).toArray below meth c H locs 0 0 (MQ below (va_Qi (fun (r : Int32) (u : Unit) => (r = 1 ∧ k_wl (C9.mk n f T G K F) = true ∧ 0 < (n 0).toInt) ∨ (r = 0 ∧ k_wl (C9.mk n f T G K F) = false)) (fun _ t => va_P (dC, dI) vwCl ws t.heap ∧ va_D A ws ∧ hpS t.heap ≤ (hpS s.heap) ∧ t.heap.size ≤ s.heap.size) A) ([.ref (ad 0)] : List Value).toArray s 0 0 A) (F0 m 2 ls []) := by
     intro fuel
     induction fuel with
     | zero => intro x_1 H locs ls hm; exact absurd hm (Nat.not_lt_zero _)
     | succ fuel_6 ih_5 =>
       intro x_1 H locs ls hm_2 v_3 v_4 hP hD hS hl
       refine lv_iload_n hx hb dX9_isWorkLeft_2 rfl (lv_at hl 0 rfl) ?_
       refine lv_aload_n hx hb dX9_isWorkLeft_3 rfl (lv_at hl 1 rfl) ?_
       refine va_get (D := (dC, dI)) (ci := 9) (v := .int (n 0)) (C := RX9) (T := TX9) (N := 15) hx hb hg gb_9 hown hK hP 0 hQ.x0 rfl 5 (by decide) (hg _ gm_fieldLink_RX9_66_ErrandGuild_runCount_I_) (fun _ h9 => h9) rfl dX9_isWorkLeft_4 ?_
       refine lv_icmp_ge (tgt := 35) hx hb dX9_isWorkLeft_7 (by decide) (fun c_7 => ?_) (fun c_7 => ?_)
       · simp only [i_lt, i_le, i_eq] at c_7
         exact by
          refine lv_iconst (v := 0) hx hb dX9_isWorkLeft_35 (by decide) ?_
          refine W_msr2 (fun hm1 hm2 hm3 => ?_)
          exact W.zret (v := 0) hx hb hr rfl (fun t ht hW => ⟨⟨0, (), rfl, (Or.inr ⟨rfl, (Eq.symm (by show false = k_wl (C9.mk n f T G K F); have hX := v_4; (first | rw [itr_go (by omega)] at hX | rw [itr_end (by omega)] at hX); (repeat (first | dsimp +instances only [c9n, c9f, c9T, c9G, c9K, c9F, b_come, b_leave, b_fill, awB, b_settle, b_wake, b_take, f_take, b_gather, f_gather, b_ask, a_ask, b_tell, c_close, d_close, k_add, k_rem, sco, k_clrF, k_mem, k_rebind, k_bnd, k_beg0, k_beg1, b_giveN, b_giveR, f_open, b_hand, k_op, b_turn, wlB, b_beat, f_anew, b_wipe, b_off, k_sadd, fits, frP, cntB, b_trace, b_child, k_lat, cond_true, cond_false, Option.elim_none, Option.elim_some, Option.getD_none, Option.getD_some] at hX | rw [if_pos (by first | with_reducible assumption | omega)] at hX | rw [if_neg (by first | with_reducible assumption | omega)] at hX | rw [jx_of (by omega)] at hX)); first | exact hX | (exfalso; omega) | exact hX))⟩), by rw [ht]; exact hP, hD, by rw [ht]; omega, by rw [ht]; omega⟩, hS.F ht⟩) hS.2.2 dX9_isWorkLeft_36
       · simp only [i_lt, i_le, i_eq] at c_7
         refine lv_aload_n hx hb dX9_isWorkLeft_10 rfl (lv_at hl 1 rfl) ?_
         refine lv_iload_n hx hb dX9_isWorkLeft_11 rfl (lv_at hl 0 rfl) ?_
         have hFc := free_all hD hS hA
         refine va_callq (va_runV (As := [.int x_1]) (rest := []) ⟨hx, hb, hml, hown, hg⟩ (c_X9_runAt l dC dI kc ws ad ga gc M n f T G K F R x_1 H.size (hpS H) hQ ⟨h_i1, h_i2, h_i3, h_i4, h_i5, h_i6, h_i7, h_i8, h_i9, h_i10, h_i11⟩) (cwV 1 hg (gw_V gm_methodLink_RX9_134_yX9_runAt gm_instanceMethod_yX9_runAt gm_selects_RX9_yX9_runAt_yX9_runAt gm_initialized_RX9 gm_code_yX9_runAt_cX9_runAt_2_some_object_ErrandGuild_Run_) rfl rfl rfl (by decide +kernel) ⟨Nat.le_of_ble_eq_true rfl, Nat.le_of_ble_eq_true rfl⟩) ⟨fun a U g mk q => by obtain ⟨q0, q1, q2, qP, qK, qD, qN⟩ := q; exact ⟨q0, q1, q2, qP, va_K.moved (u := U) (U := U.calling g mk a) (Vm.Alike.refl U.vm) qK, qD, nx_same (u := U) (U := U.calling g mk a) rfl qN⟩, va_recv hK hP (ci := 9) (q0 := 0) rfl hQ.x0, fun U hU hW => ⟨rfl, by rw [hU], by rw [hU], by rw [hU]; exact hP, va_K.moved hW.alike hK, hD.weaken (fun _ _ _ _ => trivial), nx_warm hW hN⟩⟩ rfl rfl hl.1 rfl (lv_room (Nat.le_of_ble_eq_true rfl)) dX9_isWorkLeft_12 ⟨Nat.le_of_ble_eq_true rfl, Nat.le_of_ble_eq_true rfl⟩) hS (fun q _ h => hFc q h) hFc (fun r_8 u_9 t H1 locs ht hvm hw hB hz1 hk1 hS => ?_)
         obtain ⟨hP, hD, hy1, hy2⟩ := hB
         rw [ht] at hP hy1 hy2
         have hD := hD.weaken (fun k q _ h => hFc _ h)
         have q1_ := h_i1
         unfold i1 at q1_
         generalize H1 = H at hP hS ⊢
         rcases hw with ⟨rfl, w_10⟩ | ⟨rfl, w_10⟩
         · have w_10 : (0 ≤ x_1.toInt ∧ x_1.toInt < (n 0).toInt) := w_10
           have hl_11 : x_1.toInt.toNat < M := by omega
           refine W.eq (g2 := F0 m 15 ls [.ref (ad (50 + 16 * x_1.toInt.toNat))]) rfl ?_
           exact by
            refine lv_astore_n (lv' := [(2, .ref (ad (50 + 16 * x_1.toInt.toNat))), (1, .int x_1), (0, .ref (ad 0))]) hx hb dX9_isWorkLeft_15 rfl hl (by decide) rfl (fun ls hl => ?_)
            refine lv_aload_n hx hb dX9_isWorkLeft_16 rfl (lv_at hl 0 rfl) ?_
            refine lv_ifnull hx hb dX9_isWorkLeft_17 ?_
            refine lv_aload_n hx hb dX9_isWorkLeft_20 rfl (lv_at hl 0 rfl) ?_
            have hCc : ([(50 + 16 * x_1.toInt.toNat)] : List Nat).map (fun i => ws[i]?) = ([(ad (50 + 16 * x_1.toInt.toNat), .inr (7, [.int (G x_1.toInt.toNat 0), .int (G x_1.toInt.toNat 1), .int (G x_1.toInt.toNat 2), .int (G x_1.toInt.toNat 3), .int (G x_1.toInt.toNat 4), .int (G x_1.toInt.toNat 5), .int (G x_1.toInt.toNat 6), .int (G x_1.toInt.toNat 7), .int (G x_1.toInt.toNat 8), .int (G x_1.toInt.toNat 9), .ref (ad (50 + 16 * x_1.toInt.toNat + 1)), .ref (ad (50 + 16 * x_1.toInt.toNat + 2)), .ref (ad (50 + 16 * x_1.toInt.toNat + 6)), .ref (ad (50 + 16 * x_1.toInt.toNat + 13)), .ref (ad (50 + 16 * x_1.toInt.toNat + 14))]))] : va_W).map some := mp1 (hQ.b0 hl_11)
            have hNd : ([(50 + 16 * x_1.toInt.toNat)] : List Nat).Nodup := (nd_off (50 + 16 * x_1.toInt.toNat) (l := [0]) (by decide))
            have hPc := hP.pick [(50 + 16 * x_1.toInt.toNat)] hCc
            have hDc := hD.pick [(50 + 16 * x_1.toInt.toNat)] hNd hCc
            have hKc := hK.sub (tys' := []) [] rfl
            have hFc := va_free (wc := [(ad (50 + 16 * x_1.toInt.toNat), .inr (7, [.int (G x_1.toInt.toNat 0), .int (G x_1.toInt.toNat 1), .int (G x_1.toInt.toNat 2), .int (G x_1.toInt.toNat 3), .int (G x_1.toInt.toNat 4), .int (G x_1.toInt.toNat 5), .int (G x_1.toInt.toNat 6), .int (G x_1.toInt.toNat 7), .int (G x_1.toInt.toNat 8), .int (G x_1.toInt.toNat 9), .ref (ad (50 + 16 * x_1.toInt.toNat + 1)), .ref (ad (50 + 16 * x_1.toInt.toNat + 2)), .ref (ad (50 + 16 * x_1.toInt.toNat + 6)), .ref (ad (50 + 16 * x_1.toInt.toNat + 13)), .ref (ad (50 + 16 * x_1.toInt.toNat + 14))]))]) hD hS hA [(50 + 16 * x_1.toInt.toNat)] hCc
            refine va_calli (va_runV (As := []) (rest := []) ⟨hx, hb, hml, hown, hg⟩ (c_X7_isOver l dC dI (ad (50 + 16 * x_1.toInt.toNat)) (ad (50 + 16 * x_1.toInt.toNat + 1)) (ad (50 + 16 * x_1.toInt.toNat + 2)) (ad (50 + 16 * x_1.toInt.toNat + 6)) (ad (50 + 16 * x_1.toInt.toNat + 13)) (ad (50 + 16 * x_1.toInt.toNat + 14)) (G x_1.toInt.toNat 0) (G x_1.toInt.toNat 1) (G x_1.toInt.toNat 2) (G x_1.toInt.toNat 3) (G x_1.toInt.toNat 4) (G x_1.toInt.toNat 5) (G x_1.toInt.toNat 6) (G x_1.toInt.toNat 7) (G x_1.toInt.toNat 8) (G x_1.toInt.toNat 9) H.size ) (cwV 0 hg (gw_V gm_methodLink_RX9_138_yX7_isOver gm_instanceMethod_yX7_isOver gm_selects_RX7_yX7_isOver_yX7_isOver gm_initialized_RX7 gm_code_yX7_isOver_cX7_isOver_1_some_boolean_) rfl rfl rfl (by decide +kernel) ⟨Nat.le_of_ble_eq_true rfl, Nat.le_of_ble_eq_true rfl⟩) ⟨fun a U g mk q => by obtain ⟨q0, q1, qP, qK, qD, qN⟩ := q; exact ⟨q0, q1, qP, va_K.moved (u := U) (U := U.calling g mk a) (Vm.Alike.refl U.vm) qK, qD, nx_same (u := U) (U := U.calling g mk a) rfl qN⟩, va_recv hK hP (ci := 7) (q0 := (50 + 16 * x_1.toInt.toNat)) rfl (hQ.b0 hl_11), fun U hU hW => ⟨rfl, by rw [hU], by rw [hU]; exact hPc, va_K.moved hW.alike hKc, hDc.weaken (fun _ _ _ _ => trivial), nx_warm hW hN⟩⟩ rfl rfl hl.1 rfl (lv_room (Nat.le_of_ble_eq_true rfl)) dX9_isWorkLeft_21 ⟨Nat.le_of_ble_eq_true rfl, Nat.le_of_ble_eq_true rfl⟩) hS (fun q _ h => hFc q h) hFc (fun r_12 u_13 t H1 locs ht hvm hw hB hz1 hk1 hS => ?_)
            obtain ⟨hP1, hD1⟩ := hB
            rw [ht] at hP1
            obtain ⟨hP, hD⟩ := va_replS hP hD [(50 + 16 * x_1.toInt.toNat)] hCc hNd hk1 hFc hP1 hD1
            generalize H1 = H at hP hS ⊢
            rcases hw with ⟨rfl, w_14⟩ | ⟨rfl, w_14⟩
            · refine lv_if_ne (tgt := 29) hx hb dX9_isWorkLeft_24 (by decide) (fun _ => ?_) (fun c_15 => absurd c_15 (by decide))
              obtain ⟨y_16, ey_16⟩ : ∃ q : Int32, q = x_1 + (1) := ⟨_, rfl⟩
              exact by
               refine lv_iinc (v := y_16) (lv' := [(1, .int y_16), (2, .ref (ad (50 + 16 * x_1.toInt.toNat))), (0, .ref (ad 0))]) hx hb dX9_isWorkLeft_29 hl (k := 1) rfl (by rw [ey_16]; rfl) (by decide) rfl (fun ls hl => ?_)
               have ty_16 : y_16.toInt = x_1.toInt + (1) := ar_add rfl ti_1 ey_16 (by omega)
               refine lv_goto (tgt := 2) hx hb dX9_isWorkLeft_32 (by decide) ?_
               exact ih_5 y_16     H locs ls (by show (201 - y_16.toInt).toNat < _; omega) (by show 0 ≤ y_16.toInt ∧ y_16.toInt ≤ 200; omega) (by show itr (wlB G) (fun _ => false) y_16.toInt.toNat ((n 0).toInt.toNat - y_16.toInt.toNat) () = k_wl (C9.mk n f T G K F); have hX := v_4; (first | rw [itr_go (by omega)] at hX | rw [itr_end (by omega)] at hX); (repeat (first | dsimp +instances only [c9n, c9f, c9T, c9G, c9K, c9F, b_come, b_leave, b_fill, awB, b_settle, b_wake, b_take, f_take, b_gather, f_gather, b_ask, a_ask, b_tell, c_close, d_close, k_add, k_rem, sco, k_clrF, k_mem, k_rebind, k_bnd, k_beg0, k_beg1, b_giveN, b_giveR, f_open, b_hand, k_op, b_turn, wlB, b_beat, f_anew, b_wipe, b_off, k_sadd, fits, frP, cntB, b_trace, b_child, k_lat, cond_true, cond_false, Option.elim_none, Option.elim_some, Option.getD_none, Option.getD_some] at hX | rw [if_pos (by first | with_reducible assumption | omega)] at hX | rw [if_neg (by first | with_reducible assumption | omega)] at hX | rw [jx_of (by omega)] at hX)); (rw [show y_16.toInt.toNat = x_1.toInt.toNat + 1 by omega]); first | exact hX | (exfalso; omega) | exact hX) hP hD hS (lv_sub hl [0, 2] rfl)
            · refine lv_if_ne (tgt := 29) hx hb dX9_isWorkLeft_24 (by decide) (fun c_17 => absurd c_17 (by decide)) (fun _ => ?_)
              refine lv_iconst (v := 1) hx hb dX9_isWorkLeft_27 (by decide) ?_
              refine W_msr2 (fun hm1 hm2 hm3 => ?_)
              exact W.zret (v := 1) hx hb hr rfl (fun t ht hW => ⟨⟨1, (), rfl, (Or.inl ⟨rfl, ⟨(Eq.symm (by show true = k_wl (C9.mk n f T G K F); have hX := v_4; (first | rw [itr_go (by omega)] at hX | rw [itr_end (by omega)] at hX); (repeat (first | dsimp +instances only [c9n, c9f, c9T, c9G, c9K, c9F, b_come, b_leave, b_fill, awB, b_settle, b_wake, b_take, f_take, b_gather, f_gather, b_ask, a_ask, b_tell, c_close, d_close, k_add, k_rem, sco, k_clrF, k_mem, k_rebind, k_bnd, k_beg0, k_beg1, b_giveN, b_giveR, f_open, b_hand, k_op, b_turn, wlB, b_beat, f_anew, b_wipe, b_off, k_sadd, fits, frP, cntB, b_trace, b_child, k_lat, cond_true, cond_false, Option.elim_none, Option.elim_some, Option.getD_none, Option.getD_some] at hX | rw [if_pos (by first | with_reducible assumption | omega)] at hX | rw [if_neg (by first | with_reducible assumption | omega)] at hX | rw [jx_of (by omega)] at hX)); first | exact hX | (exfalso; omega) | exact hX)), by show 0 < (n 0).toInt; omega⟩⟩), by rw [ht]; exact hP, hD, by rw [ht]; omega, by rw [ht]; omega⟩, hS.F ht⟩) hS.2.2 dX9_isWorkLeft_28
         · have w_10 : ¬ (0 ≤ x_1.toInt ∧ x_1.toInt < (n 0).toInt) := w_10
           refine W.eq (g2 := F0 m 15 ls [.null]) rfl ?_
           refine lv_astore_nN (lv' := [(2, .null), (1, .int x_1), (0, .ref (ad 0))]) hx hb dX9_isWorkLeft_15 rfl hl (by decide) rfl (fun ls hl => ?_)
           refine lv_aload_nN hx hb dX9_isWorkLeft_16 rfl (lv_at hl 0 rfl) ?_
           refine lv_ifnullN (tgt := 29) hx hb dX9_isWorkLeft_17 (by decide) ?_
           obtain ⟨y_18, ey_18⟩ : ∃ q : Int32, q = x_1 + (1) := ⟨_, rfl⟩
           refine lv_iinc (v := y_18) (lv' := [(1, .int y_18), (2, .null), (0, .ref (ad 0))]) hx hb dX9_isWorkLeft_29 hl (k := 1) rfl (by rw [ey_18]; rfl) (by decide) rfl (fun ls hl => ?_)
           have ty_18 : y_18.toInt = x_1.toInt + (1) := ar_add rfl ti_1 ey_18 (by omega)
           refine lv_goto (tgt := 2) hx hb dX9_isWorkLeft_32 (by decide) ?_
           exact ih_5 y_18     H locs ls (by show (201 - y_18.toInt).toNat < _; omega) (by show 0 ≤ y_18.toInt ∧ y_18.toInt ≤ 200; omega) (by show itr (wlB G) (fun _ => false) y_18.toInt.toNat ((n 0).toInt.toNat - y_18.toInt.toNat) () = k_wl (C9.mk n f T G K F); have hX := v_4; (first | rw [itr_go (by omega)] at hX | rw [itr_end (by omega)] at hX); (repeat (first | dsimp +instances only [c9n, c9f, c9T, c9G, c9K, c9F, b_come, b_leave, b_fill, awB, b_settle, b_wake, b_take, f_take, b_gather, f_gather, b_ask, a_ask, b_tell, c_close, d_close, k_add, k_rem, sco, k_clrF, k_mem, k_rebind, k_bnd, k_beg0, k_beg1, b_giveN, b_giveR, f_open, b_hand, k_op, b_turn, wlB, b_beat, f_anew, b_wipe, b_off, k_sadd, fits, frP, cntB, b_trace, b_child, k_lat, cond_true, cond_false, Option.elim_none, Option.elim_some, Option.getD_none, Option.getD_some] at hX | rw [if_pos (by first | with_reducible assumption | omega)] at hX | rw [if_neg (by first | with_reducible assumption | omega)] at hX | rw [jx_of (by omega)] at hX)); (rw [show y_18.toInt.toNat = x_1.toInt.toNat + 1 by omega]); first | exact hX | (exfalso; omega) | exact hX) hP hD hS (lv_sub hl [0, 2] rfl)
   exact L2 _ (0 : Int32)     _ _ _ (Nat.lt_succ_self _) (by have t_0 := ti_0; show 0 ≤ (0 : Int32).toInt ∧ (0 : Int32).toInt ≤ 200; omega) (by show itr (wlB G) (fun _ => false) (0 : Int32).toInt.toNat ((n 0).toInt.toNat - (0 : Int32).toInt.toNat) () = k_wl (C9.mk n f T G K F); have hX := (k_wl.eq_1 (C9.mk n f T G K F)).symm; (repeat (first | dsimp +instances only [c9n, c9f, c9T, c9G, c9K, c9F, b_come, b_leave, b_fill, awB, b_settle, b_wake, b_take, f_take, b_gather, f_gather, b_ask, a_ask, b_tell, c_close, d_close, k_add, k_rem, sco, k_clrF, k_mem, k_rebind, k_bnd, k_beg0, k_beg1, b_giveN, b_giveR, f_open, b_hand, k_op, b_turn, wlB, b_beat, f_anew, b_wipe, b_off, k_sadd, fits, frP, cntB, b_trace, b_child, k_lat, cond_true, cond_false, Option.elim_none, Option.elim_some, Option.getD_none, Option.getD_some] at hX | rw [if_pos (by first | with_reducible assumption | omega)] at hX | rw [if_neg (by first | with_reducible assumption | omega)] at hX | rw [jx_of (by omega)] at hX)); (skip); first | exact hX | (exfalso; omega) | exact hX) hP hD hS (lv_sub hl [0, 1] rfl)

set_option maxHeartbeats 8000000 in
set_option maxRecDepth 100000 in
theorem c_X9_runOnThread (l : Launch) (dC : Nat → ClassId) (dI : Nat → Nat → Nat) (kc : Nat → ClassId) (ws : va_W) (ad : Nat → Nat) (ga : Nat → Nat) (gc : Nat → Nat) (M : Nat) (n : Nat → Int32) (f : Nat → Nat → Int32) (T : Nat → Option Nat) (G : Nat → Nat → Int32) (K : Nat → Nat → Option Nat) (F : Nat → Nat → Nat → Int32) (R : Nat) (v1 : Int32) (sz hz : Nat) (hQ : Pic9 kc ws ad ga gc M n f T G K F) (hI : I9 M n f T gc G K F R) : Met l yX9_runOnThread (.code yX9_runOnThread cX9_runOnThread 3 (some .int) :: gw) ({ frames := 0, cells := 0, slots := 0, locals := 0 }) (va_Pc [.ref (ad 0), .int v1] (fun U => U.heap.size = sz ∧ hpS U.heap = hz ∧ va_P (dC, dI) vwCl ws U.heap ∧ va_K (dC, dI) vwCl (t9 kc) U ∧ va_D (fun _ => True) ws ∧ nx U)) (va_Qi (fun (r : Int32) (u : Unit) => r = k_onT v1 (C9.mk n f T G K F)) (fun _ t => va_P (dC, dI) vwCl ws t.heap ∧ va_D (va_A ws sz) ws ∧ hpS t.heap ≤ hz ∧ t.heap.size ≤ sz) (va_A ws sz)) 0 0 (va_A ws sz) := by
  refine Met.ofW (cc := cX9_runOnThread) (maxL := 3) (ret := (some .int)) (by decide) rfl ?_
  intro p e s m args below meth c s₁ B hml hv
  obtain ⟨rfl, hsz, rfl, hP, hK, hD0, hN⟩ := hv
  have hx := B.exec
  have hb := B.bytes
  have hr := B.returns
  have hts := atoms_spec (ws := .code yX9_runOnThread cX9_runOnThread 3 (some .int) :: gw) B.pre
  have hg : ∀ w ∈ gw, w.before _ s = true := fun w h => hts w (List.mem_cons_of_mem _ h)
  have hown : s.vm.findClass RX9 = some m.cls := findClass_of_methodNamed B.named
  have hlocks := B.notSynchronized
  subst hsz
  have hD := hD0.self (sz := s.heap.size)
  generalize hAe : va_A ws s.heap.size = A at hD ⊢
  have hA : ∀ q : Nat, s.heap.size ≤ q → A q := fun q h => by rw [← hAe]; exact Or.inr h
  clear hAe
  have hS : va_S A s.heap s.heap [] := va_S.rf
  have hl := lv_entry ([.ref (ad 0), .int v1]) (n := 3) (Nat.le_of_ble_eq_true rfl)
  rw [lg_entry_eq]
  generalize (lg_sl ([.ref (ad 0), .int v1]) ++ List.replicate (3 - (lg_sl ([.ref (ad 0), .int v1])).length) Slot.unset).toArray = ls at hl ⊢
  have hl : lv_has ls 3 [(0, .ref (ad 0)), (1, .int v1)] := hl
  obtain ⟨h_i1, h_i2, h_i3, h_i4, h_i5, h_i6, h_i7, h_i8, h_i9, h_i10, h_i11⟩ := id hI
  have q1_ := h_i1
  unfold i1 at q1_
  have ub_ := i_ub v1
  exact by
   refine lv_iload_n hx hb dX9_runOnThread_0 rfl (lv_at hl 1 rfl) ?_
   refine lv_bipush (v := 16) hx hb dX9_runOnThread_1 (by decide) ?_
   refine lv_icmp_lt (tgt := 17) hx hb dX9_runOnThread_3 (by decide) (fun c_1 => ?_) (fun c_1 => ?_)
   · simp only [i_lt, i_le, i_eq, ti_16] at c_1
     refine lv_iconst (v := -1) hx hb dX9_runOnThread_17 (by decide) ?_
     refine W_msr2 (fun hm1 hm2 hm3 => ?_)
     exact W.iret (v := -1) hx hb hr (fun t ht hW => ⟨⟨-1, (), rfl, (by show (-1 : Int32) = k_onT v1 (C9.mk n f T G K F); have hX := (k_onT.eq_1 v1 (C9.mk n f T G K F)).symm; (repeat (first | dsimp +instances only [c9n, c9f, c9T, c9G, c9K, c9F, b_come, b_leave, b_fill, awB, b_settle, b_wake, b_take, f_take, b_gather, f_gather, b_ask, a_ask, b_tell, c_close, d_close, k_add, k_rem, sco, k_clrF, k_mem, k_rebind, k_bnd, k_beg0, k_beg1, b_giveN, b_giveR, f_open, b_hand, k_op, b_turn, wlB, b_beat, f_anew, b_wipe, b_off, k_sadd, fits, frP, cntB, b_trace, b_child, k_lat, cond_true, cond_false, Option.elim_none, Option.elim_some, Option.getD_none, Option.getD_some] at hX | rw [if_pos (by first | with_reducible assumption | omega)] at hX | rw [if_neg (by first | with_reducible assumption | omega)] at hX | rw [jx_of (by omega)] at hX)); first | exact hX | (exfalso; omega) | exact hX), by rw [ht]; exact hP, hD, by rw [ht]; omega, by rw [ht]; omega⟩, hS.F ht⟩) hS.2.2 dX9_runOnThread_18
   · simp only [i_lt, i_le, i_eq, ti_16] at c_1
     refine lv_iload_n hx hb dX9_runOnThread_6 rfl (lv_at hl 1 rfl) ?_
     refine lv_bipush (v := 16) hx hb dX9_runOnThread_7 (by decide) ?_
     refine lv_aload_n hx hb dX9_runOnThread_9 rfl (lv_at hl 0 rfl) ?_
     refine va_get (D := (dC, dI)) (ci := 9) (v := .int (n 1)) (C := RX9) (T := TX9) (N := 15) hx hb hg gb_9 hown hK hP 0 hQ.x0 rfl 7 (by decide) (hg _ gm_fieldLink_RX9_38_ErrandGuild_threadCount_I_) (fun _ h9 => h9) rfl dX9_runOnThread_10 ?_
     exact by
      refine lv_iadd hx hb dX9_runOnThread_13 ?_
      refine lv_topi (fun z_2 ez_2 => ?_)
      refine lv_icmp_lt (tgt := 19) hx hb dX9_runOnThread_14 (by decide) (fun c_3 => ?_) (fun c_3 => ?_)
      · simp only [i_lt, i_le, i_eq] at c_3
        refine lv_iload_n hx hb dX9_runOnThread_19 rfl (lv_at hl 1 rfl) ?_
        refine lv_bipush (v := 16) hx hb dX9_runOnThread_20 (by decide) ?_
        refine lv_isub hx hb dX9_runOnThread_22 ?_
        refine lv_topi (fun z_4 ez_4 => ?_)
        have tz_4 : z_4.toInt = v1.toInt - 16 := ar_sub rfl ti_16 ez_4 (by omega)
        refine lv_istore_n (lv' := [(2, .int z_4), (0, .ref (ad 0)), (1, .int v1)]) hx hb dX9_runOnThread_23 rfl hl (by decide) rfl (fun ls hl => ?_)
        refine lv_iload_n hx hb dX9_runOnThread_24 rfl (lv_at hl 0 rfl) ?_
        refine lv_bipush (v := 6) hx hb dX9_runOnThread_25 (by decide) ?_
        exact by
         refine lv_icmp_ge (tgt := 39) hx hb dX9_runOnThread_27 (by decide) (fun c_5 => ?_) (fun c_5 => ?_)
         · simp only [i_lt, i_le, i_eq, ti_6] at c_5
           refine lv_iconst (v := -1) hx hb dX9_runOnThread_39 (by decide) ?_
           refine W_msr2 (fun hm1 hm2 hm3 => ?_)
           exact W.iret (v := -1) hx hb hr (fun t ht hW => ⟨⟨-1, (), rfl, (by show (-1 : Int32) = k_onT v1 (C9.mk n f T G K F); subst ez_2; subst ez_4; have hX := (k_onT.eq_1 v1 (C9.mk n f T G K F)).symm; (repeat (first | dsimp +instances only [c9n, c9f, c9T, c9G, c9K, c9F, b_come, b_leave, b_fill, awB, b_settle, b_wake, b_take, f_take, b_gather, f_gather, b_ask, a_ask, b_tell, c_close, d_close, k_add, k_rem, sco, k_clrF, k_mem, k_rebind, k_bnd, k_beg0, k_beg1, b_giveN, b_giveR, f_open, b_hand, k_op, b_turn, wlB, b_beat, f_anew, b_wipe, b_off, k_sadd, fits, frP, cntB, b_trace, b_child, k_lat, cond_true, cond_false, Option.elim_none, Option.elim_some, Option.getD_none, Option.getD_some] at hX | rw [if_pos (by first | with_reducible assumption | omega)] at hX | rw [if_neg (by first | with_reducible assumption | omega)] at hX | rw [jx_of (by omega)] at hX)); first | exact hX | (exfalso; omega) | exact hX), by rw [ht]; exact hP, hD, by rw [ht]; omega, by rw [ht]; omega⟩, hS.F ht⟩) hS.2.2 dX9_runOnThread_40
         · simp only [i_lt, i_le, i_eq, ti_6] at c_5
           refine lv_aload_n hx hb dX9_runOnThread_30 rfl (lv_at hl 1 rfl) ?_
           refine va_get (D := (dC, dI)) (ci := 9) (v := .ref (ad 41)) (C := RX9) (T := TX9) (N := 15) hx hb hg gb_9 hown hK hP 0 hQ.x0 rfl 6 (by decide) (hg _ gm_fieldLink_RX9_35_ErrandGuild_onThreads_ALErrandGuild_Run_) (fun _ h9 => h9) rfl dX9_runOnThread_31 ?_
           refine lv_iload_n hx hb dX9_runOnThread_34 rfl (lv_at hl 0 rfl) ?_
           refine va_aldq hx hb hK hP 41 3 hQ.x41 rfl (vp_in_iff.mpr ⟨by omega, by omega⟩) dX9_runOnThread_35 ?_
           rcases eo_6 : T z_4.toInt.toNat with _ | j_7
           · refine W.eq (g2 := F0 m 36 ls [.null]) (by first | rfl | (unfold thA; rw [cl_eq, eo_6]; rfl)) ?_
             exact by
              refine lv_ifnonnullN hx hb dX9_runOnThread_36 ?_
              refine lv_iconst (v := -1) hx hb dX9_runOnThread_39 (by decide) ?_
              refine W_msr2 (fun hm1 hm2 hm3 => ?_)
              exact W.iret (v := -1) hx hb hr (fun t ht hW => ⟨⟨-1, (), rfl, (by show (-1 : Int32) = k_onT v1 (C9.mk n f T G K F); subst ez_2; subst ez_4; have hX := (k_onT.eq_1 v1 (C9.mk n f T G K F)).symm; (repeat (first | dsimp +instances only [c9n, c9f, c9T, c9G, c9K, c9F, b_come, b_leave, b_fill, awB, b_settle, b_wake, b_take, f_take, b_gather, f_gather, b_ask, a_ask, b_tell, c_close, d_close, k_add, k_rem, sco, k_clrF, k_mem, k_rebind, k_bnd, k_beg0, k_beg1, b_giveN, b_giveR, f_open, b_hand, k_op, b_turn, wlB, b_beat, f_anew, b_wipe, b_off, k_sadd, fits, frP, cntB, b_trace, b_child, k_lat, cond_true, cond_false, Option.elim_none, Option.elim_some, Option.getD_none, Option.getD_some] at hX | rw [eo_6] at hX | rw [if_pos (by first | with_reducible assumption | omega)] at hX | rw [if_neg (by first | with_reducible assumption | omega)] at hX | rw [jx_of (by omega)] at hX)); first | exact hX | (exfalso; omega) | exact hX), by rw [ht]; exact hP, hD, by rw [ht]; omega, by rw [ht]; omega⟩, hS.F ht⟩) hS.2.2 dX9_runOnThread_40
           · refine W.eq (g2 := F0 m 36 ls [.ref (ad (50 + 16 * j_7))]) (by first | rfl | (unfold thA; rw [cl_eq, eo_6]; rfl)) ?_
             have hj_7 : j_7 < M := h_i2 _ _ eo_6
             refine lv_ifnonnull (tgt := 41) hx hb dX9_runOnThread_36 (by decide) ?_
             refine lv_aload_n hx hb dX9_runOnThread_41 rfl (lv_at hl 1 rfl) ?_
             refine va_get (D := (dC, dI)) (ci := 9) (v := .ref (ad 41)) (C := RX9) (T := TX9) (N := 15) hx hb hg gb_9 hown hK hP 0 hQ.x0 rfl 6 (by decide) (hg _ gm_fieldLink_RX9_35_ErrandGuild_onThreads_ALErrandGuild_Run_) (fun _ h9 => h9) rfl dX9_runOnThread_42 ?_
             refine lv_iload_n hx hb dX9_runOnThread_45 rfl (lv_at hl 0 rfl) ?_
             refine va_aldq hx hb hK hP 41 3 hQ.x41 rfl (vp_in_iff.mpr ⟨by omega, by omega⟩) dX9_runOnThread_46 ?_
             refine W.eq (g2 := F0 m 47 ls [.ref (ad (50 + 16 * j_7))]) (by unfold thA; rw [cl_eq, eo_6]; rfl) ?_
             refine va_get (D := (dC, dI)) (ci := 7) (v := .int (G j_7 0)) (C := RX7) (T := TX7) (N := 15) hx hb hg gb_7 hown hK hP (50 + 16 * j_7) (hQ.b0 hj_7) rfl 0 (by decide) (hg _ gm_fieldLink_RX9_118_ErrandGuild_Run_number_I_) (fun _ h9 => h9) rfl dX9_runOnThread_47 ?_
             refine W_msr2 (fun hm1 hm2 hm3 => ?_)
             exact W.iret (v := G j_7 0) hx hb hr (fun t ht hW => ⟨⟨G j_7 0, (), rfl, (by show G j_7 0 = k_onT v1 (C9.mk n f T G K F); subst ez_2; subst ez_4; have hX := (k_onT.eq_1 v1 (C9.mk n f T G K F)).symm; (repeat (first | dsimp +instances only [c9n, c9f, c9T, c9G, c9K, c9F, b_come, b_leave, b_fill, awB, b_settle, b_wake, b_take, f_take, b_gather, f_gather, b_ask, a_ask, b_tell, c_close, d_close, k_add, k_rem, sco, k_clrF, k_mem, k_rebind, k_bnd, k_beg0, k_beg1, b_giveN, b_giveR, f_open, b_hand, k_op, b_turn, wlB, b_beat, f_anew, b_wipe, b_off, k_sadd, fits, frP, cntB, b_trace, b_child, k_lat, cond_true, cond_false, Option.elim_none, Option.elim_some, Option.getD_none, Option.getD_some] at hX | rw [eo_6] at hX | rw [if_pos (by first | with_reducible assumption | omega)] at hX | rw [if_neg (by first | with_reducible assumption | omega)] at hX | rw [jx_of (by omega)] at hX)); first | exact hX | (exfalso; omega) | exact hX), by rw [ht]; exact hP, hD, by rw [ht]; omega, by rw [ht]; omega⟩, hS.F ht⟩) hS.2.2 dX9_runOnThread_50
      · simp only [i_lt, i_le, i_eq] at c_3
        refine lv_iconst (v := -1) hx hb dX9_runOnThread_17 (by decide) ?_
        refine W_msr2 (fun hm1 hm2 hm3 => ?_)
        exact W.iret (v := -1) hx hb hr (fun t ht hW => ⟨⟨-1, (), rfl, (by show (-1 : Int32) = k_onT v1 (C9.mk n f T G K F); subst ez_2; have hX := (k_onT.eq_1 v1 (C9.mk n f T G K F)).symm; (repeat (first | dsimp +instances only [c9n, c9f, c9T, c9G, c9K, c9F, b_come, b_leave, b_fill, awB, b_settle, b_wake, b_take, f_take, b_gather, f_gather, b_ask, a_ask, b_tell, c_close, d_close, k_add, k_rem, sco, k_clrF, k_mem, k_rebind, k_bnd, k_beg0, k_beg1, b_giveN, b_giveR, f_open, b_hand, k_op, b_turn, wlB, b_beat, f_anew, b_wipe, b_off, k_sadd, fits, frP, cntB, b_trace, b_child, k_lat, cond_true, cond_false, Option.elim_none, Option.elim_some, Option.getD_none, Option.getD_some] at hX | rw [if_pos (by first | with_reducible assumption | omega)] at hX | rw [if_neg (by first | with_reducible assumption | omega)] at hX | rw [jx_of (by omega)] at hX)); first | exact hX | (exfalso; omega) | exact hX), by rw [ht]; exact hP, hD, by rw [ht]; omega, by rw [ht]; omega⟩, hS.F ht⟩) hS.2.2 dX9_runOnThread_18

set_option maxHeartbeats 8000000 in
set_option maxRecDepth 100000 in
theorem c_X9_readIn (l : Launch) (dC : Nat → ClassId) (dI : Nat → Nat → Nat) (kc : Nat → ClassId) (ws : va_W) (ad : Nat → Nat) (ga : Nat → Nat) (gc : Nat → Nat) (M : Nat) (n : Nat → Int32) (f : Nat → Nat → Int32) (T : Nat → Option Nat) (G : Nat → Nat → Int32) (K : Nat → Nat → Option Nat) (F : Nat → Nat → Nat → Int32) (R : Nat) (i : Nat) (v2 : Int32) (sz hz : Nat) (hQ : Pic9 kc ws ad ga gc M n f T G K F) (hI : I9 M n f T gc G K F R) (hi : i < M) : Met l yX9_readIn (.code yX9_readIn cX9_readIn 3 (some .int) :: gw) ({ frames := 2, cells := 0, slots := 0, locals := 45 }) (va_Pc [.ref (ad 0), .ref (ad (50 + 16 * i)), .int v2] (fun U => U.heap.size = sz ∧ hpS U.heap = hz ∧ va_P (dC, dI) vwCl ws U.heap ∧ va_K (dC, dI) vwCl (t9 kc) U ∧ va_D (fun _ => True) ws ∧ nx U)) (va_Qi (fun (r : Int32) (u : Unit) => r = k_read (C9.mk n f T G K F) i v2) (fun _ t => va_P (dC, dI) vwCl ws t.heap ∧ va_D (va_A ws sz) ws ∧ hpS t.heap ≤ hz ∧ t.heap.size ≤ sz) (va_A ws sz)) 0 0 (va_A ws sz) := by
  refine Met.ofW (cc := cX9_readIn) (maxL := 3) (ret := (some .int)) (by decide) rfl ?_
  intro p e s m args below meth c s₁ B hml hv
  obtain ⟨rfl, hsz, rfl, hP, hK, hD0, hN⟩ := hv
  have hx := B.exec
  have hb := B.bytes
  have hr := B.returns
  have hts := atoms_spec (ws := .code yX9_readIn cX9_readIn 3 (some .int) :: gw) B.pre
  have hg : ∀ w ∈ gw, w.before _ s = true := fun w h => hts w (List.mem_cons_of_mem _ h)
  have hown : s.vm.findClass RX9 = some m.cls := findClass_of_methodNamed B.named
  have hlocks := B.notSynchronized
  subst hsz
  have hD := hD0.self (sz := s.heap.size)
  generalize hAe : va_A ws s.heap.size = A at hD ⊢
  have hA : ∀ q : Nat, s.heap.size ≤ q → A q := fun q h => by rw [← hAe]; exact Or.inr h
  clear hAe
  have hS : va_S A s.heap s.heap [] := va_S.rf
  have hl := lv_entry ([.ref (ad 0), .ref (ad (50 + 16 * i)), .int v2]) (n := 3) (Nat.le_of_ble_eq_true rfl)
  rw [lg_entry_eq]
  generalize (lg_sl ([.ref (ad 0), .ref (ad (50 + 16 * i)), .int v2]) ++ List.replicate (3 - (lg_sl ([.ref (ad 0), .ref (ad (50 + 16 * i)), .int v2])).length) Slot.unset).toArray = ls at hl ⊢
  have hl : lv_has ls 3 [(0, .ref (ad 0)), (1, .ref (ad (50 + 16 * i))), (2, .int v2)] := hl
  obtain ⟨h_i1, h_i2, h_i3, h_i4, h_i5, h_i6, h_i7, h_i8, h_i9, h_i10, h_i11⟩ := id hI
  have q1_ := h_i1
  unfold i1 at q1_
  exact by
   refine lv_iload_n hx hb dX9_readIn_0 rfl (lv_at hl 2 rfl) ?_
   have hCc : ([] : List Nat).map (fun i => ws[i]?) = ([] : va_W).map some := rfl
   have hNd : ([] : List Nat).Nodup := List.nodup_nil
   have hPc := hP.pick [] hCc
   have hDc := hD.pick [] hNd hCc
   have hKc := hK.sub (tys' := []) [] rfl
   have hFc := va_free (wc := []) hD hS hA [] hCc
   refine va_calli (va_runS (As := [.int v2]) (rest := []) ⟨hx, hb, hml, hown, hg⟩ (c_X9_isSlot l dC dI v2 s.heap.size ) (va_cwS 1 hg (gw_S gm_methodLink_RX9_62_yX9_isSlot gm_static_yX9_isSlot gm_initialized_RX9 gm_code_yX9_isSlot_cX9_isSlot_1_some_boolean_) rfl rfl rfl (by decide +kernel) ⟨Nat.le_of_ble_eq_true rfl, Nat.le_of_ble_eq_true rfl⟩) ⟨fun a U g mk q => by obtain ⟨q0, q1, qP, qK, qD, qN⟩ := q; exact ⟨q0, q1, qP, va_K.moved (u := U) (U := U.calling g mk a) (Vm.Alike.refl U.vm) qK, qD, nx_same (u := U) (U := U.calling g mk a) rfl qN⟩, fun U hU hW => ⟨rfl, by rw [hU], by rw [hU]; exact hPc, va_K.moved hW.alike hKc, hDc.weaken (fun _ _ _ _ => trivial), nx_warm hW hN⟩⟩ rfl rfl hl.1 rfl (lv_room (Nat.le_of_ble_eq_true rfl)) dX9_readIn_1 ⟨Nat.le_of_ble_eq_true rfl, Nat.le_of_ble_eq_true rfl⟩) hS (fun q _ h => hFc q h) hFc (fun r_1 u_2 t H1 locs ht hvm hw hB hz1 hk1 hS => ?_)
   obtain ⟨hP, hD⟩ := va_replS hP hD [] rfl List.nodup_nil hk1 hFc nil_P nil_D
   generalize H1 = H at hP hS ⊢
   rcases hw with ⟨rfl, w_3⟩ | ⟨rfl, w_3⟩
   · refine lv_if_ne (tgt := 9) hx hb dX9_readIn_4 (by decide) (fun _ => ?_) (fun c_4 => absurd c_4 (by decide))
     exact by
      refine lv_aload_n hx hb dX9_readIn_9 rfl (lv_at hl 0 rfl) ?_
      refine va_get (D := (dC, dI)) (ci := 9) (v := .ref (ad 1)) (C := RX9) (T := TX9) (N := 15) hx hb hg gb_9 hown hK hP 0 hQ.x0 rfl 0 (by decide) (hg _ gm_fieldLink_RX9_9_ErrandGuild_manners_AI_) (fun _ h9 => h9) rfl dX9_readIn_10 ?_
      refine lv_iload_n hx hb dX9_readIn_13 rfl (lv_at hl 2 rfl) ?_
      refine va_iald (f := f 0) hx hb hK hP 1 0 hQ.x1 rfl (vp_in_iff.mpr ⟨by omega, by omega⟩) dX9_readIn_14 ?_
      refine lv_topi (fun z_5 ez_5 => ?_)
      have ez_5 : z_5 = f 0 v2.toInt.toNat := ez_5
      have qz_5 := congrArg Int32.toInt ez_5
      rcases (show (z_5.toInt < 1 ∨ 3 < z_5.toInt) ∨ z_5.toInt = 1 ∨ z_5.toInt = 2 ∨ z_5.toInt = 3 by omega) with sw_6 | sw_6 | sw_6 | sw_6
      · refine lv_tableOut (tgt := 92) hx hb dX9_readIn_15 sw_6 (by decide) ?_
        refine lv_aload_n hx hb dX9_readIn_92 rfl (lv_at hl 1 rfl) ?_
        refine va_get (D := (dC, dI)) (ci := 7) (v := .ref (ad (50 + 16 * i + 2))) (C := RX7) (T := TX7) (N := 15) hx hb hg gb_7 hown hK hP (50 + 16 * i) (hQ.b0 hi) rfl 11 (by decide) (hg _ gm_fieldLink_RX9_253_ErrandGuild_Run_memory_LErrandGuild_Memory_) (fun _ h9 => h9) rfl dX9_readIn_93 ?_
        refine lv_iload_n hx hb dX9_readIn_96 rfl (lv_at hl 2 rfl) ?_
        exact by
         refine lv_aload_n hx hb dX9_readIn_97 rfl (lv_at hl 0 rfl) ?_
         refine va_get (D := (dC, dI)) (ci := 9) (v := .ref (ad 2)) (C := RX9) (T := TX9) (N := 15) hx hb hg gb_9 hown hK hP 0 hQ.x0 rfl 1 (by decide) (hg _ gm_fieldLink_RX9_13_ErrandGuild_firsts_AI_) (fun _ h9 => h9) rfl dX9_readIn_98 ?_
         refine lv_iload_n hx hb dX9_readIn_101 rfl (lv_at hl 2 rfl) ?_
         refine va_iald (f := f 1) hx hb hK hP 2 0 hQ.x2 rfl (vp_in_iff.mpr ⟨by omega, by omega⟩) dX9_readIn_102 ?_
         refine lv_topi (fun z_7 ez_7 => ?_)
         have ez_7 : z_7 = f 1 v2.toInt.toNat := ez_7
         have qz_7 := congrArg Int32.toInt ez_7
         have hCc : ([(50 + 16 * i + 2), (50 + 16 * i + 3), (50 + 16 * i + 4)] : List Nat).map (fun i => ws[i]?) = ([(ad (50 + 16 * i + 2), .inr (6, [.ref (ad (50 + 16 * i + 3)), .ref (ad (50 + 16 * i + 4)), .ref (ad (50 + 16 * i + 5))])), (ad (50 + 16 * i + 3), .inl (kc 1, 8, .inl (F i 0))), (ad (50 + 16 * i + 4), .inl (kc 0, 8, .inl (F i 1)))] : va_W).map some := mp3 (hQ.b2 hi) (hQ.b3 hi) (hQ.b4 hi)
         have hNd : ([(50 + 16 * i + 2), (50 + 16 * i + 3), (50 + 16 * i + 4)] : List Nat).Nodup := (nd_off (50 + 16 * i) (l := [2, 3, 4]) (by decide))
         have hPc := hP.pick [(50 + 16 * i + 2), (50 + 16 * i + 3), (50 + 16 * i + 4)] hCc
         have hDc := hD.pick [(50 + 16 * i + 2), (50 + 16 * i + 3), (50 + 16 * i + 4)] hNd hCc
         have hKc := hK.sub (tys' := [((kc 1), .boolean), ((kc 0), .int)]) [1, 0] rfl
         have hFc := va_free (wc := [(ad (50 + 16 * i + 2), .inr (6, [.ref (ad (50 + 16 * i + 3)), .ref (ad (50 + 16 * i + 4)), .ref (ad (50 + 16 * i + 5))])), (ad (50 + 16 * i + 3), .inl (kc 1, 8, .inl (F i 0))), (ad (50 + 16 * i + 4), .inl (kc 0, 8, .inl (F i 1)))]) hD hS hA [(50 + 16 * i + 2), (50 + 16 * i + 3), (50 + 16 * i + 4)] hCc
         exact by
          refine va_calli (va_runV (As := [.int v2, .int z_7]) (rest := []) ⟨hx, hb, hml, hown, hg⟩ (c_X6_writtenOr l dC dI (ad (50 + 16 * i + 2)) (ad (50 + 16 * i + 3)) (ad (50 + 16 * i + 4)) (ad (50 + 16 * i + 5)) (kc 1) (kc 0) (F i 0) (F i 1) v2 z_7 H.size ) (cwV 2 hg (gw_V gm_methodLink_RX9_262_yX6_writtenOr gm_instanceMethod_yX6_writtenOr gm_selects_RX6_yX6_writtenOr_yX6_writtenOr gm_initialized_RX6 gm_code_yX6_writtenOr_cX6_writtenOr_3_some_int_) rfl rfl rfl (by decide +kernel) ⟨Nat.le_of_ble_eq_true rfl, Nat.le_of_ble_eq_true rfl⟩) ⟨fun a U g mk q => by obtain ⟨q0, q1, qP, qK, qD, qN⟩ := q; exact ⟨q0, q1, qP, va_K.moved (u := U) (U := U.calling g mk a) (Vm.Alike.refl U.vm) qK, qD, nx_same (u := U) (U := U.calling g mk a) rfl qN⟩, va_recv hK hP (ci := 6) (q0 := (50 + 16 * i + 2)) rfl (hQ.b2 hi), fun U hU hW => ⟨rfl, by rw [hU], by rw [hU]; exact hPc, va_K.moved hW.alike hKc, hDc.weaken (fun _ _ _ _ => trivial), nx_warm hW hN⟩⟩ rfl rfl hl.1 rfl (lv_room (Nat.le_of_ble_eq_true rfl)) dX9_readIn_103 ⟨Nat.le_of_ble_eq_true rfl, Nat.le_of_ble_eq_true rfl⟩) hS (fun q _ h => hFc q h) hFc (fun r_8 u_9 t H1 locs ht hvm hw hB hz1 hk1 hS => ?_)
          obtain ⟨hP1, hD1⟩ := hB
          rw [ht] at hP1
          obtain ⟨hP, hD⟩ := va_replS hP hD [(50 + 16 * i + 2), (50 + 16 * i + 3), (50 + 16 * i + 4)] hCc hNd hk1 hFc hP1 hD1
          generalize H1 = H at hP hS ⊢
          have w_10 : r_8 = wrOr (F i 0) (F i 1) v2 z_7 := hw
          refine W_msr2 (fun hm1 hm2 hm3 => ?_)
          exact W.iret (v := r_8) hx hb hr (fun t ht hW => ⟨⟨r_8, (), rfl, (by show r_8 = k_read (C9.mk n f T G K F) i v2; subst ez_5; subst ez_7; have hX := (k_read.eq_1 (C9.mk n f T G K F) i v2).symm; (repeat (first | dsimp +instances only [c9n, c9f, c9T, c9G, c9K, c9F, b_come, b_leave, b_fill, awB, b_settle, b_wake, b_take, f_take, b_gather, f_gather, b_ask, a_ask, b_tell, c_close, d_close, k_add, k_rem, sco, k_clrF, k_mem, k_rebind, k_bnd, k_beg0, k_beg1, b_giveN, b_giveR, f_open, b_hand, k_op, b_turn, wlB, b_beat, f_anew, b_wipe, b_off, k_sadd, fits, frP, cntB, b_trace, b_child, k_lat, cond_true, cond_false, Option.elim_none, Option.elim_some, Option.getD_none, Option.getD_some] at hX | rw [← w_10] at hX | rw [if_pos (by first | with_reducible assumption | omega)] at hX | rw [if_neg (by first | with_reducible assumption | omega)] at hX | rw [jx_of (by omega)] at hX)); first | exact hX | (exfalso; omega) | exact hX), by rw [ht]; exact hP, hD, by rw [ht]; omega, by rw [ht]; omega⟩, hS.F ht⟩) hS.2.2 dX9_readIn_106
      · refine lv_tableIn (tgt := 40) hx hb dX9_readIn_15 (by omega) (by omega) (by rw [sw_6]; rfl) (by decide) ?_
        refine lv_aload_n hx hb dX9_readIn_40 rfl (lv_at hl 1 rfl) ?_
        refine va_get (D := (dC, dI)) (ci := 7) (v := .ref (ad (50 + 16 * i + 2))) (C := RX7) (T := TX7) (N := 15) hx hb hg gb_7 hown hK hP (50 + 16 * i) (hQ.b0 hi) rfl 11 (by decide) (hg _ gm_fieldLink_RX9_253_ErrandGuild_Run_memory_LErrandGuild_Memory_) (fun _ h9 => h9) rfl dX9_readIn_41 ?_
        refine lv_iload_n hx hb dX9_readIn_44 rfl (lv_at hl 2 rfl) ?_
        refine lv_aload_n hx hb dX9_readIn_45 rfl (lv_at hl 1 rfl) ?_
        refine va_get (D := (dC, dI)) (ci := 7) (v := .ref (ad (50 + 16 * i + 2))) (C := RX7) (T := TX7) (N := 15) hx hb hg gb_7 hown hK hP (50 + 16 * i) (hQ.b0 hi) rfl 11 (by decide) (hg _ gm_fieldLink_RX9_253_ErrandGuild_Run_memory_LErrandGuild_Memory_) (fun _ h9 => h9) rfl dX9_readIn_46 ?_
        refine lv_iload_n hx hb dX9_readIn_49 rfl (lv_at hl 2 rfl) ?_
        have hCc : ([(50 + 16 * i + 2), (50 + 16 * i + 5)] : List Nat).map (fun i => ws[i]?) = ([(ad (50 + 16 * i + 2), .inr (6, [.ref (ad (50 + 16 * i + 3)), .ref (ad (50 + 16 * i + 4)), .ref (ad (50 + 16 * i + 5))])), (ad (50 + 16 * i + 5), .inl (kc 0, 8, .inl (F i 2)))] : va_W).map some := mp2 (hQ.b2 hi) (hQ.b5 hi)
        have hNd : ([(50 + 16 * i + 2), (50 + 16 * i + 5)] : List Nat).Nodup := (nd_off (50 + 16 * i) (l := [2, 5]) (by decide))
        have hPc := hP.pick [(50 + 16 * i + 2), (50 + 16 * i + 5)] hCc
        have hDc := hD.pick [(50 + 16 * i + 2), (50 + 16 * i + 5)] hNd hCc
        have hKc := hK.sub (tys' := [((kc 0), .int)]) [0] rfl
        have hFc := va_free (wc := [(ad (50 + 16 * i + 2), .inr (6, [.ref (ad (50 + 16 * i + 3)), .ref (ad (50 + 16 * i + 4)), .ref (ad (50 + 16 * i + 5))])), (ad (50 + 16 * i + 5), .inl (kc 0, 8, .inl (F i 2)))]) hD hS hA [(50 + 16 * i + 2), (50 + 16 * i + 5)] hCc
        exact by
         refine va_calli (va_runV (As := [.int v2]) (rest := [.int v2, .ref (ad (50 + 16 * i + 2))]) ⟨hx, hb, hml, hown, hg⟩ (c_X6_givenAt l dC dI (ad (50 + 16 * i + 2)) (ad (50 + 16 * i + 3)) (ad (50 + 16 * i + 4)) (ad (50 + 16 * i + 5)) (kc 0) (F i 2) v2 H.size ) (cwV 1 hg (gw_V gm_methodLink_RX9_257_yX6_givenAt gm_instanceMethod_yX6_givenAt gm_selects_RX6_yX6_givenAt_yX6_givenAt gm_initialized_RX6 gm_code_yX6_givenAt_cX6_givenAt_2_some_int_) rfl rfl rfl (by decide +kernel) ⟨Nat.le_of_ble_eq_true rfl, Nat.le_of_ble_eq_true rfl⟩) ⟨fun a U g mk q => by obtain ⟨q0, q1, qP, qK, qD, qN⟩ := q; exact ⟨q0, q1, qP, va_K.moved (u := U) (U := U.calling g mk a) (Vm.Alike.refl U.vm) qK, qD, nx_same (u := U) (U := U.calling g mk a) rfl qN⟩, va_recv hK hP (ci := 6) (q0 := (50 + 16 * i + 2)) rfl (hQ.b2 hi), fun U hU hW => ⟨rfl, by rw [hU], by rw [hU]; exact hPc, va_K.moved hW.alike hKc, hDc.weaken (fun _ _ _ _ => trivial), nx_warm hW hN⟩⟩ rfl rfl hl.1 rfl (lv_room (Nat.le_of_ble_eq_true rfl)) dX9_readIn_50 ⟨Nat.le_of_ble_eq_true rfl, Nat.le_of_ble_eq_true rfl⟩) hS (fun q _ h => hFc q h) hFc (fun r_11 u_12 t H1 locs ht hvm hw hB hz1 hk1 hS => ?_)
         obtain ⟨hP1, hD1⟩ := hB
         rw [ht] at hP1
         obtain ⟨hP, hD⟩ := va_replS hP hD [(50 + 16 * i + 2), (50 + 16 * i + 5)] hCc hNd hk1 hFc hP1 hD1
         generalize H1 = H at hP hS ⊢
         have w_13 : r_11 = gvAt (F i 2) v2 := hw
         have hCc : ([(50 + 16 * i + 2), (50 + 16 * i + 3), (50 + 16 * i + 4)] : List Nat).map (fun i => ws[i]?) = ([(ad (50 + 16 * i + 2), .inr (6, [.ref (ad (50 + 16 * i + 3)), .ref (ad (50 + 16 * i + 4)), .ref (ad (50 + 16 * i + 5))])), (ad (50 + 16 * i + 3), .inl (kc 1, 8, .inl (F i 0))), (ad (50 + 16 * i + 4), .inl (kc 0, 8, .inl (F i 1)))] : va_W).map some := mp3 (hQ.b2 hi) (hQ.b3 hi) (hQ.b4 hi)
         have hNd : ([(50 + 16 * i + 2), (50 + 16 * i + 3), (50 + 16 * i + 4)] : List Nat).Nodup := (nd_off (50 + 16 * i) (l := [2, 3, 4]) (by decide))
         have hPc := hP.pick [(50 + 16 * i + 2), (50 + 16 * i + 3), (50 + 16 * i + 4)] hCc
         have hDc := hD.pick [(50 + 16 * i + 2), (50 + 16 * i + 3), (50 + 16 * i + 4)] hNd hCc
         have hKc := hK.sub (tys' := [((kc 1), .boolean), ((kc 0), .int)]) [1, 0] rfl
         have hFc := va_free (wc := [(ad (50 + 16 * i + 2), .inr (6, [.ref (ad (50 + 16 * i + 3)), .ref (ad (50 + 16 * i + 4)), .ref (ad (50 + 16 * i + 5))])), (ad (50 + 16 * i + 3), .inl (kc 1, 8, .inl (F i 0))), (ad (50 + 16 * i + 4), .inl (kc 0, 8, .inl (F i 1)))]) hD hS hA [(50 + 16 * i + 2), (50 + 16 * i + 3), (50 + 16 * i + 4)] hCc
         exact by
          refine va_calli (va_runV (As := [.int v2, .int r_11]) (rest := []) ⟨hx, hb, hml, hown, hg⟩ (c_X6_writtenOr l dC dI (ad (50 + 16 * i + 2)) (ad (50 + 16 * i + 3)) (ad (50 + 16 * i + 4)) (ad (50 + 16 * i + 5)) (kc 1) (kc 0) (F i 0) (F i 1) v2 r_11 H.size ) (cwV 2 hg (gw_V gm_methodLink_RX9_262_yX6_writtenOr gm_instanceMethod_yX6_writtenOr gm_selects_RX6_yX6_writtenOr_yX6_writtenOr gm_initialized_RX6 gm_code_yX6_writtenOr_cX6_writtenOr_3_some_int_) rfl rfl rfl (by decide +kernel) ⟨Nat.le_of_ble_eq_true rfl, Nat.le_of_ble_eq_true rfl⟩) ⟨fun a U g mk q => by obtain ⟨q0, q1, qP, qK, qD, qN⟩ := q; exact ⟨q0, q1, qP, va_K.moved (u := U) (U := U.calling g mk a) (Vm.Alike.refl U.vm) qK, qD, nx_same (u := U) (U := U.calling g mk a) rfl qN⟩, va_recv hK hP (ci := 6) (q0 := (50 + 16 * i + 2)) rfl (hQ.b2 hi), fun U hU hW => ⟨rfl, by rw [hU], by rw [hU]; exact hPc, va_K.moved hW.alike hKc, hDc.weaken (fun _ _ _ _ => trivial), nx_warm hW hN⟩⟩ rfl rfl hl.1 rfl (lv_room (Nat.le_of_ble_eq_true rfl)) dX9_readIn_53 ⟨Nat.le_of_ble_eq_true rfl, Nat.le_of_ble_eq_true rfl⟩) hS (fun q _ h => hFc q h) hFc (fun r_14 u_15 t H1 locs ht hvm hw hB hz1 hk1 hS => ?_)
          obtain ⟨hP1, hD1⟩ := hB
          rw [ht] at hP1
          obtain ⟨hP, hD⟩ := va_replS hP hD [(50 + 16 * i + 2), (50 + 16 * i + 3), (50 + 16 * i + 4)] hCc hNd hk1 hFc hP1 hD1
          generalize H1 = H at hP hS ⊢
          have w_16 : r_14 = wrOr (F i 0) (F i 1) v2 r_11 := hw
          refine W_msr2 (fun hm1 hm2 hm3 => ?_)
          exact W.iret (v := r_14) hx hb hr (fun t ht hW => ⟨⟨r_14, (), rfl, (by show r_14 = k_read (C9.mk n f T G K F) i v2; subst ez_5; have hX := (k_read.eq_1 (C9.mk n f T G K F) i v2).symm; (repeat (first | dsimp +instances only [c9n, c9f, c9T, c9G, c9K, c9F, b_come, b_leave, b_fill, awB, b_settle, b_wake, b_take, f_take, b_gather, f_gather, b_ask, a_ask, b_tell, c_close, d_close, k_add, k_rem, sco, k_clrF, k_mem, k_rebind, k_bnd, k_beg0, k_beg1, b_giveN, b_giveR, f_open, b_hand, k_op, b_turn, wlB, b_beat, f_anew, b_wipe, b_off, k_sadd, fits, frP, cntB, b_trace, b_child, k_lat, cond_true, cond_false, Option.elim_none, Option.elim_some, Option.getD_none, Option.getD_some] at hX | rw [← w_13] at hX | rw [← w_16] at hX | rw [if_pos (by first | with_reducible assumption | omega)] at hX | rw [if_neg (by first | with_reducible assumption | omega)] at hX | rw [jx_of (by omega)] at hX)); first | exact hX | (exfalso; omega) | exact hX), by rw [ht]; exact hP, hD, by rw [ht]; omega, by rw [ht]; omega⟩, hS.F ht⟩) hS.2.2 dX9_readIn_56
      · refine lv_tableIn (tgt := 57) hx hb dX9_readIn_15 (by omega) (by omega) (by rw [sw_6]; rfl) (by decide) ?_
        refine lv_aload_n hx hb dX9_readIn_57 rfl (lv_at hl 1 rfl) ?_
        have hFc := free_all hD hS hA
        refine va_callq (va_runV (As := []) (rest := []) ⟨hx, hb, hml, hown, hg⟩ (c_X7_root l dC dI kc ws ad ga gc M n f T G K F R i H.size (hpS H) hQ ⟨h_i1, h_i2, h_i3, h_i4, h_i5, h_i6, h_i7, h_i8, h_i9, h_i10, h_i11⟩ (by show i < M; omega)) (cwV 0 hg (gw_V gm_methodLink_RX9_161_yX7_root gm_instanceMethod_yX7_root gm_selects_RX7_yX7_root_yX7_root gm_initialized_RX7 gm_code_yX7_root_cX7_root_1_some_object_ErrandGuild_Run_) rfl rfl rfl (by decide +kernel) ⟨Nat.le_of_ble_eq_true rfl, Nat.le_of_ble_eq_true rfl⟩) ⟨fun a U g mk q => by obtain ⟨q0, q1, q2, qP, qK, qD, qN⟩ := q; exact ⟨q0, q1, q2, qP, va_K.moved (u := U) (U := U.calling g mk a) (Vm.Alike.refl U.vm) qK, qD, nx_same (u := U) (U := U.calling g mk a) rfl qN⟩, va_recv hK hP (ci := 7) (q0 := (50 + 16 * i)) rfl (hQ.b0 hi), fun U hU hW => ⟨rfl, by rw [hU], by rw [hU], by rw [hU]; exact hP, va_K.moved hW.alike hK, hD.weaken (fun _ _ _ _ => trivial), nx_warm hW hN⟩⟩ rfl rfl hl.1 rfl (lv_room (Nat.le_of_ble_eq_true rfl)) dX9_readIn_58 ⟨Nat.le_of_ble_eq_true rfl, Nat.le_of_ble_eq_true rfl⟩) hS (fun q _ h => hFc q h) hFc (fun r_17 u_18 t H1 locs ht hvm hw hB hz1 hk1 hS => ?_)
        obtain ⟨hP, hD, hy1, hy2⟩ := hB
        rw [ht] at hP hy1 hy2
        have hD := hD.weaken (fun k q _ h => hFc _ h)
        have q1_ := h_i1
        unfold i1 at q1_
        generalize H1 = H at hP hS ⊢
        obtain rfl : r_17 = some (ad (50 + 16 * (rt9 K i))) := hw
        have hl_20 : (rt9 K i) < M := rt9_lt h_i3 hi
        refine W.eq (g2 := F0 m 61 ls [.ref (ad (50 + 16 * (rt9 K i)))]) rfl ?_
        exact by
         refine va_get (D := (dC, dI)) (ci := 7) (v := .ref (ad (50 + 16 * (rt9 K i) + 2))) (C := RX7) (T := TX7) (N := 15) hx hb hg gb_7 hown hK hP (50 + 16 * (rt9 K i)) (hQ.b0 hl_20) rfl 11 (by decide) (hg _ gm_fieldLink_RX9_253_ErrandGuild_Run_memory_LErrandGuild_Memory_) (fun _ h9 => h9) rfl dX9_readIn_61 ?_
         refine lv_iload_n hx hb dX9_readIn_64 rfl (lv_at hl 2 rfl) ?_
         refine lv_aload_n hx hb dX9_readIn_65 rfl (lv_at hl 0 rfl) ?_
         refine va_get (D := (dC, dI)) (ci := 9) (v := .ref (ad 2)) (C := RX9) (T := TX9) (N := 15) hx hb hg gb_9 hown hK hP 0 hQ.x0 rfl 1 (by decide) (hg _ gm_fieldLink_RX9_13_ErrandGuild_firsts_AI_) (fun _ h9 => h9) rfl dX9_readIn_66 ?_
         refine lv_iload_n hx hb dX9_readIn_69 rfl (lv_at hl 2 rfl) ?_
         refine va_iald (f := f 1) hx hb hK hP 2 0 hQ.x2 rfl (vp_in_iff.mpr ⟨by omega, by omega⟩) dX9_readIn_70 ?_
         refine lv_topi (fun z_21 ez_21 => ?_)
         have ez_21 : z_21 = f 1 v2.toInt.toNat := ez_21
         have qz_21 := congrArg Int32.toInt ez_21
         have hCc : ([(50 + 16 * (rt9 K i) + 2), (50 + 16 * (rt9 K i) + 3), (50 + 16 * (rt9 K i) + 4)] : List Nat).map (fun i => ws[i]?) = ([(ad (50 + 16 * (rt9 K i) + 2), .inr (6, [.ref (ad (50 + 16 * (rt9 K i) + 3)), .ref (ad (50 + 16 * (rt9 K i) + 4)), .ref (ad (50 + 16 * (rt9 K i) + 5))])), (ad (50 + 16 * (rt9 K i) + 3), .inl (kc 1, 8, .inl (F (rt9 K i) 0))), (ad (50 + 16 * (rt9 K i) + 4), .inl (kc 0, 8, .inl (F (rt9 K i) 1)))] : va_W).map some := mp3 (hQ.b2 hl_20) (hQ.b3 hl_20) (hQ.b4 hl_20)
         have hNd : ([(50 + 16 * (rt9 K i) + 2), (50 + 16 * (rt9 K i) + 3), (50 + 16 * (rt9 K i) + 4)] : List Nat).Nodup := (nd_off (50 + 16 * (rt9 K i)) (l := [2, 3, 4]) (by decide))
         have hPc := hP.pick [(50 + 16 * (rt9 K i) + 2), (50 + 16 * (rt9 K i) + 3), (50 + 16 * (rt9 K i) + 4)] hCc
         have hDc := hD.pick [(50 + 16 * (rt9 K i) + 2), (50 + 16 * (rt9 K i) + 3), (50 + 16 * (rt9 K i) + 4)] hNd hCc
         have hKc := hK.sub (tys' := [((kc 1), .boolean), ((kc 0), .int)]) [1, 0] rfl
         have hFc := va_free (wc := [(ad (50 + 16 * (rt9 K i) + 2), .inr (6, [.ref (ad (50 + 16 * (rt9 K i) + 3)), .ref (ad (50 + 16 * (rt9 K i) + 4)), .ref (ad (50 + 16 * (rt9 K i) + 5))])), (ad (50 + 16 * (rt9 K i) + 3), .inl (kc 1, 8, .inl (F (rt9 K i) 0))), (ad (50 + 16 * (rt9 K i) + 4), .inl (kc 0, 8, .inl (F (rt9 K i) 1)))]) hD hS hA [(50 + 16 * (rt9 K i) + 2), (50 + 16 * (rt9 K i) + 3), (50 + 16 * (rt9 K i) + 4)] hCc
         exact by
          refine va_calli (va_runV (As := [.int v2, .int z_21]) (rest := []) ⟨hx, hb, hml, hown, hg⟩ (c_X6_writtenOr l dC dI (ad (50 + 16 * (rt9 K i) + 2)) (ad (50 + 16 * (rt9 K i) + 3)) (ad (50 + 16 * (rt9 K i) + 4)) (ad (50 + 16 * (rt9 K i) + 5)) (kc 1) (kc 0) (F (rt9 K i) 0) (F (rt9 K i) 1) v2 z_21 H.size ) (cwV 2 hg (gw_V gm_methodLink_RX9_262_yX6_writtenOr gm_instanceMethod_yX6_writtenOr gm_selects_RX6_yX6_writtenOr_yX6_writtenOr gm_initialized_RX6 gm_code_yX6_writtenOr_cX6_writtenOr_3_some_int_) rfl rfl rfl (by decide +kernel) ⟨Nat.le_of_ble_eq_true rfl, Nat.le_of_ble_eq_true rfl⟩) ⟨fun a U g mk q => by obtain ⟨q0, q1, qP, qK, qD, qN⟩ := q; exact ⟨q0, q1, qP, va_K.moved (u := U) (U := U.calling g mk a) (Vm.Alike.refl U.vm) qK, qD, nx_same (u := U) (U := U.calling g mk a) rfl qN⟩, va_recv hK hP (ci := 6) (q0 := (50 + 16 * (rt9 K i) + 2)) rfl (hQ.b2 hl_20), fun U hU hW => ⟨rfl, by rw [hU], by rw [hU]; exact hPc, va_K.moved hW.alike hKc, hDc.weaken (fun _ _ _ _ => trivial), nx_warm hW hN⟩⟩ rfl rfl hl.1 rfl (lv_room (Nat.le_of_ble_eq_true rfl)) dX9_readIn_71 ⟨Nat.le_of_ble_eq_true rfl, Nat.le_of_ble_eq_true rfl⟩) hS (fun q _ h => hFc q h) hFc (fun r_22 u_23 t H1 locs ht hvm hw hB hz1 hk1 hS => ?_)
          obtain ⟨hP1, hD1⟩ := hB
          rw [ht] at hP1
          obtain ⟨hP, hD⟩ := va_replS hP hD [(50 + 16 * (rt9 K i) + 2), (50 + 16 * (rt9 K i) + 3), (50 + 16 * (rt9 K i) + 4)] hCc hNd hk1 hFc hP1 hD1
          generalize H1 = H at hP hS ⊢
          have w_24 : r_22 = wrOr (F (rt9 K i) 0) (F (rt9 K i) 1) v2 z_21 := hw
          refine W_msr2 (fun hm1 hm2 hm3 => ?_)
          exact W.iret (v := r_22) hx hb hr (fun t ht hW => ⟨⟨r_22, (), rfl, (by show r_22 = k_read (C9.mk n f T G K F) i v2; subst ez_5; subst ez_21; have hX := (k_read.eq_1 (C9.mk n f T G K F) i v2).symm; (repeat (first | dsimp +instances only [c9n, c9f, c9T, c9G, c9K, c9F, b_come, b_leave, b_fill, awB, b_settle, b_wake, b_take, f_take, b_gather, f_gather, b_ask, a_ask, b_tell, c_close, d_close, k_add, k_rem, sco, k_clrF, k_mem, k_rebind, k_bnd, k_beg0, k_beg1, b_giveN, b_giveR, f_open, b_hand, k_op, b_turn, wlB, b_beat, f_anew, b_wipe, b_off, k_sadd, fits, frP, cntB, b_trace, b_child, k_lat, cond_true, cond_false, Option.elim_none, Option.elim_some, Option.getD_none, Option.getD_some] at hX | rw [← w_24] at hX | rw [if_pos (by first | with_reducible assumption | omega)] at hX | rw [if_neg (by first | with_reducible assumption | omega)] at hX | rw [jx_of (by omega)] at hX)); first | exact hX | (exfalso; omega) | exact hX), by rw [ht]; exact hP, hD, by rw [ht]; omega, by rw [ht]; omega⟩, hS.F ht⟩) hS.2.2 dX9_readIn_74
      · refine lv_tableIn (tgt := 75) hx hb dX9_readIn_15 (by omega) (by omega) (by rw [sw_6]; rfl) (by decide) ?_
        refine lv_aload_n hx hb dX9_readIn_75 rfl (lv_at hl 1 rfl) ?_
        refine va_get (D := (dC, dI)) (ci := 7) (v := .ref (ad (50 + 16 * i + 6))) (C := RX7) (T := TX7) (N := 15) hx hb hg gb_7 hown hK hP (50 + 16 * i) (hQ.b0 hi) rfl 12 (by decide) (hg _ gm_fieldLink_RX9_177_ErrandGuild_Run_scopes_LErrandGuild_Scopes_) (fun _ h9 => h9) rfl dX9_readIn_76 ?_
        refine lv_iload_n hx hb dX9_readIn_79 rfl (lv_at hl 2 rfl) ?_
        refine lv_aload_n hx hb dX9_readIn_80 rfl (lv_at hl 1 rfl) ?_
        refine va_get (D := (dC, dI)) (ci := 7) (v := .ref (ad (50 + 16 * i + 2))) (C := RX7) (T := TX7) (N := 15) hx hb hg gb_7 hown hK hP (50 + 16 * i) (hQ.b0 hi) rfl 11 (by decide) (hg _ gm_fieldLink_RX9_253_ErrandGuild_Run_memory_LErrandGuild_Memory_) (fun _ h9 => h9) rfl dX9_readIn_81 ?_
        refine lv_iload_n hx hb dX9_readIn_84 rfl (lv_at hl 2 rfl) ?_
        have hCc : ([(50 + 16 * i + 2), (50 + 16 * i + 5)] : List Nat).map (fun i => ws[i]?) = ([(ad (50 + 16 * i + 2), .inr (6, [.ref (ad (50 + 16 * i + 3)), .ref (ad (50 + 16 * i + 4)), .ref (ad (50 + 16 * i + 5))])), (ad (50 + 16 * i + 5), .inl (kc 0, 8, .inl (F i 2)))] : va_W).map some := mp2 (hQ.b2 hi) (hQ.b5 hi)
        have hNd : ([(50 + 16 * i + 2), (50 + 16 * i + 5)] : List Nat).Nodup := (nd_off (50 + 16 * i) (l := [2, 5]) (by decide))
        have hPc := hP.pick [(50 + 16 * i + 2), (50 + 16 * i + 5)] hCc
        have hDc := hD.pick [(50 + 16 * i + 2), (50 + 16 * i + 5)] hNd hCc
        have hKc := hK.sub (tys' := [((kc 0), .int)]) [0] rfl
        have hFc := va_free (wc := [(ad (50 + 16 * i + 2), .inr (6, [.ref (ad (50 + 16 * i + 3)), .ref (ad (50 + 16 * i + 4)), .ref (ad (50 + 16 * i + 5))])), (ad (50 + 16 * i + 5), .inl (kc 0, 8, .inl (F i 2)))]) hD hS hA [(50 + 16 * i + 2), (50 + 16 * i + 5)] hCc
        exact by
         refine va_calli (va_runV (As := [.int v2]) (rest := [.int v2, .ref (ad (50 + 16 * i + 6))]) ⟨hx, hb, hml, hown, hg⟩ (c_X6_givenAt l dC dI (ad (50 + 16 * i + 2)) (ad (50 + 16 * i + 3)) (ad (50 + 16 * i + 4)) (ad (50 + 16 * i + 5)) (kc 0) (F i 2) v2 H.size ) (cwV 1 hg (gw_V gm_methodLink_RX9_257_yX6_givenAt gm_instanceMethod_yX6_givenAt gm_selects_RX6_yX6_givenAt_yX6_givenAt gm_initialized_RX6 gm_code_yX6_givenAt_cX6_givenAt_2_some_int_) rfl rfl rfl (by decide +kernel) ⟨Nat.le_of_ble_eq_true rfl, Nat.le_of_ble_eq_true rfl⟩) ⟨fun a U g mk q => by obtain ⟨q0, q1, qP, qK, qD, qN⟩ := q; exact ⟨q0, q1, qP, va_K.moved (u := U) (U := U.calling g mk a) (Vm.Alike.refl U.vm) qK, qD, nx_same (u := U) (U := U.calling g mk a) rfl qN⟩, va_recv hK hP (ci := 6) (q0 := (50 + 16 * i + 2)) rfl (hQ.b2 hi), fun U hU hW => ⟨rfl, by rw [hU], by rw [hU]; exact hPc, va_K.moved hW.alike hKc, hDc.weaken (fun _ _ _ _ => trivial), nx_warm hW hN⟩⟩ rfl rfl hl.1 rfl (lv_room (Nat.le_of_ble_eq_true rfl)) dX9_readIn_85 ⟨Nat.le_of_ble_eq_true rfl, Nat.le_of_ble_eq_true rfl⟩) hS (fun q _ h => hFc q h) hFc (fun r_25 u_26 t H1 locs ht hvm hw hB hz1 hk1 hS => ?_)
         obtain ⟨hP1, hD1⟩ := hB
         rw [ht] at hP1
         obtain ⟨hP, hD⟩ := va_replS hP hD [(50 + 16 * i + 2), (50 + 16 * i + 5)] hCc hNd hk1 hFc hP1 hD1
         generalize H1 = H at hP hS ⊢
         have w_27 : r_25 = gvAt (F i 2) v2 := hw
         have hCc : ([(50 + 16 * i + 6), (50 + 16 * i + 7), (50 + 16 * i + 8)] : List Nat).map (fun i => ws[i]?) = ([(ad (50 + 16 * i + 6), .inr (8, [.ref (ad (50 + 16 * i + 7)), .ref (ad (50 + 16 * i + 8)), .ref (ad (50 + 16 * i + 9)), .int (G i 14), .ref (ad (50 + 16 * i + 10)), .ref (ad (50 + 16 * i + 11)), .ref (ad (50 + 16 * i + 12)), .int (G i 15), .int (G i 16)])), (ad (50 + 16 * i + 7), .inl (kc 0, 24, .inl (F i 3))), (ad (50 + 16 * i + 8), .inl (kc 0, 24, .inl (F i 4)))] : va_W).map some := mp3 (hQ.b6 hi) (hQ.b7 hi) (hQ.b8 hi)
         have hNd : ([(50 + 16 * i + 6), (50 + 16 * i + 7), (50 + 16 * i + 8)] : List Nat).Nodup := (nd_off (50 + 16 * i) (l := [6, 7, 8]) (by decide))
         have hPc := hP.pick [(50 + 16 * i + 6), (50 + 16 * i + 7), (50 + 16 * i + 8)] hCc
         have hDc := hD.pick [(50 + 16 * i + 6), (50 + 16 * i + 7), (50 + 16 * i + 8)] hNd hCc
         have hKc := hK.sub (tys' := [((kc 0), .int), ((kc 0), .int)]) [0, 0] rfl
         have hFc := va_free (wc := [(ad (50 + 16 * i + 6), .inr (8, [.ref (ad (50 + 16 * i + 7)), .ref (ad (50 + 16 * i + 8)), .ref (ad (50 + 16 * i + 9)), .int (G i 14), .ref (ad (50 + 16 * i + 10)), .ref (ad (50 + 16 * i + 11)), .ref (ad (50 + 16 * i + 12)), .int (G i 15), .int (G i 16)])), (ad (50 + 16 * i + 7), .inl (kc 0, 24, .inl (F i 3))), (ad (50 + 16 * i + 8), .inl (kc 0, 24, .inl (F i 4)))]) hD hS hA [(50 + 16 * i + 6), (50 + 16 * i + 7), (50 + 16 * i + 8)] hCc
         exact by
          refine va_calli (va_runV (As := [.int v2, .int r_25]) (rest := []) ⟨hx, hb, hml, hown, hg⟩ (c_X8_boundOr l dC dI (ad (50 + 16 * i + 6)) (ad (50 + 16 * i + 7)) (ad (50 + 16 * i + 8)) (ad (50 + 16 * i + 9)) (ad (50 + 16 * i + 10)) (ad (50 + 16 * i + 11)) (ad (50 + 16 * i + 12)) (kc 0) (kc 0) (F i 3) (F i 4) (G i 14) (G i 15) (G i 16) v2 r_25 H.size ) (cwV 2 hg (gw_V gm_methodLink_RX9_265_yX8_boundOr gm_instanceMethod_yX8_boundOr gm_selects_RX8_yX8_boundOr_yX8_boundOr gm_initialized_RX8 gm_code_yX8_boundOr_cX8_boundOr_4_some_int_) rfl rfl rfl (by decide +kernel) ⟨Nat.le_of_ble_eq_true rfl, Nat.le_of_ble_eq_true rfl⟩) ⟨fun a U g mk q => by obtain ⟨q0, q1, qP, qK, qD, qN⟩ := q; exact ⟨q0, q1, qP, va_K.moved (u := U) (U := U.calling g mk a) (Vm.Alike.refl U.vm) qK, qD, nx_same (u := U) (U := U.calling g mk a) rfl qN⟩, va_recv hK hP (ci := 8) (q0 := (50 + 16 * i + 6)) rfl (hQ.b6 hi), fun U hU hW => ⟨rfl, by rw [hU], by rw [hU]; exact hPc, va_K.moved hW.alike hKc, hDc.weaken (fun _ _ _ _ => trivial), nx_warm hW hN⟩⟩ rfl rfl hl.1 rfl (lv_room (Nat.le_of_ble_eq_true rfl)) dX9_readIn_88 ⟨Nat.le_of_ble_eq_true rfl, Nat.le_of_ble_eq_true rfl⟩) hS (fun q _ h => hFc q h) hFc (fun r_28 u_29 t H1 locs ht hvm hw hB hz1 hk1 hS => ?_)
          obtain ⟨hP1, hD1⟩ := hB
          rw [ht] at hP1
          obtain ⟨hP, hD⟩ := va_replS hP hD [(50 + 16 * i + 6), (50 + 16 * i + 7), (50 + 16 * i + 8)] hCc hNd hk1 hFc hP1 hD1
          generalize H1 = H at hP hS ⊢
          have w_30 : r_28 = bdOr (G i 14) (F i 3) (F i 4) v2 r_25 := hw
          refine W_msr2 (fun hm1 hm2 hm3 => ?_)
          exact W.iret (v := r_28) hx hb hr (fun t ht hW => ⟨⟨r_28, (), rfl, (by show r_28 = k_read (C9.mk n f T G K F) i v2; subst ez_5; have hX := (k_read.eq_1 (C9.mk n f T G K F) i v2).symm; (repeat (first | dsimp +instances only [c9n, c9f, c9T, c9G, c9K, c9F, b_come, b_leave, b_fill, awB, b_settle, b_wake, b_take, f_take, b_gather, f_gather, b_ask, a_ask, b_tell, c_close, d_close, k_add, k_rem, sco, k_clrF, k_mem, k_rebind, k_bnd, k_beg0, k_beg1, b_giveN, b_giveR, f_open, b_hand, k_op, b_turn, wlB, b_beat, f_anew, b_wipe, b_off, k_sadd, fits, frP, cntB, b_trace, b_child, k_lat, cond_true, cond_false, Option.elim_none, Option.elim_some, Option.getD_none, Option.getD_some] at hX | rw [← w_27] at hX | rw [← w_30] at hX | rw [if_pos (by first | with_reducible assumption | omega)] at hX | rw [if_neg (by first | with_reducible assumption | omega)] at hX | rw [jx_of (by omega)] at hX)); first | exact hX | (exfalso; omega) | exact hX), by rw [ht]; exact hP, hD, by rw [ht]; omega, by rw [ht]; omega⟩, hS.F ht⟩) hS.2.2 dX9_readIn_91
   · refine lv_if_ne (tgt := 9) hx hb dX9_readIn_4 (by decide) (fun c_31 => absurd c_31 (by decide)) (fun _ => ?_)
     refine lv_iconst (v := 0) hx hb dX9_readIn_7 (by decide) ?_
     refine W_msr2 (fun hm1 hm2 hm3 => ?_)
     exact W.iret (v := 0) hx hb hr (fun t ht hW => ⟨⟨0, (), rfl, (by show (0 : Int32) = k_read (C9.mk n f T G K F) i v2; have hX := (k_read.eq_1 (C9.mk n f T G K F) i v2).symm; (repeat (first | dsimp +instances only [c9n, c9f, c9T, c9G, c9K, c9F, b_come, b_leave, b_fill, awB, b_settle, b_wake, b_take, f_take, b_gather, f_gather, b_ask, a_ask, b_tell, c_close, d_close, k_add, k_rem, sco, k_clrF, k_mem, k_rebind, k_bnd, k_beg0, k_beg1, b_giveN, b_giveR, f_open, b_hand, k_op, b_turn, wlB, b_beat, f_anew, b_wipe, b_off, k_sadd, fits, frP, cntB, b_trace, b_child, k_lat, cond_true, cond_false, Option.elim_none, Option.elim_some, Option.getD_none, Option.getD_some] at hX | rw [if_pos (by first | with_reducible assumption | omega)] at hX | rw [if_neg (by first | with_reducible assumption | omega)] at hX | rw [jx_of (by omega)] at hX)); first | exact hX | (exfalso; omega) | exact hX), by rw [ht]; exact hP, hD, by rw [ht]; omega, by rw [ht]; omega⟩, hS.F ht⟩) hS.2.2 dX9_readIn_8

set_option maxHeartbeats 8000000 in
set_option maxRecDepth 100000 in
theorem c_X9_run (l : Launch) (dC : Nat → ClassId) (dI : Nat → Nat → Nat) (kc : Nat → ClassId) (ws : va_W) (ad : Nat → Nat) (ga : Nat → Nat) (gc : Nat → Nat) (M : Nat) (n : Nat → Int32) (f : Nat → Nat → Int32) (T : Nat → Option Nat) (G : Nat → Nat → Int32) (K : Nat → Nat → Option Nat) (F : Nat → Nat → Nat → Int32) (R : Nat) (v1 : Int32) (v2 : Int32) (sz hz : Nat) (hQ : Pic9 kc ws ad ga gc M n f T G K F) (hI : I9 M n f T gc G K F R) : Met l yX9_run (.code yX9_run cX9_run 4 (some .int) :: gw) ({ frames := 1, cells := 0, slots := 0, locals := 21 }) (va_Pc [.ref (ad 0), .int v1, .int v2] (fun U => U.heap.size = sz ∧ hpS U.heap = hz ∧ va_P (dC, dI) vwCl ws U.heap ∧ va_K (dC, dI) vwCl (t9 kc) U ∧ va_D (fun _ => True) ws ∧ nx U)) (va_Qi (fun (r : Int32) (u : Unit) => True) (fun _ t => va_P (dC, dI) vwCl ws t.heap ∧ va_D (va_A ws sz) ws ∧ hpS t.heap ≤ hz ∧ t.heap.size ≤ sz) (va_A ws sz)) 0 0 (va_A ws sz) := by
  refine Met.ofW (cc := cX9_run) (maxL := 4) (ret := (some .int)) (by decide) rfl ?_
  intro p e s m args below meth c s₁ B hml hv
  obtain ⟨rfl, hsz, rfl, hP, hK, hD0, hN⟩ := hv
  have hx := B.exec
  have hb := B.bytes
  have hr := B.returns
  have hts := atoms_spec (ws := .code yX9_run cX9_run 4 (some .int) :: gw) B.pre
  have hg : ∀ w ∈ gw, w.before _ s = true := fun w h => hts w (List.mem_cons_of_mem _ h)
  have hown : s.vm.findClass RX9 = some m.cls := findClass_of_methodNamed B.named
  have hlocks := B.notSynchronized
  subst hsz
  have hD := hD0.self (sz := s.heap.size)
  generalize hAe : va_A ws s.heap.size = A at hD ⊢
  have hA : ∀ q : Nat, s.heap.size ≤ q → A q := fun q h => by rw [← hAe]; exact Or.inr h
  clear hAe
  have hS : va_S A s.heap s.heap [] := va_S.rf
  have hl := lv_entry ([.ref (ad 0), .int v1, .int v2]) (n := 4) (Nat.le_of_ble_eq_true rfl)
  rw [lg_entry_eq]
  generalize (lg_sl ([.ref (ad 0), .int v1, .int v2]) ++ List.replicate (4 - (lg_sl ([.ref (ad 0), .int v1, .int v2])).length) Slot.unset).toArray = ls at hl ⊢
  have hl : lv_has ls 4 [(0, .ref (ad 0)), (1, .int v1), (2, .int v2)] := hl
  obtain ⟨h_i1, h_i2, h_i3, h_i4, h_i5, h_i6, h_i7, h_i8, h_i9, h_i10, h_i11⟩ := id hI
  have q1_ := h_i1
  unfold i1 at q1_
  exact by
   refine lv_aload_n hx hb dX9_run_0 rfl (lv_at hl 0 rfl) ?_
   refine lv_iload_n hx hb dX9_run_1 rfl (lv_at hl 1 rfl) ?_
   have hFc := free_all hD hS hA
   refine va_callq (va_runV (As := [.int v1]) (rest := []) ⟨hx, hb, hml, hown, hg⟩ (c_X9_runAt l dC dI kc ws ad ga gc M n f T G K F R v1 s.heap.size (hpS s.heap) hQ ⟨h_i1, h_i2, h_i3, h_i4, h_i5, h_i6, h_i7, h_i8, h_i9, h_i10, h_i11⟩) (cwV 1 hg (gw_V gm_methodLink_RX9_134_yX9_runAt gm_instanceMethod_yX9_runAt gm_selects_RX9_yX9_runAt_yX9_runAt gm_initialized_RX9 gm_code_yX9_runAt_cX9_runAt_2_some_object_ErrandGuild_Run_) rfl rfl rfl (by decide +kernel) ⟨Nat.le_of_ble_eq_true rfl, Nat.le_of_ble_eq_true rfl⟩) ⟨fun a U g mk q => by obtain ⟨q0, q1, q2, qP, qK, qD, qN⟩ := q; exact ⟨q0, q1, q2, qP, va_K.moved (u := U) (U := U.calling g mk a) (Vm.Alike.refl U.vm) qK, qD, nx_same (u := U) (U := U.calling g mk a) rfl qN⟩, va_recv hK hP (ci := 9) (q0 := 0) rfl hQ.x0, fun U hU hW => ⟨rfl, by rw [hU], by rw [hU], by rw [hU]; exact hP, va_K.moved hW.alike hK, hD.weaken (fun _ _ _ _ => trivial), nx_warm hW hN⟩⟩ rfl rfl hl.1 rfl (lv_room (Nat.le_of_ble_eq_true rfl)) dX9_run_2 ⟨Nat.le_of_ble_eq_true rfl, Nat.le_of_ble_eq_true rfl⟩) hS (fun q _ h => hFc q h) hFc (fun r_1 u_2 t H1 locs ht hvm hw hB hz1 hk1 hS => ?_)
   obtain ⟨hP, hD, hy1, hy2⟩ := hB
   rw [ht] at hP hy1 hy2
   have hD := hD.weaken (fun k q _ h => hFc _ h)
   have q1_ := h_i1
   unfold i1 at q1_
   generalize H1 = H at hP hS ⊢
   rcases hw with ⟨rfl, w_3⟩ | ⟨rfl, w_3⟩
   · have w_3 : (0 ≤ v1.toInt ∧ v1.toInt < (n 0).toInt) := w_3
     have hl_4 : v1.toInt.toNat < M := by omega
     refine W.eq (g2 := F0 m 5 ls [.ref (ad (50 + 16 * v1.toInt.toNat))]) rfl ?_
     exact by
      refine lv_astore_n (lv' := [(3, .ref (ad (50 + 16 * v1.toInt.toNat))), (0, .ref (ad 0)), (1, .int v1), (2, .int v2)]) hx hb dX9_run_5 rfl hl (by decide) rfl (fun ls hl => ?_)
      refine lv_aload_n hx hb dX9_run_6 rfl (lv_at hl 0 rfl) ?_
      refine lv_ifnonnull (tgt := 12) hx hb dX9_run_7 (by decide) ?_
      refine lv_iload_n hx hb dX9_run_12 rfl (lv_at hl 3 rfl) ?_
      rcases (show (v2.toInt < 0 ∨ 12 < v2.toInt) ∨ v2.toInt = 0 ∨ v2.toInt = 1 ∨ v2.toInt = 2 ∨ v2.toInt = 3 ∨ v2.toInt = 4 ∨ v2.toInt = 5 ∨ v2.toInt = 6 ∨ v2.toInt = 7 ∨ v2.toInt = 8 ∨ v2.toInt = 9 ∨ v2.toInt = 10 ∨ v2.toInt = 11 ∨ v2.toInt = 12 by omega) with sw_5 | sw_5 | sw_5 | sw_5 | sw_5 | sw_5 | sw_5 | sw_5 | sw_5 | sw_5 | sw_5 | sw_5 | sw_5 | sw_5
      · refine lv_tableOut (tgt := 180) hx hb dX9_run_13 sw_5 (by decide) ?_
        refine lv_iconst (v := -1) hx hb dX9_run_180 (by decide) ?_
        refine W_msr2 (fun hm1 hm2 hm3 => ?_)
        exact W.iret (v := -1) hx hb hr (fun t ht hW => ⟨⟨-1, (), rfl, trivial, by rw [ht]; exact hP, hD, by rw [ht]; omega, by rw [ht]; omega⟩, hS.F ht⟩) hS.2.2 dX9_run_181
      · refine lv_tableIn (tgt := 80) hx hb dX9_run_13 (by omega) (by omega) (by rw [sw_5]; rfl) (by decide) ?_
        refine lv_aload_n hx hb dX9_run_80 rfl (lv_at hl 0 rfl) ?_
        refine va_get (D := (dC, dI)) (ci := 7) (v := .int (G v1.toInt.toNat 2)) (C := RX7) (T := TX7) (N := 15) hx hb hg gb_7 hown hK hP (50 + 16 * v1.toInt.toNat) (hQ.b0 hl_4) rfl 2 (by decide) (hg _ gm_fieldLink_RX9_145_ErrandGuild_Run_state_I_) (fun _ h9 => h9) rfl dX9_run_81 ?_
        refine W_msr2 (fun hm1 hm2 hm3 => ?_)
        exact W.iret (v := G v1.toInt.toNat 2) hx hb hr (fun t ht hW => ⟨⟨G v1.toInt.toNat 2, (), rfl, trivial, by rw [ht]; exact hP, hD, by rw [ht]; omega, by rw [ht]; omega⟩, hS.F ht⟩) hS.2.2 dX9_run_84
      · refine lv_tableIn (tgt := 85) hx hb dX9_run_13 (by omega) (by omega) (by rw [sw_5]; rfl) (by decide) ?_
        exact by
         refine lv_aload_n hx hb dX9_run_85 rfl (lv_at hl 0 rfl) ?_
         refine va_get (D := (dC, dI)) (ci := 7) (v := .int (G v1.toInt.toNat 1)) (C := RX7) (T := TX7) (N := 15) hx hb hg gb_7 hown hK hP (50 + 16 * v1.toInt.toNat) (hQ.b0 hl_4) rfl 1 (by decide) (hg _ gm_fieldLink_RX9_148_ErrandGuild_Run_errand_I_) (fun _ h9 => h9) rfl dX9_run_86 ?_
         refine W_msr2 (fun hm1 hm2 hm3 => ?_)
         exact W.iret (v := G v1.toInt.toNat 1) hx hb hr (fun t ht hW => ⟨⟨G v1.toInt.toNat 1, (), rfl, trivial, by rw [ht]; exact hP, hD, by rw [ht]; omega, by rw [ht]; omega⟩, hS.F ht⟩) hS.2.2 dX9_run_89
      · refine lv_tableIn (tgt := 90) hx hb dX9_run_13 (by omega) (by omega) (by rw [sw_5]; rfl) (by decide) ?_
        refine lv_aload_n hx hb dX9_run_90 rfl (lv_at hl 0 rfl) ?_
        refine va_get (D := (dC, dI)) (ci := 7) (v := .ref (ad (50 + 16 * v1.toInt.toNat + 1))) (C := RX7) (T := TX7) (N := 15) hx hb hg gb_7 hown hK hP (50 + 16 * v1.toInt.toNat) (hQ.b0 hl_4) rfl 10 (by decide) (hg _ gm_fieldLink_RX9_151_ErrandGuild_Run_kin_LErrandGuild_Kin_) (fun _ h9 => h9) rfl dX9_run_91 ?_
        refine va_get (D := (dC, dI)) (ci := 4) (v := va_rf (rA9 ad (K v1.toInt.toNat 0))) (C := RX4) (T := TX4) (N := 9) hx hb hg gb_4 hown hK hP (50 + 16 * v1.toInt.toNat + 1) (hQ.b1 hl_4) rfl 0 (by decide) (hg _ gm_fieldLink_RX9_155_ErrandGuild_Kin_giver_LErrandGuild_Run_) (fun _ h9 => h9) rfl dX9_run_94 ?_
        rcases eo_6 : K v1.toInt.toNat 0 with _ | j_7
        · refine W.eq (g2 := F0 m 97 ls [.null]) (by first | rfl | (rw [eo_6]; rfl)) ?_
          refine lv_ifnonnullN hx hb dX9_run_97 ?_
          refine lv_iconst (v := -1) hx hb dX9_run_100 (by decide) ?_
          refine lv_goto (tgt := 114) hx hb dX9_run_101 (by decide) ?_
          refine W_msr2 (fun hm1 hm2 hm3 => ?_)
          exact W.iret (v := -1) hx hb hr (fun t ht hW => ⟨⟨-1, (), rfl, trivial, by rw [ht]; exact hP, hD, by rw [ht]; omega, by rw [ht]; omega⟩, hS.F ht⟩) hS.2.2 dX9_run_114
        · refine W.eq (g2 := F0 m 97 ls [.ref (ad (50 + 16 * j_7))]) (by first | rfl | (rw [eo_6]; rfl)) ?_
          have hj_7 : j_7 < M := h_i3 _ _ _ hl_4 eo_6
          exact by
           refine lv_ifnonnull (tgt := 104) hx hb dX9_run_97 (by decide) ?_
           refine lv_aload_n hx hb dX9_run_104 rfl (lv_at hl 0 rfl) ?_
           refine va_get (D := (dC, dI)) (ci := 7) (v := .ref (ad (50 + 16 * v1.toInt.toNat + 1))) (C := RX7) (T := TX7) (N := 15) hx hb hg gb_7 hown hK hP (50 + 16 * v1.toInt.toNat) (hQ.b0 hl_4) rfl 10 (by decide) (hg _ gm_fieldLink_RX9_151_ErrandGuild_Run_kin_LErrandGuild_Kin_) (fun _ h9 => h9) rfl dX9_run_105 ?_
           refine va_get (D := (dC, dI)) (ci := 4) (v := va_rf (rA9 ad (K v1.toInt.toNat 0))) (C := RX4) (T := TX4) (N := 9) hx hb hg gb_4 hown hK hP (50 + 16 * v1.toInt.toNat + 1) (hQ.b1 hl_4) rfl 0 (by decide) (hg _ gm_fieldLink_RX9_155_ErrandGuild_Kin_giver_LErrandGuild_Run_) (fun _ h9 => h9) rfl dX9_run_108 ?_
           refine W.eq (g2 := F0 m 111 ls [.ref (ad (50 + 16 * j_7))]) (by rw [eo_6]; rfl) ?_
           refine va_get (D := (dC, dI)) (ci := 7) (v := .int (G j_7 0)) (C := RX7) (T := TX7) (N := 15) hx hb hg gb_7 hown hK hP (50 + 16 * j_7) (hQ.b0 hj_7) rfl 0 (by decide) (hg _ gm_fieldLink_RX9_118_ErrandGuild_Run_number_I_) (fun _ h9 => h9) rfl dX9_run_111 ?_
           refine W_msr2 (fun hm1 hm2 hm3 => ?_)
           exact W.iret (v := G j_7 0) hx hb hr (fun t ht hW => ⟨⟨G j_7 0, (), rfl, trivial, by rw [ht]; exact hP, hD, by rw [ht]; omega, by rw [ht]; omega⟩, hS.F ht⟩) hS.2.2 dX9_run_114
      · refine lv_tableIn (tgt := 115) hx hb dX9_run_13 (by omega) (by omega) (by rw [sw_5]; rfl) (by decide) ?_
        refine lv_aload_n hx hb dX9_run_115 rfl (lv_at hl 0 rfl) ?_
        have hFc := free_all hD hS hA
        refine va_callq (va_runV (As := []) (rest := []) ⟨hx, hb, hml, hown, hg⟩ (c_X7_root l dC dI kc ws ad ga gc M n f T G K F R v1.toInt.toNat H.size (hpS H) hQ ⟨h_i1, h_i2, h_i3, h_i4, h_i5, h_i6, h_i7, h_i8, h_i9, h_i10, h_i11⟩ (by show v1.toInt.toNat < M; omega)) (cwV 0 hg (gw_V gm_methodLink_RX9_161_yX7_root gm_instanceMethod_yX7_root gm_selects_RX7_yX7_root_yX7_root gm_initialized_RX7 gm_code_yX7_root_cX7_root_1_some_object_ErrandGuild_Run_) rfl rfl rfl (by decide +kernel) ⟨Nat.le_of_ble_eq_true rfl, Nat.le_of_ble_eq_true rfl⟩) ⟨fun a U g mk q => by obtain ⟨q0, q1, q2, qP, qK, qD, qN⟩ := q; exact ⟨q0, q1, q2, qP, va_K.moved (u := U) (U := U.calling g mk a) (Vm.Alike.refl U.vm) qK, qD, nx_same (u := U) (U := U.calling g mk a) rfl qN⟩, va_recv hK hP (ci := 7) (q0 := (50 + 16 * v1.toInt.toNat)) rfl (hQ.b0 hl_4), fun U hU hW => ⟨rfl, by rw [hU], by rw [hU], by rw [hU]; exact hP, va_K.moved hW.alike hK, hD.weaken (fun _ _ _ _ => trivial), nx_warm hW hN⟩⟩ rfl rfl hl.1 rfl (lv_room (Nat.le_of_ble_eq_true rfl)) dX9_run_116 ⟨Nat.le_of_ble_eq_true rfl, Nat.le_of_ble_eq_true rfl⟩) hS (fun q _ h => hFc q h) hFc (fun r_8 u_9 t H1 locs ht hvm hw hB hz1 hk1 hS => ?_)
        obtain ⟨hP, hD, hy1, hy2⟩ := hB
        rw [ht] at hP hy1 hy2
        have hD := hD.weaken (fun k q _ h => hFc _ h)
        have q1_ := h_i1
        unfold i1 at q1_
        generalize H1 = H at hP hS ⊢
        obtain rfl : r_8 = some (ad (50 + 16 * (rt9 K v1.toInt.toNat))) := hw
        have hl_11 : (rt9 K v1.toInt.toNat) < M := rt9_lt h_i3 hl_4
        refine W.eq (g2 := F0 m 119 ls [.ref (ad (50 + 16 * (rt9 K v1.toInt.toNat)))]) rfl ?_
        exact by
         refine va_get (D := (dC, dI)) (ci := 7) (v := .int (G (rt9 K v1.toInt.toNat) 0)) (C := RX7) (T := TX7) (N := 15) hx hb hg gb_7 hown hK hP (50 + 16 * (rt9 K v1.toInt.toNat)) (hQ.b0 hl_11) rfl 0 (by decide) (hg _ gm_fieldLink_RX9_118_ErrandGuild_Run_number_I_) (fun _ h9 => h9) rfl dX9_run_119 ?_
         refine W_msr2 (fun hm1 hm2 hm3 => ?_)
         exact W.iret (v := G (rt9 K v1.toInt.toNat) 0) hx hb hr (fun t ht hW => ⟨⟨G (rt9 K v1.toInt.toNat) 0, (), rfl, trivial, by rw [ht]; exact hP, hD, by rw [ht]; omega, by rw [ht]; omega⟩, hS.F ht⟩) hS.2.2 dX9_run_122
      · refine lv_tableIn (tgt := 123) hx hb dX9_run_13 (by omega) (by omega) (by rw [sw_5]; rfl) (by decide) ?_
        refine lv_aload_n hx hb dX9_run_123 rfl (lv_at hl 0 rfl) ?_
        refine va_get (D := (dC, dI)) (ci := 7) (v := .ref (ad (50 + 16 * v1.toInt.toNat + 1))) (C := RX7) (T := TX7) (N := 15) hx hb hg gb_7 hown hK hP (50 + 16 * v1.toInt.toNat) (hQ.b0 hl_4) rfl 10 (by decide) (hg _ gm_fieldLink_RX9_151_ErrandGuild_Run_kin_LErrandGuild_Kin_) (fun _ h9 => h9) rfl dX9_run_124 ?_
        refine va_get (D := (dC, dI)) (ci := 4) (v := .int (G v1.toInt.toNat 10)) (C := RX4) (T := TX4) (N := 9) hx hb hg gb_4 hown hK hP (50 + 16 * v1.toInt.toNat + 1) (hQ.b1 hl_4) rfl 2 (by decide) (hg _ gm_fieldLink_RX9_165_ErrandGuild_Kin_depth_I_) (fun _ h9 => h9) rfl dX9_run_127 ?_
        refine W_msr2 (fun hm1 hm2 hm3 => ?_)
        exact W.iret (v := G v1.toInt.toNat 10) hx hb hr (fun t ht hW => ⟨⟨G v1.toInt.toNat 10, (), rfl, trivial, by rw [ht]; exact hP, hD, by rw [ht]; omega, by rw [ht]; omega⟩, hS.F ht⟩) hS.2.2 dX9_run_130
      · refine lv_tableIn (tgt := 131) hx hb dX9_run_13 (by omega) (by omega) (by rw [sw_5]; rfl) (by decide) ?_
        refine lv_aload_n hx hb dX9_run_131 rfl (lv_at hl 0 rfl) ?_
        refine va_get (D := (dC, dI)) (ci := 7) (v := .int (G v1.toInt.toNat 3)) (C := RX7) (T := TX7) (N := 15) hx hb hg gb_7 hown hK hP (50 + 16 * v1.toInt.toNat) (hQ.b0 hl_4) rfl 3 (by decide) (hg _ gm_fieldLink_RX9_168_ErrandGuild_Run_thread_I_) (fun _ h9 => h9) rfl dX9_run_132 ?_
        refine W_msr2 (fun hm1 hm2 hm3 => ?_)
        exact W.iret (v := G v1.toInt.toNat 3) hx hb hr (fun t ht hW => ⟨⟨G v1.toInt.toNat 3, (), rfl, trivial, by rw [ht]; exact hP, hD, by rw [ht]; omega, by rw [ht]; omega⟩, hS.F ht⟩) hS.2.2 dX9_run_135
      · refine lv_tableIn (tgt := 136) hx hb dX9_run_13 (by omega) (by omega) (by rw [sw_5]; rfl) (by decide) ?_
        exact by
         refine lv_aload_n hx hb dX9_run_136 rfl (lv_at hl 0 rfl) ?_
         refine va_get (D := (dC, dI)) (ci := 7) (v := .int (G v1.toInt.toNat 5)) (C := RX7) (T := TX7) (N := 15) hx hb hg gb_7 hown hK hP (50 + 16 * v1.toInt.toNat) (hQ.b0 hl_4) rfl 5 (by decide) (hg _ gm_fieldLink_RX9_171_ErrandGuild_Run_sum_I_) (fun _ h9 => h9) rfl dX9_run_137 ?_
         refine W_msr2 (fun hm1 hm2 hm3 => ?_)
         exact W.iret (v := G v1.toInt.toNat 5) hx hb hr (fun t ht hW => ⟨⟨G v1.toInt.toNat 5, (), rfl, trivial, by rw [ht]; exact hP, hD, by rw [ht]; omega, by rw [ht]; omega⟩, hS.F ht⟩) hS.2.2 dX9_run_140
      · refine lv_tableIn (tgt := 141) hx hb dX9_run_13 (by omega) (by omega) (by rw [sw_5]; rfl) (by decide) ?_
        refine lv_aload_n hx hb dX9_run_141 rfl (lv_at hl 0 rfl) ?_
        refine va_get (D := (dC, dI)) (ci := 7) (v := .int (G v1.toInt.toNat 6)) (C := RX7) (T := TX7) (N := 15) hx hb hg gb_7 hown hK hP (50 + 16 * v1.toInt.toNat) (hQ.b0 hl_4) rfl 6 (by decide) (hg _ gm_fieldLink_RX9_174_ErrandGuild_Run_place_I_) (fun _ h9 => h9) rfl dX9_run_142 ?_
        refine W_msr2 (fun hm1 hm2 hm3 => ?_)
        exact W.iret (v := G v1.toInt.toNat 6) hx hb hr (fun t ht hW => ⟨⟨G v1.toInt.toNat 6, (), rfl, trivial, by rw [ht]; exact hP, hD, by rw [ht]; omega, by rw [ht]; omega⟩, hS.F ht⟩) hS.2.2 dX9_run_145
      · refine lv_tableIn (tgt := 146) hx hb dX9_run_13 (by omega) (by omega) (by rw [sw_5]; rfl) (by decide) ?_
        refine lv_aload_n hx hb dX9_run_146 rfl (lv_at hl 0 rfl) ?_
        refine va_get (D := (dC, dI)) (ci := 7) (v := .ref (ad (50 + 16 * v1.toInt.toNat + 6))) (C := RX7) (T := TX7) (N := 15) hx hb hg gb_7 hown hK hP (50 + 16 * v1.toInt.toNat) (hQ.b0 hl_4) rfl 12 (by decide) (hg _ gm_fieldLink_RX9_177_ErrandGuild_Run_scopes_LErrandGuild_Scopes_) (fun _ h9 => h9) rfl dX9_run_147 ?_
        refine va_get (D := (dC, dI)) (ci := 8) (v := .int (G v1.toInt.toNat 14)) (C := RX8) (T := TX8) (N := 9) hx hb hg gb_8 hown hK hP (50 + 16 * v1.toInt.toNat + 6) (hQ.b6 hl_4) rfl 3 (by decide) (hg _ gm_fieldLink_RX9_181_ErrandGuild_Scopes_bindings_I_) (fun _ h9 => h9) rfl dX9_run_150 ?_
        refine W_msr2 (fun hm1 hm2 hm3 => ?_)
        exact W.iret (v := G v1.toInt.toNat 14) hx hb hr (fun t ht hW => ⟨⟨G v1.toInt.toNat 14, (), rfl, trivial, by rw [ht]; exact hP, hD, by rw [ht]; omega, by rw [ht]; omega⟩, hS.F ht⟩) hS.2.2 dX9_run_153
      · refine lv_tableIn (tgt := 154) hx hb dX9_run_13 (by omega) (by omega) (by rw [sw_5]; rfl) (by decide) ?_
        exact by
         refine lv_aload_n hx hb dX9_run_154 rfl (lv_at hl 0 rfl) ?_
         refine va_get (D := (dC, dI)) (ci := 7) (v := .ref (ad (50 + 16 * v1.toInt.toNat + 6))) (C := RX7) (T := TX7) (N := 15) hx hb hg gb_7 hown hK hP (50 + 16 * v1.toInt.toNat) (hQ.b0 hl_4) rfl 12 (by decide) (hg _ gm_fieldLink_RX9_177_ErrandGuild_Run_scopes_LErrandGuild_Scopes_) (fun _ h9 => h9) rfl dX9_run_155 ?_
         refine va_get (D := (dC, dI)) (ci := 8) (v := .int (G v1.toInt.toNat 15)) (C := RX8) (T := TX8) (N := 9) hx hb hg gb_8 hown hK hP (50 + 16 * v1.toInt.toNat + 6) (hQ.b6 hl_4) rfl 7 (by decide) (hg _ gm_fieldLink_RX9_186_ErrandGuild_Scopes_tries_I_) (fun _ h9 => h9) rfl dX9_run_158 ?_
         refine W_msr2 (fun hm1 hm2 hm3 => ?_)
         exact W.iret (v := G v1.toInt.toNat 15) hx hb hr (fun t ht hW => ⟨⟨G v1.toInt.toNat 15, (), rfl, trivial, by rw [ht]; exact hP, hD, by rw [ht]; omega, by rw [ht]; omega⟩, hS.F ht⟩) hS.2.2 dX9_run_161
      · refine lv_tableIn (tgt := 162) hx hb dX9_run_13 (by omega) (by omega) (by rw [sw_5]; rfl) (by decide) ?_
        refine lv_aload_n hx hb dX9_run_162 rfl (lv_at hl 0 rfl) ?_
        refine va_get (D := (dC, dI)) (ci := 7) (v := .int (G v1.toInt.toNat 7)) (C := RX7) (T := TX7) (N := 15) hx hb hg gb_7 hown hK hP (50 + 16 * v1.toInt.toNat) (hQ.b0 hl_4) rfl 7 (by decide) (hg _ gm_fieldLink_RX9_189_ErrandGuild_Run_overBeat_I_) (fun _ h9 => h9) rfl dX9_run_163 ?_
        refine W_msr2 (fun hm1 hm2 hm3 => ?_)
        exact W.iret (v := G v1.toInt.toNat 7) hx hb hr (fun t ht hW => ⟨⟨G v1.toInt.toNat 7, (), rfl, trivial, by rw [ht]; exact hP, hD, by rw [ht]; omega, by rw [ht]; omega⟩, hS.F ht⟩) hS.2.2 dX9_run_166
      · refine lv_tableIn (tgt := 167) hx hb dX9_run_13 (by omega) (by omega) (by rw [sw_5]; rfl) (by decide) ?_
        refine lv_aload_n hx hb dX9_run_167 rfl (lv_at hl 0 rfl) ?_
        refine va_get (D := (dC, dI)) (ci := 7) (v := .ref (ad (50 + 16 * v1.toInt.toNat + 1))) (C := RX7) (T := TX7) (N := 15) hx hb hg gb_7 hown hK hP (50 + 16 * v1.toInt.toNat) (hQ.b0 hl_4) rfl 10 (by decide) (hg _ gm_fieldLink_RX9_151_ErrandGuild_Run_kin_LErrandGuild_Kin_) (fun _ h9 => h9) rfl dX9_run_168 ?_
        refine va_get (D := (dC, dI)) (ci := 4) (v := .int (G v1.toInt.toNat 13)) (C := RX4) (T := TX4) (N := 9) hx hb hg gb_4 hown hK hP (50 + 16 * v1.toInt.toNat + 1) (hQ.b1 hl_4) rfl 8 (by decide) (hg _ gm_fieldLink_RX9_192_ErrandGuild_Kin_children_I_) (fun _ h9 => h9) rfl dX9_run_171 ?_
        refine W_msr2 (fun hm1 hm2 hm3 => ?_)
        exact W.iret (v := G v1.toInt.toNat 13) hx hb hr (fun t ht hW => ⟨⟨G v1.toInt.toNat 13, (), rfl, trivial, by rw [ht]; exact hP, hD, by rw [ht]; omega, by rw [ht]; omega⟩, hS.F ht⟩) hS.2.2 dX9_run_174
      · refine lv_tableIn (tgt := 175) hx hb dX9_run_13 (by omega) (by omega) (by rw [sw_5]; rfl) (by decide) ?_
        exact by
         refine lv_aload_n hx hb dX9_run_175 rfl (lv_at hl 0 rfl) ?_
         refine va_get (D := (dC, dI)) (ci := 7) (v := .int (G v1.toInt.toNat 4)) (C := RX7) (T := TX7) (N := 15) hx hb hg gb_7 hown hK hP (50 + 16 * v1.toInt.toNat) (hQ.b0 hl_4) rfl 4 (by decide) (hg _ gm_fieldLink_RX9_195_ErrandGuild_Run_visits_I_) (fun _ h9 => h9) rfl dX9_run_176 ?_
         refine W_msr2 (fun hm1 hm2 hm3 => ?_)
         exact W.iret (v := G v1.toInt.toNat 4) hx hb hr (fun t ht hW => ⟨⟨G v1.toInt.toNat 4, (), rfl, trivial, by rw [ht]; exact hP, hD, by rw [ht]; omega, by rw [ht]; omega⟩, hS.F ht⟩) hS.2.2 dX9_run_179
   · have w_3 : ¬ (0 ≤ v1.toInt ∧ v1.toInt < (n 0).toInt) := w_3
     refine W.eq (g2 := F0 m 5 ls [.null]) rfl ?_
     refine lv_astore_nN (lv' := [(3, .null), (0, .ref (ad 0)), (1, .int v1), (2, .int v2)]) hx hb dX9_run_5 rfl hl (by decide) rfl (fun ls hl => ?_)
     refine lv_aload_nN hx hb dX9_run_6 rfl (lv_at hl 0 rfl) ?_
     refine lv_ifnonnullN hx hb dX9_run_7 ?_
     refine lv_iconst (v := -1) hx hb dX9_run_10 (by decide) ?_
     refine W_msr2 (fun hm1 hm2 hm3 => ?_)
     exact W.iret (v := -1) hx hb hr (fun t ht hW => ⟨⟨-1, (), rfl, trivial, by rw [ht]; exact hP, hD, by rw [ht]; omega, by rw [ht]; omega⟩, hS.F ht⟩) hS.2.2 dX9_run_11

set_option maxHeartbeats 8000000 in
set_option maxRecDepth 100000 in
theorem c_X9_failure (l : Launch) (dC : Nat → ClassId) (dI : Nat → Nat → Nat) (kc : Nat → ClassId) (ws : va_W) (ad : Nat → Nat) (ga : Nat → Nat) (gc : Nat → Nat) (M : Nat) (n : Nat → Int32) (f : Nat → Nat → Int32) (T : Nat → Option Nat) (G : Nat → Nat → Int32) (K : Nat → Nat → Option Nat) (F : Nat → Nat → Nat → Int32) (R : Nat) (v1 : Int32) (v2 : Int32) (sz hz : Nat) (hQ : Pic9 kc ws ad ga gc M n f T G K F) (hI : I9 M n f T gc G K F R) : Met l yX9_failure (.code yX9_failure cX9_failure 4 (some .int) :: gw) ({ frames := 2, cells := 0, slots := 0, locals := 43 }) (va_Pc [.ref (ad 0), .int v1, .int v2] (fun U => U.heap.size = sz ∧ hpS U.heap = hz ∧ va_P (dC, dI) vwCl ws U.heap ∧ va_K (dC, dI) vwCl (t9 kc) U ∧ va_D (fun _ => True) ws ∧ nx U)) (va_Qi (fun (r : Int32) (u : Unit) => r = k_failure v1 v2 (C9.mk n f T G K F)) (fun _ t => va_P (dC, dI) vwCl ws t.heap ∧ va_D (va_A ws sz) ws ∧ hpS t.heap ≤ hz ∧ t.heap.size ≤ sz) (va_A ws sz)) 0 0 (va_A ws sz) := by
  refine Met.ofW (cc := cX9_failure) (maxL := 4) (ret := (some .int)) (by decide) rfl ?_
  intro p e s m args below meth c s₁ B hml hv
  obtain ⟨rfl, hsz, rfl, hP, hK, hD0, hN⟩ := hv
  have hx := B.exec
  have hb := B.bytes
  have hr := B.returns
  have hts := atoms_spec (ws := .code yX9_failure cX9_failure 4 (some .int) :: gw) B.pre
  have hg : ∀ w ∈ gw, w.before _ s = true := fun w h => hts w (List.mem_cons_of_mem _ h)
  have hown : s.vm.findClass RX9 = some m.cls := findClass_of_methodNamed B.named
  have hlocks := B.notSynchronized
  subst hsz
  have hD := hD0.self (sz := s.heap.size)
  generalize hAe : va_A ws s.heap.size = A at hD ⊢
  have hA : ∀ q : Nat, s.heap.size ≤ q → A q := fun q h => by rw [← hAe]; exact Or.inr h
  clear hAe
  have hS : va_S A s.heap s.heap [] := va_S.rf
  have hl := lv_entry ([.ref (ad 0), .int v1, .int v2]) (n := 4) (Nat.le_of_ble_eq_true rfl)
  rw [lg_entry_eq]
  generalize (lg_sl ([.ref (ad 0), .int v1, .int v2]) ++ List.replicate (4 - (lg_sl ([.ref (ad 0), .int v1, .int v2])).length) Slot.unset).toArray = ls at hl ⊢
  have hl : lv_has ls 4 [(0, .ref (ad 0)), (1, .int v1), (2, .int v2)] := hl
  obtain ⟨h_i1, h_i2, h_i3, h_i4, h_i5, h_i6, h_i7, h_i8, h_i9, h_i10, h_i11⟩ := id hI
  have q1_ := h_i1
  unfold i1 at q1_
  exact by
   refine lv_aload_n hx hb dX9_failure_0 rfl (lv_at hl 0 rfl) ?_
   refine lv_iload_n hx hb dX9_failure_1 rfl (lv_at hl 1 rfl) ?_
   have hFc := free_all hD hS hA
   refine va_callq (va_runV (As := [.int v1]) (rest := []) ⟨hx, hb, hml, hown, hg⟩ (c_X9_failedAt l dC dI kc ws ad ga gc M n f T G K F R v1 s.heap.size (hpS s.heap) hQ ⟨h_i1, h_i2, h_i3, h_i4, h_i5, h_i6, h_i7, h_i8, h_i9, h_i10, h_i11⟩) (cwV 1 hg (gw_V gm_methodLink_RX9_198_yX9_failedAt gm_instanceMethod_yX9_failedAt gm_selects_RX9_yX9_failedAt_yX9_failedAt gm_initialized_RX9 gm_code_yX9_failedAt_cX9_failedAt_3_some_object_ErrandGuild_Run_) rfl rfl rfl (by decide +kernel) ⟨Nat.le_of_ble_eq_true rfl, Nat.le_of_ble_eq_true rfl⟩) ⟨fun a U g mk q => by obtain ⟨q0, q1, q2, qP, qK, qD, qN⟩ := q; exact ⟨q0, q1, q2, qP, va_K.moved (u := U) (U := U.calling g mk a) (Vm.Alike.refl U.vm) qK, qD, nx_same (u := U) (U := U.calling g mk a) rfl qN⟩, va_recv hK hP (ci := 9) (q0 := 0) rfl hQ.x0, fun U hU hW => ⟨rfl, by rw [hU], by rw [hU], by rw [hU]; exact hP, va_K.moved hW.alike hK, hD.weaken (fun _ _ _ _ => trivial), nx_warm hW hN⟩⟩ rfl rfl hl.1 rfl (lv_room (Nat.le_of_ble_eq_true rfl)) dX9_failure_2 ⟨Nat.le_of_ble_eq_true rfl, Nat.le_of_ble_eq_true rfl⟩) hS (fun q _ h => hFc q h) hFc (fun r_1 u_2 t H1 locs ht hvm hw hB hz1 hk1 hS => ?_)
   obtain ⟨hP, hD, hy1, hy2⟩ := hB
   rw [ht] at hP hy1 hy2
   have hD := hD.weaken (fun k q _ h => hFc _ h)
   have q1_ := h_i1
   unfold i1 at q1_
   generalize H1 = H at hP hS ⊢
   rcases hw with ⟨rfl, w_3⟩ | ⟨rfl, w_3⟩
   · have w_3 : ((0 ≤ v1.toInt ∧ v1.toInt < (n 0).toInt) ∧ (G v1.toInt.toNat 2).toInt = 4) := w_3
     have hl_4 : v1.toInt.toNat < M := by omega
     refine W.eq (g2 := F0 m 5 ls [.ref (ad (50 + 16 * v1.toInt.toNat))]) rfl ?_
     exact by
      refine lv_astore_n (lv' := [(3, .ref (ad (50 + 16 * v1.toInt.toNat))), (0, .ref (ad 0)), (1, .int v1), (2, .int v2)]) hx hb dX9_failure_5 rfl hl (by decide) rfl (fun ls hl => ?_)
      refine lv_aload_n hx hb dX9_failure_6 rfl (lv_at hl 0 rfl) ?_
      refine lv_ifnonnull (tgt := 12) hx hb dX9_failure_7 (by decide) ?_
      refine lv_iload_n hx hb dX9_failure_12 rfl (lv_at hl 3 rfl) ?_
      rcases (show (v2.toInt < 0 ∨ 4 < v2.toInt) ∨ v2.toInt = 0 ∨ v2.toInt = 1 ∨ v2.toInt = 2 ∨ v2.toInt = 3 ∨ v2.toInt = 4 by omega) with sw_5 | sw_5 | sw_5 | sw_5 | sw_5 | sw_5
      · refine lv_tableOut (tgt := 96) hx hb dX9_failure_13 sw_5 (by decide) ?_
        refine lv_iconst (v := -1) hx hb dX9_failure_96 (by decide) ?_
        refine W_msr2 (fun hm1 hm2 hm3 => ?_)
        exact W.iret (v := -1) hx hb hr (fun t ht hW => ⟨⟨-1, (), rfl, (by show (-1 : Int32) = k_failure v1 v2 (C9.mk n f T G K F); have hX := (k_failure.eq_1 v1 v2 (C9.mk n f T G K F)).symm; (repeat (first | dsimp +instances only [c9n, c9f, c9T, c9G, c9K, c9F, b_come, b_leave, b_fill, awB, b_settle, b_wake, b_take, f_take, b_gather, f_gather, b_ask, a_ask, b_tell, c_close, d_close, k_add, k_rem, sco, k_clrF, k_mem, k_rebind, k_bnd, k_beg0, k_beg1, b_giveN, b_giveR, f_open, b_hand, k_op, b_turn, wlB, b_beat, f_anew, b_wipe, b_off, k_sadd, fits, frP, cntB, b_trace, b_child, k_lat, cond_true, cond_false, Option.elim_none, Option.elim_some, Option.getD_none, Option.getD_some] at hX | rw [if_pos (by first | with_reducible assumption | omega)] at hX | rw [if_neg (by first | with_reducible assumption | omega)] at hX | rw [jx_of (by omega)] at hX)); first | exact hX | (exfalso; omega) | exact hX), by rw [ht]; exact hP, hD, by rw [ht]; omega, by rw [ht]; omega⟩, hS.F ht⟩) hS.2.2 dX9_failure_97
      · refine lv_tableIn (tgt := 48) hx hb dX9_failure_13 (by omega) (by omega) (by rw [sw_5]; rfl) (by decide) ?_
        refine lv_aload_n hx hb dX9_failure_48 rfl (lv_at hl 0 rfl) ?_
        refine va_get (D := (dC, dI)) (ci := 7) (v := .ref (ad (50 + 16 * v1.toInt.toNat + 13))) (C := RX7) (T := TX7) (N := 15) hx hb hg gb_7 hown hK hP (50 + 16 * v1.toInt.toNat) (hQ.b0 hl_4) rfl 13 (by decide) (hg _ gm_fieldLink_RX9_201_ErrandGuild_Run_fault_LErrandGuild_Fault_) (fun _ h9 => h9) rfl dX9_failure_49 ?_
        exact by
         refine va_get (D := (dC, dI)) (ci := 2) (v := .int (G v1.toInt.toNat 17)) (C := RX2) (T := TX2) (N := 5) hx hb hg gb_2 hown hK hP (50 + 16 * v1.toInt.toNat + 13) (hQ.b13 hl_4) rfl 0 (by decide) (hg _ gm_fieldLink_RX9_205_ErrandGuild_Fault_kind_I_) (fun _ h9 => h9) rfl dX9_failure_52 ?_
         refine W_msr2 (fun hm1 hm2 hm3 => ?_)
         exact W.iret (v := G v1.toInt.toNat 17) hx hb hr (fun t ht hW => ⟨⟨G v1.toInt.toNat 17, (), rfl, (by show G v1.toInt.toNat 17 = k_failure v1 v2 (C9.mk n f T G K F); have hX := (k_failure.eq_1 v1 v2 (C9.mk n f T G K F)).symm; (repeat (first | dsimp +instances only [c9n, c9f, c9T, c9G, c9K, c9F, b_come, b_leave, b_fill, awB, b_settle, b_wake, b_take, f_take, b_gather, f_gather, b_ask, a_ask, b_tell, c_close, d_close, k_add, k_rem, sco, k_clrF, k_mem, k_rebind, k_bnd, k_beg0, k_beg1, b_giveN, b_giveR, f_open, b_hand, k_op, b_turn, wlB, b_beat, f_anew, b_wipe, b_off, k_sadd, fits, frP, cntB, b_trace, b_child, k_lat, cond_true, cond_false, Option.elim_none, Option.elim_some, Option.getD_none, Option.getD_some] at hX | rw [if_pos (by first | with_reducible assumption | omega)] at hX | rw [if_neg (by first | with_reducible assumption | omega)] at hX | rw [jx_of (by omega)] at hX)); first | exact hX | (exfalso; omega) | exact hX), by rw [ht]; exact hP, hD, by rw [ht]; omega, by rw [ht]; omega⟩, hS.F ht⟩) hS.2.2 dX9_failure_55
      · refine lv_tableIn (tgt := 56) hx hb dX9_failure_13 (by omega) (by omega) (by rw [sw_5]; rfl) (by decide) ?_
        refine lv_aload_n hx hb dX9_failure_56 rfl (lv_at hl 0 rfl) ?_
        refine va_get (D := (dC, dI)) (ci := 7) (v := .ref (ad (50 + 16 * v1.toInt.toNat + 13))) (C := RX7) (T := TX7) (N := 15) hx hb hg gb_7 hown hK hP (50 + 16 * v1.toInt.toNat) (hQ.b0 hl_4) rfl 13 (by decide) (hg _ gm_fieldLink_RX9_201_ErrandGuild_Run_fault_LErrandGuild_Fault_) (fun _ h9 => h9) rfl dX9_failure_57 ?_
        refine va_get (D := (dC, dI)) (ci := 2) (v := .int (G v1.toInt.toNat 18)) (C := RX2) (T := TX2) (N := 5) hx hb hg gb_2 hown hK hP (50 + 16 * v1.toInt.toNat + 13) (hQ.b13 hl_4) rfl 1 (by decide) (hg _ gm_fieldLink_RX9_210_ErrandGuild_Fault_step_I_) (fun _ h9 => h9) rfl dX9_failure_60 ?_
        refine W_msr2 (fun hm1 hm2 hm3 => ?_)
        exact W.iret (v := G v1.toInt.toNat 18) hx hb hr (fun t ht hW => ⟨⟨G v1.toInt.toNat 18, (), rfl, (by show G v1.toInt.toNat 18 = k_failure v1 v2 (C9.mk n f T G K F); have hX := (k_failure.eq_1 v1 v2 (C9.mk n f T G K F)).symm; (repeat (first | dsimp +instances only [c9n, c9f, c9T, c9G, c9K, c9F, b_come, b_leave, b_fill, awB, b_settle, b_wake, b_take, f_take, b_gather, f_gather, b_ask, a_ask, b_tell, c_close, d_close, k_add, k_rem, sco, k_clrF, k_mem, k_rebind, k_bnd, k_beg0, k_beg1, b_giveN, b_giveR, f_open, b_hand, k_op, b_turn, wlB, b_beat, f_anew, b_wipe, b_off, k_sadd, fits, frP, cntB, b_trace, b_child, k_lat, cond_true, cond_false, Option.elim_none, Option.elim_some, Option.getD_none, Option.getD_some] at hX | rw [if_pos (by first | with_reducible assumption | omega)] at hX | rw [if_neg (by first | with_reducible assumption | omega)] at hX | rw [jx_of (by omega)] at hX)); first | exact hX | (exfalso; omega) | exact hX), by rw [ht]; exact hP, hD, by rw [ht]; omega, by rw [ht]; omega⟩, hS.F ht⟩) hS.2.2 dX9_failure_63
      · refine lv_tableIn (tgt := 64) hx hb dX9_failure_13 (by omega) (by omega) (by rw [sw_5]; rfl) (by decide) ?_
        refine lv_aload_n hx hb dX9_failure_64 rfl (lv_at hl 0 rfl) ?_
        refine va_get (D := (dC, dI)) (ci := 7) (v := .ref (ad (50 + 16 * v1.toInt.toNat + 13))) (C := RX7) (T := TX7) (N := 15) hx hb hg gb_7 hown hK hP (50 + 16 * v1.toInt.toNat) (hQ.b0 hl_4) rfl 13 (by decide) (hg _ gm_fieldLink_RX9_201_ErrandGuild_Run_fault_LErrandGuild_Fault_) (fun _ h9 => h9) rfl dX9_failure_65 ?_
        refine va_get (D := (dC, dI)) (ci := 2) (v := .int (G v1.toInt.toNat 19)) (C := RX2) (T := TX2) (N := 5) hx hb hg gb_2 hown hK hP (50 + 16 * v1.toInt.toNat + 13) (hQ.b13 hl_4) rfl 2 (by decide) (hg _ gm_fieldLink_RX9_213_ErrandGuild_Fault_cause_I_) (fun _ h9 => h9) rfl dX9_failure_68 ?_
        refine W_msr2 (fun hm1 hm2 hm3 => ?_)
        exact W.iret (v := G v1.toInt.toNat 19) hx hb hr (fun t ht hW => ⟨⟨G v1.toInt.toNat 19, (), rfl, (by show G v1.toInt.toNat 19 = k_failure v1 v2 (C9.mk n f T G K F); have hX := (k_failure.eq_1 v1 v2 (C9.mk n f T G K F)).symm; (repeat (first | dsimp +instances only [c9n, c9f, c9T, c9G, c9K, c9F, b_come, b_leave, b_fill, awB, b_settle, b_wake, b_take, f_take, b_gather, f_gather, b_ask, a_ask, b_tell, c_close, d_close, k_add, k_rem, sco, k_clrF, k_mem, k_rebind, k_bnd, k_beg0, k_beg1, b_giveN, b_giveR, f_open, b_hand, k_op, b_turn, wlB, b_beat, f_anew, b_wipe, b_off, k_sadd, fits, frP, cntB, b_trace, b_child, k_lat, cond_true, cond_false, Option.elim_none, Option.elim_some, Option.getD_none, Option.getD_some] at hX | rw [if_pos (by first | with_reducible assumption | omega)] at hX | rw [if_neg (by first | with_reducible assumption | omega)] at hX | rw [jx_of (by omega)] at hX)); first | exact hX | (exfalso; omega) | exact hX), by rw [ht]; exact hP, hD, by rw [ht]; omega, by rw [ht]; omega⟩, hS.F ht⟩) hS.2.2 dX9_failure_71
      · refine lv_tableIn (tgt := 72) hx hb dX9_failure_13 (by omega) (by omega) (by rw [sw_5]; rfl) (by decide) ?_
        exact by
         refine lv_aload_n hx hb dX9_failure_72 rfl (lv_at hl 0 rfl) ?_
         refine va_get (D := (dC, dI)) (ci := 7) (v := .ref (ad (50 + 16 * v1.toInt.toNat + 13))) (C := RX7) (T := TX7) (N := 15) hx hb hg gb_7 hown hK hP (50 + 16 * v1.toInt.toNat) (hQ.b0 hl_4) rfl 13 (by decide) (hg _ gm_fieldLink_RX9_201_ErrandGuild_Run_fault_LErrandGuild_Fault_) (fun _ h9 => h9) rfl dX9_failure_73 ?_
         refine va_get (D := (dC, dI)) (ci := 2) (v := .int (G v1.toInt.toNat 20)) (C := RX2) (T := TX2) (N := 5) hx hb hg gb_2 hown hK hP (50 + 16 * v1.toInt.toNat + 13) (hQ.b13 hl_4) rfl 3 (by decide) (hg _ gm_fieldLink_RX9_216_ErrandGuild_Fault_suppressed_I_) (fun _ h9 => h9) rfl dX9_failure_76 ?_
         refine W_msr2 (fun hm1 hm2 hm3 => ?_)
         exact W.iret (v := G v1.toInt.toNat 20) hx hb hr (fun t ht hW => ⟨⟨G v1.toInt.toNat 20, (), rfl, (by show G v1.toInt.toNat 20 = k_failure v1 v2 (C9.mk n f T G K F); have hX := (k_failure.eq_1 v1 v2 (C9.mk n f T G K F)).symm; (repeat (first | dsimp +instances only [c9n, c9f, c9T, c9G, c9K, c9F, b_come, b_leave, b_fill, awB, b_settle, b_wake, b_take, f_take, b_gather, f_gather, b_ask, a_ask, b_tell, c_close, d_close, k_add, k_rem, sco, k_clrF, k_mem, k_rebind, k_bnd, k_beg0, k_beg1, b_giveN, b_giveR, f_open, b_hand, k_op, b_turn, wlB, b_beat, f_anew, b_wipe, b_off, k_sadd, fits, frP, cntB, b_trace, b_child, k_lat, cond_true, cond_false, Option.elim_none, Option.elim_some, Option.getD_none, Option.getD_some] at hX | rw [if_pos (by first | with_reducible assumption | omega)] at hX | rw [if_neg (by first | with_reducible assumption | omega)] at hX | rw [jx_of (by omega)] at hX)); first | exact hX | (exfalso; omega) | exact hX), by rw [ht]; exact hP, hD, by rw [ht]; omega, by rw [ht]; omega⟩, hS.F ht⟩) hS.2.2 dX9_failure_79
      · refine lv_tableIn (tgt := 80) hx hb dX9_failure_13 (by omega) (by omega) (by rw [sw_5]; rfl) (by decide) ?_
        refine lv_aload_n hx hb dX9_failure_80 rfl (lv_at hl 0 rfl) ?_
        refine va_get (D := (dC, dI)) (ci := 7) (v := .ref (ad (50 + 16 * v1.toInt.toNat + 13))) (C := RX7) (T := TX7) (N := 15) hx hb hg gb_7 hown hK hP (50 + 16 * v1.toInt.toNat) (hQ.b0 hl_4) rfl 13 (by decide) (hg _ gm_fieldLink_RX9_201_ErrandGuild_Run_fault_LErrandGuild_Fault_) (fun _ h9 => h9) rfl dX9_failure_81 ?_
        refine va_get (D := (dC, dI)) (ci := 2) (v := .int (G v1.toInt.toNat 21)) (C := RX2) (T := TX2) (N := 5) hx hb hg gb_2 hown hK hP (50 + 16 * v1.toInt.toNat + 13) (hQ.b13 hl_4) rfl 4 (by decide) (hg _ gm_fieldLink_RX9_219_ErrandGuild_Fault_uncaught_Z_) (fun _ h9 => h9) rfl dX9_failure_84 ?_
        refine lv_if_eq (tgt := 94) hx hb dX9_failure_87 (by decide) (fun c_6 => ?_) (fun c_6 => ?_)
        · simp only [i_lt, i_le, i_eq, ti_0] at c_6
          refine lv_iconst (v := 0) hx hb dX9_failure_94 (by decide) ?_
          refine W_msr2 (fun hm1 hm2 hm3 => ?_)
          exact W.iret (v := 0) hx hb hr (fun t ht hW => ⟨⟨0, (), rfl, (by show (0 : Int32) = k_failure v1 v2 (C9.mk n f T G K F); have hX := (k_failure.eq_1 v1 v2 (C9.mk n f T G K F)).symm; (repeat (first | dsimp +instances only [c9n, c9f, c9T, c9G, c9K, c9F, b_come, b_leave, b_fill, awB, b_settle, b_wake, b_take, f_take, b_gather, f_gather, b_ask, a_ask, b_tell, c_close, d_close, k_add, k_rem, sco, k_clrF, k_mem, k_rebind, k_bnd, k_beg0, k_beg1, b_giveN, b_giveR, f_open, b_hand, k_op, b_turn, wlB, b_beat, f_anew, b_wipe, b_off, k_sadd, fits, frP, cntB, b_trace, b_child, k_lat, cond_true, cond_false, Option.elim_none, Option.elim_some, Option.getD_none, Option.getD_some] at hX | rw [if_pos (by first | with_reducible assumption | omega)] at hX | rw [if_neg (by first | with_reducible assumption | omega)] at hX | rw [jx_of (by omega)] at hX)); first | exact hX | (exfalso; omega) | exact hX), by rw [ht]; exact hP, hD, by rw [ht]; omega, by rw [ht]; omega⟩, hS.F ht⟩) hS.2.2 dX9_failure_95
        · simp only [i_lt, i_le, i_eq, ti_0] at c_6
          refine lv_iconst (v := 1) hx hb dX9_failure_90 (by decide) ?_
          refine lv_goto (tgt := 95) hx hb dX9_failure_91 (by decide) ?_
          refine W_msr2 (fun hm1 hm2 hm3 => ?_)
          exact W.iret (v := 1) hx hb hr (fun t ht hW => ⟨⟨1, (), rfl, (by show (1 : Int32) = k_failure v1 v2 (C9.mk n f T G K F); have hX := (k_failure.eq_1 v1 v2 (C9.mk n f T G K F)).symm; (repeat (first | dsimp +instances only [c9n, c9f, c9T, c9G, c9K, c9F, b_come, b_leave, b_fill, awB, b_settle, b_wake, b_take, f_take, b_gather, f_gather, b_ask, a_ask, b_tell, c_close, d_close, k_add, k_rem, sco, k_clrF, k_mem, k_rebind, k_bnd, k_beg0, k_beg1, b_giveN, b_giveR, f_open, b_hand, k_op, b_turn, wlB, b_beat, f_anew, b_wipe, b_off, k_sadd, fits, frP, cntB, b_trace, b_child, k_lat, cond_true, cond_false, Option.elim_none, Option.elim_some, Option.getD_none, Option.getD_some] at hX | rw [if_pos (by first | with_reducible assumption | omega)] at hX | rw [if_neg (by first | with_reducible assumption | omega)] at hX | rw [jx_of (by omega)] at hX)); first | exact hX | (exfalso; omega) | exact hX), by rw [ht]; exact hP, hD, by rw [ht]; omega, by rw [ht]; omega⟩, hS.F ht⟩) hS.2.2 dX9_failure_95
   · have w_3 : ¬ ((0 ≤ v1.toInt ∧ v1.toInt < (n 0).toInt) ∧ (G v1.toInt.toNat 2).toInt = 4) := w_3
     refine W.eq (g2 := F0 m 5 ls [.null]) rfl ?_
     refine lv_astore_nN (lv' := [(3, .null), (0, .ref (ad 0)), (1, .int v1), (2, .int v2)]) hx hb dX9_failure_5 rfl hl (by decide) rfl (fun ls hl => ?_)
     refine lv_aload_nN hx hb dX9_failure_6 rfl (lv_at hl 0 rfl) ?_
     refine lv_ifnonnullN hx hb dX9_failure_7 ?_
     refine lv_iconst (v := -1) hx hb dX9_failure_10 (by decide) ?_
     refine W_msr2 (fun hm1 hm2 hm3 => ?_)
     exact W.iret (v := -1) hx hb hr (fun t ht hW => ⟨⟨-1, (), rfl, (by show (-1 : Int32) = k_failure v1 v2 (C9.mk n f T G K F); have hX := (k_failure.eq_1 v1 v2 (C9.mk n f T G K F)).symm; (repeat (first | dsimp +instances only [c9n, c9f, c9T, c9G, c9K, c9F, b_come, b_leave, b_fill, awB, b_settle, b_wake, b_take, f_take, b_gather, f_gather, b_ask, a_ask, b_tell, c_close, d_close, k_add, k_rem, sco, k_clrF, k_mem, k_rebind, k_bnd, k_beg0, k_beg1, b_giveN, b_giveR, f_open, b_hand, k_op, b_turn, wlB, b_beat, f_anew, b_wipe, b_off, k_sadd, fits, frP, cntB, b_trace, b_child, k_lat, cond_true, cond_false, Option.elim_none, Option.elim_some, Option.getD_none, Option.getD_some] at hX | rw [if_pos (by first | with_reducible assumption | omega)] at hX | rw [if_neg (by first | with_reducible assumption | omega)] at hX | rw [jx_of (by omega)] at hX)); first | exact hX | (exfalso; omega) | exact hX), by rw [ht]; exact hP, hD, by rw [ht]; omega, by rw [ht]; omega⟩, hS.F ht⟩) hS.2.2 dX9_failure_11

set_option maxHeartbeats 8000000 in
set_option maxRecDepth 100000 in
theorem c_X9_trace (l : Launch) (dC : Nat → ClassId) (dI : Nat → Nat → Nat) (kc : Nat → ClassId) (ws : va_W) (ad : Nat → Nat) (ga : Nat → Nat) (gc : Nat → Nat) (M : Nat) (n : Nat → Int32) (f : Nat → Nat → Int32) (T : Nat → Option Nat) (G : Nat → Nat → Int32) (K : Nat → Nat → Option Nat) (F : Nat → Nat → Nat → Int32) (R : Nat) (v1 : Int32) (v2 : Int32) (sz hz : Nat) (hQ : Pic9 kc ws ad ga gc M n f T G K F) (hI : I9 M n f T gc G K F R) : Met l yX9_trace (.code yX9_trace cX9_trace 6 (some .int) :: gw) ({ frames := 2, cells := 0, slots := 0, locals := 43 }) (va_Pc [.ref (ad 0), .int v1, .int v2] (fun U => U.heap.size = sz ∧ hpS U.heap = hz ∧ va_P (dC, dI) vwCl ws U.heap ∧ va_K (dC, dI) vwCl (t9 kc) U ∧ va_D (fun _ => True) ws ∧ nx U)) (va_Qi (fun (r : Int32) (u : Unit) => r = k_trace v1 v2 (C9.mk n f T G K F)) (fun _ t => va_P (dC, dI) vwCl ws t.heap ∧ va_D (va_A ws sz) ws ∧ hpS t.heap ≤ hz ∧ t.heap.size ≤ sz) (va_A ws sz)) 0 0 (va_A ws sz) := by
  refine Met.ofW (cc := cX9_trace) (maxL := 6) (ret := (some .int)) (by decide) rfl ?_
  intro p e s m args below meth c s₁ B hml hv
  obtain ⟨rfl, hsz, rfl, hP, hK, hD0, hN⟩ := hv
  have hx := B.exec
  have hb := B.bytes
  have hr := B.returns
  have hts := atoms_spec (ws := .code yX9_trace cX9_trace 6 (some .int) :: gw) B.pre
  have hg : ∀ w ∈ gw, w.before _ s = true := fun w h => hts w (List.mem_cons_of_mem _ h)
  have hown : s.vm.findClass RX9 = some m.cls := findClass_of_methodNamed B.named
  have hlocks := B.notSynchronized
  subst hsz
  have hD := hD0.self (sz := s.heap.size)
  generalize hAe : va_A ws s.heap.size = A at hD ⊢
  have hA : ∀ q : Nat, s.heap.size ≤ q → A q := fun q h => by rw [← hAe]; exact Or.inr h
  clear hAe
  have hS : va_S A s.heap s.heap [] := va_S.rf
  have hl := lv_entry ([.ref (ad 0), .int v1, .int v2]) (n := 6) (Nat.le_of_ble_eq_true rfl)
  rw [lg_entry_eq]
  generalize (lg_sl ([.ref (ad 0), .int v1, .int v2]) ++ List.replicate (6 - (lg_sl ([.ref (ad 0), .int v1, .int v2])).length) Slot.unset).toArray = ls at hl ⊢
  have hl : lv_has ls 6 [(0, .ref (ad 0)), (1, .int v1), (2, .int v2)] := hl
  obtain ⟨h_i1, h_i2, h_i3, h_i4, h_i5, h_i6, h_i7, h_i8, h_i9, h_i10, h_i11⟩ := id hI
  have q1_ := h_i1
  unfold i1 at q1_
  exact by
   refine lv_aload_n hx hb dX9_trace_0 rfl (lv_at hl 0 rfl) ?_
   refine lv_iload_n hx hb dX9_trace_1 rfl (lv_at hl 1 rfl) ?_
   have hFc := free_all hD hS hA
   refine va_callq (va_runV (As := [.int v1]) (rest := []) ⟨hx, hb, hml, hown, hg⟩ (c_X9_failedAt l dC dI kc ws ad ga gc M n f T G K F R v1 s.heap.size (hpS s.heap) hQ ⟨h_i1, h_i2, h_i3, h_i4, h_i5, h_i6, h_i7, h_i8, h_i9, h_i10, h_i11⟩) (cwV 1 hg (gw_V gm_methodLink_RX9_198_yX9_failedAt gm_instanceMethod_yX9_failedAt gm_selects_RX9_yX9_failedAt_yX9_failedAt gm_initialized_RX9 gm_code_yX9_failedAt_cX9_failedAt_3_some_object_ErrandGuild_Run_) rfl rfl rfl (by decide +kernel) ⟨Nat.le_of_ble_eq_true rfl, Nat.le_of_ble_eq_true rfl⟩) ⟨fun a U g mk q => by obtain ⟨q0, q1, q2, qP, qK, qD, qN⟩ := q; exact ⟨q0, q1, q2, qP, va_K.moved (u := U) (U := U.calling g mk a) (Vm.Alike.refl U.vm) qK, qD, nx_same (u := U) (U := U.calling g mk a) rfl qN⟩, va_recv hK hP (ci := 9) (q0 := 0) rfl hQ.x0, fun U hU hW => ⟨rfl, by rw [hU], by rw [hU], by rw [hU]; exact hP, va_K.moved hW.alike hK, hD.weaken (fun _ _ _ _ => trivial), nx_warm hW hN⟩⟩ rfl rfl hl.1 rfl (lv_room (Nat.le_of_ble_eq_true rfl)) dX9_trace_2 ⟨Nat.le_of_ble_eq_true rfl, Nat.le_of_ble_eq_true rfl⟩) hS (fun q _ h => hFc q h) hFc (fun r_1 u_2 t H1 locs ht hvm hw hB hz1 hk1 hS => ?_)
   obtain ⟨hP, hD, hy1, hy2⟩ := hB
   rw [ht] at hP hy1 hy2
   have hD := hD.weaken (fun k q _ h => hFc _ h)
   have q1_ := h_i1
   unfold i1 at q1_
   generalize H1 = H at hP hS ⊢
   rcases hw with ⟨rfl, w_3⟩ | ⟨rfl, w_3⟩
   · have w_3 : ((0 ≤ v1.toInt ∧ v1.toInt < (n 0).toInt) ∧ (G v1.toInt.toNat 2).toInt = 4) := w_3
     have hl_4 : v1.toInt.toNat < M := by omega
     refine W.eq (g2 := F0 m 5 ls [.ref (ad (50 + 16 * v1.toInt.toNat))]) rfl ?_
     exact by
      refine lv_astore_n (lv' := [(3, .ref (ad (50 + 16 * v1.toInt.toNat))), (0, .ref (ad 0)), (1, .int v1), (2, .int v2)]) hx hb dX9_trace_5 rfl hl (by decide) rfl (fun ls hl => ?_)
      refine lv_aload_n hx hb dX9_trace_6 rfl (lv_at hl 0 rfl) ?_
      refine lv_ifnull hx hb dX9_trace_7 ?_
      refine lv_iload_n hx hb dX9_trace_10 rfl (lv_at hl 3 rfl) ?_
      refine lv_if_lt (tgt := 25) hx hb dX9_trace_11 (by decide) (fun c_5 => ?_) (fun c_5 => ?_)
      · simp only [i_lt, i_le, i_eq, ti_0] at c_5
        refine lv_iconst (v := -1) hx hb dX9_trace_25 (by decide) ?_
        refine W_msr2 (fun hm1 hm2 hm3 => ?_)
        exact W.iret (v := -1) hx hb hr (fun t ht hW => ⟨⟨-1, (), rfl, (by show (-1 : Int32) = k_trace v1 v2 (C9.mk n f T G K F); have hX := (k_trace.eq_1 v1 v2 (C9.mk n f T G K F)).symm; (repeat (first | dsimp +instances only [c9n, c9f, c9T, c9G, c9K, c9F, b_come, b_leave, b_fill, awB, b_settle, b_wake, b_take, f_take, b_gather, f_gather, b_ask, a_ask, b_tell, c_close, d_close, k_add, k_rem, sco, k_clrF, k_mem, k_rebind, k_bnd, k_beg0, k_beg1, b_giveN, b_giveR, f_open, b_hand, k_op, b_turn, wlB, b_beat, f_anew, b_wipe, b_off, k_sadd, fits, frP, cntB, b_trace, b_child, k_lat, cond_true, cond_false, Option.elim_none, Option.elim_some, Option.getD_none, Option.getD_some] at hX | rw [if_pos (by first | with_reducible assumption | omega)] at hX | rw [if_neg (by first | with_reducible assumption | omega)] at hX | rw [jx_of (by omega)] at hX)); first | exact hX | (exfalso; omega) | exact hX), by rw [ht]; exact hP, hD, by rw [ht]; omega, by rw [ht]; omega⟩, hS.F ht⟩) hS.2.2 dX9_trace_26
      · simp only [i_lt, i_le, i_eq, ti_0] at c_5
        refine lv_iload_n hx hb dX9_trace_14 rfl (lv_at hl 3 rfl) ?_
        refine lv_aload_n hx hb dX9_trace_15 rfl (lv_at hl 0 rfl) ?_
        exact by
         refine va_get (D := (dC, dI)) (ci := 7) (v := .ref (ad (50 + 16 * v1.toInt.toNat + 1))) (C := RX7) (T := TX7) (N := 15) hx hb hg gb_7 hown hK hP (50 + 16 * v1.toInt.toNat) (hQ.b0 hl_4) rfl 10 (by decide) (hg _ gm_fieldLink_RX9_151_ErrandGuild_Run_kin_LErrandGuild_Kin_) (fun _ h9 => h9) rfl dX9_trace_16 ?_
         refine va_get (D := (dC, dI)) (ci := 4) (v := .int (G v1.toInt.toNat 10)) (C := RX4) (T := TX4) (N := 9) hx hb hg gb_4 hown hK hP (50 + 16 * v1.toInt.toNat + 1) (hQ.b1 hl_4) rfl 2 (by decide) (hg _ gm_fieldLink_RX9_165_ErrandGuild_Kin_depth_I_) (fun _ h9 => h9) rfl dX9_trace_19 ?_
         refine lv_icmp_le (tgt := 27) hx hb dX9_trace_22 (by decide) (fun c_6 => ?_) (fun c_6 => ?_)
         · simp only [i_lt, i_le, i_eq] at c_6
           refine lv_aload_n hx hb dX9_trace_27 rfl (lv_at hl 0 rfl) ?_
           refine va_get (D := (dC, dI)) (ci := 7) (v := .ref (ad (50 + 16 * v1.toInt.toNat + 13))) (C := RX7) (T := TX7) (N := 15) hx hb hg gb_7 hown hK hP (50 + 16 * v1.toInt.toNat) (hQ.b0 hl_4) rfl 13 (by decide) (hg _ gm_fieldLink_RX9_201_ErrandGuild_Run_fault_LErrandGuild_Fault_) (fun _ h9 => h9) rfl dX9_trace_28 ?_
           refine va_get (D := (dC, dI)) (ci := 2) (v := .int (G v1.toInt.toNat 18)) (C := RX2) (T := TX2) (N := 5) hx hb hg gb_2 hown hK hP (50 + 16 * v1.toInt.toNat + 13) (hQ.b13 hl_4) rfl 1 (by decide) (hg _ gm_fieldLink_RX9_210_ErrandGuild_Fault_step_I_) (fun _ h9 => h9) rfl dX9_trace_31 ?_
           refine lv_istore (lv' := [(4, .int (G v1.toInt.toNat 18)), (3, .ref (ad (50 + 16 * v1.toInt.toNat))), (0, .ref (ad 0)), (1, .int v1), (2, .int v2)]) hx hb dX9_trace_34 hl (by decide) rfl (fun ls hl => ?_)
           refine lv_iconst (v := 0) hx hb dX9_trace_36 (by decide) ?_
           refine lv_istore (lv' := [(5, .int 0), (4, .int (G v1.toInt.toNat 18)), (3, .ref (ad (50 + 16 * v1.toInt.toNat))), (0, .ref (ad 0)), (1, .int v1), (2, .int v2)]) hx hb dX9_trace_37 hl (by decide) rfl (fun ls hl => ?_)
           have L39 : ∀ (fuel : Nat) (x_7 : Int32) (x_8 : Int32)  (jr_9 : Nat) (hjr_9 : jr_9 < M)   (H : Heap) (locs : List Loc) (ls : Array Slot), (2147483648 - x_8.toInt).toNat < fuel → (0 ≤ x_8.toInt) → (itr (b_trace G K) (fun p => 32 * G p.1 1 + p.2) x_8.toInt.toNat (v2.toInt.toNat - x_8.toInt.toNat) (jr_9, x_7) = k_trace v1 v2 (C9.mk n f T G K F)) → va_P (dC, dI) vwCl ws H → va_D A ws → va_S A s.heap H locs → lv_has ls 6 [(5, .int x_8), (4, .int x_7), (3, .ref (ad (50 + 16 * jr_9))), (0, .ref (ad 0)), (1, .int v1), (2, .int v2)] → W p l e (headSpec (.code yX9_trace cX9_trace 6 (some .int) :: gw) ({ frames := 2, cells := 0, slots := 0, locals := 43 })).room s m ([.ref (ad 0), .int v1, .int v2] : List Value).toArray below meth c H locs 0 0 (MQ below (va_Qi (fun (r : Int32) (u : Unit) => r = k_trace v1 v2 (C9.mk n f T G K F)) (fun _ t => va_P (dC, dI) vwCl ws t.heap ∧ va_D A ws ∧ hpS t.heap ≤ (hpS s.heap) ∧ t.heap.size ≤ s.heap.size) A) ([.ref (ad 0), .int v1, .int v2] : List Value).toArray s 0 0 A) (F0 m 39 ls []) := by
             intro fuel
             induction fuel with
             | zero => intro x_7 x_8 jr_9 hjr_9 H locs ls hm; exact absurd hm (Nat.not_lt_zero _)
             | succ fuel_14 ih_13 =>
               intro x_7 x_8 jr_9 hjr_9 H locs ls hm_10 v_11 v_12 hP hD hS hl
               have ub_ := i_ub v2
               exact by
                refine lv_iload hx hb dX9_trace_39 (lv_at hl 0 rfl) ?_
                refine lv_iload_n hx hb dX9_trace_41 rfl (lv_at hl 5 rfl) ?_
                refine lv_icmp_ge (tgt := 74) hx hb dX9_trace_42 (by decide) (fun c_15 => ?_) (fun c_15 => ?_)
                · simp only [i_lt, i_le, i_eq] at c_15
                  refine lv_bipush (v := 32) hx hb dX9_trace_74 (by decide) ?_
                  refine lv_aload_n hx hb dX9_trace_76 rfl (lv_at hl 2 rfl) ?_
                  refine va_get (D := (dC, dI)) (ci := 7) (v := .int (G jr_9 1)) (C := RX7) (T := TX7) (N := 15) hx hb hg gb_7 hown hK hP (50 + 16 * jr_9) (hQ.b0 hjr_9) rfl 1 (by decide) (hg _ gm_fieldLink_RX9_148_ErrandGuild_Run_errand_I_) (fun _ h9 => h9) rfl dX9_trace_77 ?_
                  refine lv_imul hx hb dX9_trace_80 ?_
                  refine lv_topi (fun z_16 ez_16 => ?_)
                  refine lv_iload hx hb dX9_trace_81 (lv_at hl 1 rfl) ?_
                  refine lv_iadd hx hb dX9_trace_83 ?_
                  refine lv_topi (fun z_17 ez_17 => ?_)
                  refine W_msr2 (fun hm1 hm2 hm3 => ?_)
                  exact W.iret (v := z_17) hx hb hr (fun t ht hW => ⟨⟨z_17, (), rfl, (by show z_17 = k_trace v1 v2 (C9.mk n f T G K F); subst ez_16; subst ez_17; have hX := v_12; (first | rw [itr_go (by omega)] at hX | rw [itr_end (by omega)] at hX); (repeat (first | dsimp +instances only [c9n, c9f, c9T, c9G, c9K, c9F, b_come, b_leave, b_fill, awB, b_settle, b_wake, b_take, f_take, b_gather, f_gather, b_ask, a_ask, b_tell, c_close, d_close, k_add, k_rem, sco, k_clrF, k_mem, k_rebind, k_bnd, k_beg0, k_beg1, b_giveN, b_giveR, f_open, b_hand, k_op, b_turn, wlB, b_beat, f_anew, b_wipe, b_off, k_sadd, fits, frP, cntB, b_trace, b_child, k_lat, cond_true, cond_false, Option.elim_none, Option.elim_some, Option.getD_none, Option.getD_some] at hX | rw [if_pos (by first | with_reducible assumption | omega)] at hX | rw [if_neg (by first | with_reducible assumption | omega)] at hX | rw [jx_of (by omega)] at hX)); first | exact hX | (exfalso; omega) | exact hX), by rw [ht]; exact hP, hD, by rw [ht]; omega, by rw [ht]; omega⟩, hS.F ht⟩) hS.2.2 dX9_trace_84
                · simp only [i_lt, i_le, i_eq] at c_15
                  exact by
                   refine lv_aload_n hx hb dX9_trace_45 rfl (lv_at hl 2 rfl) ?_
                   refine va_get (D := (dC, dI)) (ci := 7) (v := .ref (ad (50 + 16 * jr_9 + 1))) (C := RX7) (T := TX7) (N := 15) hx hb hg gb_7 hown hK hP (50 + 16 * jr_9) (hQ.b0 hjr_9) rfl 10 (by decide) (hg _ gm_fieldLink_RX9_151_ErrandGuild_Run_kin_LErrandGuild_Kin_) (fun _ h9 => h9) rfl dX9_trace_46 ?_
                   refine va_get (D := (dC, dI)) (ci := 4) (v := .int (G jr_9 11)) (C := RX4) (T := TX4) (N := 9) hx hb hg gb_4 hown hK hP (50 + 16 * jr_9 + 1) (hQ.b1 hjr_9) rfl 3 (by decide) (hg _ gm_fieldLink_RX9_222_ErrandGuild_Kin_handedAt_I_) (fun _ h9 => h9) rfl dX9_trace_49 ?_
                   refine lv_istore (lv' := [(4, .int (G jr_9 11)), (5, .int x_8), (3, .ref (ad (50 + 16 * jr_9))), (0, .ref (ad 0)), (1, .int v1), (2, .int v2)]) hx hb dX9_trace_52 hl (by decide) rfl (fun ls hl => ?_)
                   refine lv_aload_n hx hb dX9_trace_54 rfl (lv_at hl 2 rfl) ?_
                   refine va_get (D := (dC, dI)) (ci := 7) (v := .ref (ad (50 + 16 * jr_9 + 1))) (C := RX7) (T := TX7) (N := 15) hx hb hg gb_7 hown hK hP (50 + 16 * jr_9) (hQ.b0 hjr_9) rfl 10 (by decide) (hg _ gm_fieldLink_RX9_151_ErrandGuild_Run_kin_LErrandGuild_Kin_) (fun _ h9 => h9) rfl dX9_trace_55 ?_
                   refine va_get (D := (dC, dI)) (ci := 4) (v := va_rf (rA9 ad (K jr_9 0))) (C := RX4) (T := TX4) (N := 9) hx hb hg gb_4 hown hK hP (50 + 16 * jr_9 + 1) (hQ.b1 hjr_9) rfl 0 (by decide) (hg _ gm_fieldLink_RX9_155_ErrandGuild_Kin_giver_LErrandGuild_Run_) (fun _ h9 => h9) rfl dX9_trace_58 ?_
                   rcases eo_18 : K jr_9 0 with _ | j_19
                   · refine W.eq (g2 := F0 m 61 ls [.null]) (by first | rfl | (rw [eo_18]; rfl)) ?_
                     refine lv_astore_nN (lv' := [(3, .null), (4, .int (G jr_9 11)), (5, .int x_8), (0, .ref (ad 0)), (1, .int v1), (2, .int v2)]) hx hb dX9_trace_61 rfl hl (by decide) rfl (fun ls hl => ?_)
                     refine lv_aload_nN hx hb dX9_trace_62 rfl (lv_at hl 0 rfl) ?_
                     refine lv_ifnonnullN hx hb dX9_trace_63 ?_
                     exact by
                      refine lv_iconst (v := -1) hx hb dX9_trace_66 (by decide) ?_
                      refine W_msr2 (fun hm1 hm2 hm3 => ?_)
                      exact W.iret (v := -1) hx hb hr (fun t ht hW => ⟨⟨-1, (), rfl, (by show (-1 : Int32) = k_trace v1 v2 (C9.mk n f T G K F); have hX := v_12; (first | rw [itr_go (by omega)] at hX | rw [itr_end (by omega)] at hX); (repeat (first | dsimp +instances only [c9n, c9f, c9T, c9G, c9K, c9F, b_come, b_leave, b_fill, awB, b_settle, b_wake, b_take, f_take, b_gather, f_gather, b_ask, a_ask, b_tell, c_close, d_close, k_add, k_rem, sco, k_clrF, k_mem, k_rebind, k_bnd, k_beg0, k_beg1, b_giveN, b_giveR, f_open, b_hand, k_op, b_turn, wlB, b_beat, f_anew, b_wipe, b_off, k_sadd, fits, frP, cntB, b_trace, b_child, k_lat, cond_true, cond_false, Option.elim_none, Option.elim_some, Option.getD_none, Option.getD_some] at hX | rw [eo_18] at hX | rw [if_pos (by first | with_reducible assumption | omega)] at hX | rw [if_neg (by first | with_reducible assumption | omega)] at hX | rw [jx_of (by omega)] at hX)); first | exact hX | (exfalso; omega) | exact hX), by rw [ht]; exact hP, hD, by rw [ht]; omega, by rw [ht]; omega⟩, hS.F ht⟩) hS.2.2 dX9_trace_67
                   · refine W.eq (g2 := F0 m 61 ls [.ref (ad (50 + 16 * j_19))]) (by first | rfl | (rw [eo_18]; rfl)) ?_
                     have hj_19 : j_19 < M := h_i3 _ _ _ hjr_9 eo_18
                     refine lv_astore_n (lv' := [(3, .ref (ad (50 + 16 * j_19))), (4, .int (G jr_9 11)), (5, .int x_8), (0, .ref (ad 0)), (1, .int v1), (2, .int v2)]) hx hb dX9_trace_61 rfl hl (by decide) rfl (fun ls hl => ?_)
                     refine lv_aload_n hx hb dX9_trace_62 rfl (lv_at hl 0 rfl) ?_
                     refine lv_ifnonnull (tgt := 68) hx hb dX9_trace_63 (by decide) ?_
                     obtain ⟨y_20, ey_20⟩ : ∃ q : Int32, q = x_8 + (1) := ⟨_, rfl⟩
                     refine lv_iinc (v := y_20) (lv' := [(5, .int y_20), (3, .ref (ad (50 + 16 * j_19))), (4, .int (G jr_9 11)), (0, .ref (ad 0)), (1, .int v1), (2, .int v2)]) hx hb dX9_trace_68 hl (k := 2) rfl (by rw [ey_20]; rfl) (by decide) rfl (fun ls hl => ?_)
                     have ty_20 : y_20.toInt = x_8.toInt + (1) := ar_add rfl ti_1 ey_20 (by omega)
                     refine lv_goto (tgt := 39) hx hb dX9_trace_71 (by decide) ?_
                     exact ih_13 (G jr_9 11) y_20  j_19 hj_19   H locs ls (by show (2147483648 - y_20.toInt).toNat < _; omega) (by show 0 ≤ y_20.toInt; omega) (by show itr (b_trace G K) (fun p => 32 * G p.1 1 + p.2) y_20.toInt.toNat (v2.toInt.toNat - y_20.toInt.toNat) (j_19, (G jr_9 11)) = k_trace v1 v2 (C9.mk n f T G K F); have hX := v_12; (first | rw [itr_go (by omega)] at hX | rw [itr_end (by omega)] at hX); (repeat (first | dsimp +instances only [c9n, c9f, c9T, c9G, c9K, c9F, b_come, b_leave, b_fill, awB, b_settle, b_wake, b_take, f_take, b_gather, f_gather, b_ask, a_ask, b_tell, c_close, d_close, k_add, k_rem, sco, k_clrF, k_mem, k_rebind, k_bnd, k_beg0, k_beg1, b_giveN, b_giveR, f_open, b_hand, k_op, b_turn, wlB, b_beat, f_anew, b_wipe, b_off, k_sadd, fits, frP, cntB, b_trace, b_child, k_lat, cond_true, cond_false, Option.elim_none, Option.elim_some, Option.getD_none, Option.getD_some] at hX | rw [eo_18] at hX | rw [if_pos (by first | with_reducible assumption | omega)] at hX | rw [if_neg (by first | with_reducible assumption | omega)] at hX | rw [jx_of (by omega)] at hX)); (rw [show y_20.toInt.toNat = x_8.toInt.toNat + 1 by omega]); first | exact hX | (exfalso; omega) | exact hX) hP hD hS (lv_sub hl [0, 2, 1, 3, 4, 5] rfl)
           exact L39 _ (G v1.toInt.toNat 18) (0 : Int32)  v1.toInt.toNat hl_4   _ _ _ (Nat.lt_succ_self _) (by have t_1 := ti_0; show 0 ≤ (0 : Int32).toInt; omega) (by show itr (b_trace G K) (fun p => 32 * G p.1 1 + p.2) (0 : Int32).toInt.toNat (v2.toInt.toNat - (0 : Int32).toInt.toNat) (v1.toInt.toNat, (G v1.toInt.toNat 18)) = k_trace v1 v2 (C9.mk n f T G K F); have hX := (k_trace.eq_1 v1 v2 (C9.mk n f T G K F)).symm; (repeat (first | dsimp +instances only [c9n, c9f, c9T, c9G, c9K, c9F, b_come, b_leave, b_fill, awB, b_settle, b_wake, b_take, f_take, b_gather, f_gather, b_ask, a_ask, b_tell, c_close, d_close, k_add, k_rem, sco, k_clrF, k_mem, k_rebind, k_bnd, k_beg0, k_beg1, b_giveN, b_giveR, f_open, b_hand, k_op, b_turn, wlB, b_beat, f_anew, b_wipe, b_off, k_sadd, fits, frP, cntB, b_trace, b_child, k_lat, cond_true, cond_false, Option.elim_none, Option.elim_some, Option.getD_none, Option.getD_some] at hX | rw [if_pos (by first | with_reducible assumption | omega)] at hX | rw [if_neg (by first | with_reducible assumption | omega)] at hX | rw [jx_of (by omega)] at hX)); (skip); first | exact hX | (exfalso; omega) | exact hX) hP hD hS (lv_sub hl [0, 1, 2, 3, 4, 5] rfl)
         · simp only [i_lt, i_le, i_eq] at c_6
           refine lv_iconst (v := -1) hx hb dX9_trace_25 (by decide) ?_
           refine W_msr2 (fun hm1 hm2 hm3 => ?_)
           exact W.iret (v := -1) hx hb hr (fun t ht hW => ⟨⟨-1, (), rfl, (by show (-1 : Int32) = k_trace v1 v2 (C9.mk n f T G K F); have hX := (k_trace.eq_1 v1 v2 (C9.mk n f T G K F)).symm; (repeat (first | dsimp +instances only [c9n, c9f, c9T, c9G, c9K, c9F, b_come, b_leave, b_fill, awB, b_settle, b_wake, b_take, f_take, b_gather, f_gather, b_ask, a_ask, b_tell, c_close, d_close, k_add, k_rem, sco, k_clrF, k_mem, k_rebind, k_bnd, k_beg0, k_beg1, b_giveN, b_giveR, f_open, b_hand, k_op, b_turn, wlB, b_beat, f_anew, b_wipe, b_off, k_sadd, fits, frP, cntB, b_trace, b_child, k_lat, cond_true, cond_false, Option.elim_none, Option.elim_some, Option.getD_none, Option.getD_some] at hX | rw [if_pos (by first | with_reducible assumption | omega)] at hX | rw [if_neg (by first | with_reducible assumption | omega)] at hX | rw [jx_of (by omega)] at hX)); first | exact hX | (exfalso; omega) | exact hX), by rw [ht]; exact hP, hD, by rw [ht]; omega, by rw [ht]; omega⟩, hS.F ht⟩) hS.2.2 dX9_trace_26
   · have w_3 : ¬ ((0 ≤ v1.toInt ∧ v1.toInt < (n 0).toInt) ∧ (G v1.toInt.toNat 2).toInt = 4) := w_3
     refine W.eq (g2 := F0 m 5 ls [.null]) rfl ?_
     refine lv_astore_nN (lv' := [(3, .null), (0, .ref (ad 0)), (1, .int v1), (2, .int v2)]) hx hb dX9_trace_5 rfl hl (by decide) rfl (fun ls hl => ?_)
     refine lv_aload_nN hx hb dX9_trace_6 rfl (lv_at hl 0 rfl) ?_
     refine lv_ifnullN (tgt := 25) hx hb dX9_trace_7 (by decide) ?_
     refine lv_iconst (v := -1) hx hb dX9_trace_25 (by decide) ?_
     refine W_msr2 (fun hm1 hm2 hm3 => ?_)
     exact W.iret (v := -1) hx hb hr (fun t ht hW => ⟨⟨-1, (), rfl, (by show (-1 : Int32) = k_trace v1 v2 (C9.mk n f T G K F); have hX := (k_trace.eq_1 v1 v2 (C9.mk n f T G K F)).symm; (repeat (first | dsimp +instances only [c9n, c9f, c9T, c9G, c9K, c9F, b_come, b_leave, b_fill, awB, b_settle, b_wake, b_take, f_take, b_gather, f_gather, b_ask, a_ask, b_tell, c_close, d_close, k_add, k_rem, sco, k_clrF, k_mem, k_rebind, k_bnd, k_beg0, k_beg1, b_giveN, b_giveR, f_open, b_hand, k_op, b_turn, wlB, b_beat, f_anew, b_wipe, b_off, k_sadd, fits, frP, cntB, b_trace, b_child, k_lat, cond_true, cond_false, Option.elim_none, Option.elim_some, Option.getD_none, Option.getD_some] at hX | rw [if_pos (by first | with_reducible assumption | omega)] at hX | rw [if_neg (by first | with_reducible assumption | omega)] at hX | rw [jx_of (by omega)] at hX)); first | exact hX | (exfalso; omega) | exact hX), by rw [ht]; exact hP, hD, by rw [ht]; omega, by rw [ht]; omega⟩, hS.F ht⟩) hS.2.2 dX9_trace_26

set_option maxHeartbeats 8000000 in
set_option maxRecDepth 100000 in
theorem c_X9_child (l : Launch) (dC : Nat → ClassId) (dI : Nat → Nat → Nat) (kc : Nat → ClassId) (ws : va_W) (ad : Nat → Nat) (ga : Nat → Nat) (gc : Nat → Nat) (M : Nat) (n : Nat → Int32) (f : Nat → Nat → Int32) (T : Nat → Option Nat) (G : Nat → Nat → Int32) (K : Nat → Nat → Option Nat) (F : Nat → Nat → Nat → Int32) (R : Nat) (v1 : Int32) (v2 : Int32) (sz hz : Nat) (hQ : Pic9 kc ws ad ga gc M n f T G K F) (hI : I9 M n f T gc G K F R) : Met l yX9_child (.code yX9_child cX9_child 6 (some .int) :: gw) ({ frames := 1, cells := 0, slots := 0, locals := 21 }) (va_Pc [.ref (ad 0), .int v1, .int v2] (fun U => U.heap.size = sz ∧ hpS U.heap = hz ∧ va_P (dC, dI) vwCl ws U.heap ∧ va_K (dC, dI) vwCl (t9 kc) U ∧ va_D (fun _ => True) ws ∧ nx U)) (va_Qi (fun (r : Int32) (u : Unit) => r = k_child v1 v2 (C9.mk n f T G K F)) (fun _ t => va_P (dC, dI) vwCl ws t.heap ∧ va_D (va_A ws sz) ws ∧ hpS t.heap ≤ hz ∧ t.heap.size ≤ sz) (va_A ws sz)) 0 0 (va_A ws sz) := by
  refine Met.ofW (cc := cX9_child) (maxL := 6) (ret := (some .int)) (by decide) rfl ?_
  intro p e s m args below meth c s₁ B hml hv
  obtain ⟨rfl, hsz, rfl, hP, hK, hD0, hN⟩ := hv
  have hx := B.exec
  have hb := B.bytes
  have hr := B.returns
  have hts := atoms_spec (ws := .code yX9_child cX9_child 6 (some .int) :: gw) B.pre
  have hg : ∀ w ∈ gw, w.before _ s = true := fun w h => hts w (List.mem_cons_of_mem _ h)
  have hown : s.vm.findClass RX9 = some m.cls := findClass_of_methodNamed B.named
  have hlocks := B.notSynchronized
  subst hsz
  have hD := hD0.self (sz := s.heap.size)
  generalize hAe : va_A ws s.heap.size = A at hD ⊢
  have hA : ∀ q : Nat, s.heap.size ≤ q → A q := fun q h => by rw [← hAe]; exact Or.inr h
  clear hAe
  have hS : va_S A s.heap s.heap [] := va_S.rf
  have hl := lv_entry ([.ref (ad 0), .int v1, .int v2]) (n := 6) (Nat.le_of_ble_eq_true rfl)
  rw [lg_entry_eq]
  generalize (lg_sl ([.ref (ad 0), .int v1, .int v2]) ++ List.replicate (6 - (lg_sl ([.ref (ad 0), .int v1, .int v2])).length) Slot.unset).toArray = ls at hl ⊢
  have hl : lv_has ls 6 [(0, .ref (ad 0)), (1, .int v1), (2, .int v2)] := hl
  obtain ⟨h_i1, h_i2, h_i3, h_i4, h_i5, h_i6, h_i7, h_i8, h_i9, h_i10, h_i11⟩ := id hI
  have q1_ := h_i1
  unfold i1 at q1_
  exact by
   refine lv_aload_n hx hb dX9_child_0 rfl (lv_at hl 0 rfl) ?_
   refine lv_iload_n hx hb dX9_child_1 rfl (lv_at hl 1 rfl) ?_
   have hFc := free_all hD hS hA
   refine va_callq (va_runV (As := [.int v1]) (rest := []) ⟨hx, hb, hml, hown, hg⟩ (c_X9_runAt l dC dI kc ws ad ga gc M n f T G K F R v1 s.heap.size (hpS s.heap) hQ ⟨h_i1, h_i2, h_i3, h_i4, h_i5, h_i6, h_i7, h_i8, h_i9, h_i10, h_i11⟩) (cwV 1 hg (gw_V gm_methodLink_RX9_134_yX9_runAt gm_instanceMethod_yX9_runAt gm_selects_RX9_yX9_runAt_yX9_runAt gm_initialized_RX9 gm_code_yX9_runAt_cX9_runAt_2_some_object_ErrandGuild_Run_) rfl rfl rfl (by decide +kernel) ⟨Nat.le_of_ble_eq_true rfl, Nat.le_of_ble_eq_true rfl⟩) ⟨fun a U g mk q => by obtain ⟨q0, q1, q2, qP, qK, qD, qN⟩ := q; exact ⟨q0, q1, q2, qP, va_K.moved (u := U) (U := U.calling g mk a) (Vm.Alike.refl U.vm) qK, qD, nx_same (u := U) (U := U.calling g mk a) rfl qN⟩, va_recv hK hP (ci := 9) (q0 := 0) rfl hQ.x0, fun U hU hW => ⟨rfl, by rw [hU], by rw [hU], by rw [hU]; exact hP, va_K.moved hW.alike hK, hD.weaken (fun _ _ _ _ => trivial), nx_warm hW hN⟩⟩ rfl rfl hl.1 rfl (lv_room (Nat.le_of_ble_eq_true rfl)) dX9_child_2 ⟨Nat.le_of_ble_eq_true rfl, Nat.le_of_ble_eq_true rfl⟩) hS (fun q _ h => hFc q h) hFc (fun r_1 u_2 t H1 locs ht hvm hw hB hz1 hk1 hS => ?_)
   obtain ⟨hP, hD, hy1, hy2⟩ := hB
   rw [ht] at hP hy1 hy2
   have hD := hD.weaken (fun k q _ h => hFc _ h)
   have q1_ := h_i1
   unfold i1 at q1_
   generalize H1 = H at hP hS ⊢
   rcases hw with ⟨rfl, w_3⟩ | ⟨rfl, w_3⟩
   · have w_3 : (0 ≤ v1.toInt ∧ v1.toInt < (n 0).toInt) := w_3
     have hl_4 : v1.toInt.toNat < M := by omega
     refine W.eq (g2 := F0 m 5 ls [.ref (ad (50 + 16 * v1.toInt.toNat))]) rfl ?_
     exact by
      refine lv_astore_n (lv' := [(3, .ref (ad (50 + 16 * v1.toInt.toNat))), (0, .ref (ad 0)), (1, .int v1), (2, .int v2)]) hx hb dX9_child_5 rfl hl (by decide) rfl (fun ls hl => ?_)
      refine lv_aload_n hx hb dX9_child_6 rfl (lv_at hl 0 rfl) ?_
      refine lv_ifnull hx hb dX9_child_7 ?_
      refine lv_iload_n hx hb dX9_child_10 rfl (lv_at hl 3 rfl) ?_
      refine lv_if_lt (tgt := 25) hx hb dX9_child_11 (by decide) (fun c_5 => ?_) (fun c_5 => ?_)
      · simp only [i_lt, i_le, i_eq, ti_0] at c_5
        refine lv_iconst (v := -1) hx hb dX9_child_25 (by decide) ?_
        refine W_msr2 (fun hm1 hm2 hm3 => ?_)
        exact W.iret (v := -1) hx hb hr (fun t ht hW => ⟨⟨-1, (), rfl, (by show (-1 : Int32) = k_child v1 v2 (C9.mk n f T G K F); have hX := (k_child.eq_1 v1 v2 (C9.mk n f T G K F)).symm; (repeat (first | dsimp +instances only [c9n, c9f, c9T, c9G, c9K, c9F, b_come, b_leave, b_fill, awB, b_settle, b_wake, b_take, f_take, b_gather, f_gather, b_ask, a_ask, b_tell, c_close, d_close, k_add, k_rem, sco, k_clrF, k_mem, k_rebind, k_bnd, k_beg0, k_beg1, b_giveN, b_giveR, f_open, b_hand, k_op, b_turn, wlB, b_beat, f_anew, b_wipe, b_off, k_sadd, fits, frP, cntB, b_trace, b_child, k_lat, cond_true, cond_false, Option.elim_none, Option.elim_some, Option.getD_none, Option.getD_some] at hX | rw [if_pos (by first | with_reducible assumption | omega)] at hX | rw [if_neg (by first | with_reducible assumption | omega)] at hX | rw [jx_of (by omega)] at hX)); first | exact hX | (exfalso; omega) | exact hX), by rw [ht]; exact hP, hD, by rw [ht]; omega, by rw [ht]; omega⟩, hS.F ht⟩) hS.2.2 dX9_child_26
      · simp only [i_lt, i_le, i_eq, ti_0] at c_5
        refine lv_iload_n hx hb dX9_child_14 rfl (lv_at hl 3 rfl) ?_
        refine lv_aload_n hx hb dX9_child_15 rfl (lv_at hl 0 rfl) ?_
        exact by
         refine va_get (D := (dC, dI)) (ci := 7) (v := .ref (ad (50 + 16 * v1.toInt.toNat + 1))) (C := RX7) (T := TX7) (N := 15) hx hb hg gb_7 hown hK hP (50 + 16 * v1.toInt.toNat) (hQ.b0 hl_4) rfl 10 (by decide) (hg _ gm_fieldLink_RX9_151_ErrandGuild_Run_kin_LErrandGuild_Kin_) (fun _ h9 => h9) rfl dX9_child_16 ?_
         refine va_get (D := (dC, dI)) (ci := 4) (v := .int (G v1.toInt.toNat 13)) (C := RX4) (T := TX4) (N := 9) hx hb hg gb_4 hown hK hP (50 + 16 * v1.toInt.toNat + 1) (hQ.b1 hl_4) rfl 8 (by decide) (hg _ gm_fieldLink_RX9_192_ErrandGuild_Kin_children_I_) (fun _ h9 => h9) rfl dX9_child_19 ?_
         refine lv_icmp_lt (tgt := 27) hx hb dX9_child_22 (by decide) (fun c_6 => ?_) (fun c_6 => ?_)
         · simp only [i_lt, i_le, i_eq] at c_6
           refine lv_iconst (v := 0) hx hb dX9_child_27 (by decide) ?_
           refine lv_istore (lv' := [(4, .int 0), (3, .ref (ad (50 + 16 * v1.toInt.toNat))), (0, .ref (ad 0)), (1, .int v1), (2, .int v2)]) hx hb dX9_child_28 hl (by decide) rfl (fun ls hl => ?_)
           refine lv_aload_n hx hb dX9_child_30 rfl (lv_at hl 1 rfl) ?_
           refine va_get (D := (dC, dI)) (ci := 7) (v := .ref (ad (50 + 16 * v1.toInt.toNat + 1))) (C := RX7) (T := TX7) (N := 15) hx hb hg gb_7 hown hK hP (50 + 16 * v1.toInt.toNat) (hQ.b0 hl_4) rfl 10 (by decide) (hg _ gm_fieldLink_RX9_151_ErrandGuild_Run_kin_LErrandGuild_Kin_) (fun _ h9 => h9) rfl dX9_child_31 ?_
           refine va_get (D := (dC, dI)) (ci := 4) (v := va_rf (rA9 ad (K v1.toInt.toNat 2))) (C := RX4) (T := TX4) (N := 9) hx hb hg gb_4 hown hK hP (50 + 16 * v1.toInt.toNat + 1) (hQ.b1 hl_4) rfl 5 (by decide) (hg _ gm_fieldLink_RX9_225_ErrandGuild_Kin_firstChild_LErrandGuild_Run_) (fun _ h9 => h9) rfl dX9_child_34 ?_
           rcases eo_7 : K v1.toInt.toNat 2 with _ | j_8
           · refine W.eq (g2 := F0 m 37 ls [.null]) (by first | rfl | (rw [eo_7]; rfl)) ?_
             refine lv_astoreN (lv' := [(5, .null), (4, .int 0), (3, .ref (ad (50 + 16 * v1.toInt.toNat))), (0, .ref (ad 0)), (1, .int v1), (2, .int v2)]) hx hb dX9_child_37 hl (by decide) rfl (fun ls hl => ?_)
             have L39 : ∀ (fuel : Nat) (x_9 : Int32) (o_10 : Option Nat)    (H : Heap) (locs : List Loc) (ls : Array Slot), chM M o_10 < fuel → (∀ j : Nat, o_10 = some j → j < M) → (cit K (b_child G v2) (fun _ => -1) 201 o_10 x_9 = k_child v1 v2 (C9.mk n f T G K F)) → va_P (dC, dI) vwCl ws H → va_D A ws → va_S A s.heap H locs → lv_has ls 6 [(5, va_rf (rA9 ad o_10)), (4, .int x_9), (3, .ref (ad (50 + 16 * v1.toInt.toNat))), (0, .ref (ad 0)), (1, .int v1), (2, .int v2)] → W p l e (headSpec (.code yX9_child cX9_child 6 (some .int) :: gw) ({ frames := 1, cells := 0, slots := 0, locals := 21 })).room s m ([.ref (ad 0), .int v1, .int v2] : List Value).toArray below meth c H locs 0 0 (MQ below (va_Qi (fun (r : Int32) (u : Unit) => r = k_child v1 v2 (C9.mk n f T G K F)) (fun _ t => va_P (dC, dI) vwCl ws t.heap ∧ va_D A ws ∧ hpS t.heap ≤ (hpS s.heap) ∧ t.heap.size ≤ s.heap.size) A) ([.ref (ad 0), .int v1, .int v2] : List Value).toArray s 0 0 A) (F0 m 39 ls []) := by
               intro fuel
               induction fuel with
               | zero => intro x_9 o_10 H locs ls hm; exact absurd hm (Nat.not_lt_zero _)
               | succ fuel_15 ih_14 =>
                 intro x_9 o_10 H locs ls hm_11 v_12 v_13 hP hD hS hl
                 rcases o_10 with _ | j_16
                 · have hl : lv_has ls 6 [(5, .null), (4, .int x_9), (3, .ref (ad (50 + 16 * v1.toInt.toNat))), (0, .ref (ad 0)), (1, .int v1), (2, .int v2)] := hl
                   exact by
                    refine lv_aloadN hx hb dX9_child_39 (lv_at hl 0 rfl) ?_
                    refine lv_ifnullN (tgt := 72) hx hb dX9_child_41 (by decide) ?_
                    refine lv_iconst (v := -1) hx hb dX9_child_72 (by decide) ?_
                    refine W_msr2 (fun hm1 hm2 hm3 => ?_)
                    exact W.iret (v := -1) hx hb hr (fun t ht hW => ⟨⟨-1, (), rfl, (by show (-1 : Int32) = k_child v1 v2 (C9.mk n f T G K F); have hX := v_13; (first | rw [cit_none] at hX | rw [cit_go h_i3 h_i4 (by omega) (by first | with_reducible assumption | omega)] at hX); (repeat (first | dsimp +instances only [c9n, c9f, c9T, c9G, c9K, c9F, b_come, b_leave, b_fill, awB, b_settle, b_wake, b_take, f_take, b_gather, f_gather, b_ask, a_ask, b_tell, c_close, d_close, k_add, k_rem, sco, k_clrF, k_mem, k_rebind, k_bnd, k_beg0, k_beg1, b_giveN, b_giveR, f_open, b_hand, k_op, b_turn, wlB, b_beat, f_anew, b_wipe, b_off, k_sadd, fits, frP, cntB, b_trace, b_child, k_lat, cond_true, cond_false, Option.elim_none, Option.elim_some, Option.getD_none, Option.getD_some] at hX | rw [eo_7] at hX | rw [if_pos (by first | with_reducible assumption | omega)] at hX | rw [if_neg (by first | with_reducible assumption | omega)] at hX | rw [jx_of (by omega)] at hX)); first | exact hX | (exfalso; omega) | exact hX), by rw [ht]; exact hP, hD, by rw [ht]; omega, by rw [ht]; omega⟩, hS.F ht⟩) hS.2.2 dX9_child_73
                 · have hl : lv_has ls 6 [(5, .ref (ad (50 + 16 * j_16))), (4, .int x_9), (3, .ref (ad (50 + 16 * v1.toInt.toNat))), (0, .ref (ad 0)), (1, .int v1), (2, .int v2)] := hl
                   have hj_16 : j_16 < M := v_12 _ rfl
                   refine lv_aload hx hb dX9_child_39 (lv_at hl 0 rfl) ?_
                   refine lv_ifnull hx hb dX9_child_41 ?_
                   refine lv_iload hx hb dX9_child_44 (lv_at hl 1 rfl) ?_
                   refine lv_iload_n hx hb dX9_child_46 rfl (lv_at hl 5 rfl) ?_
                   refine lv_icmp_ne (tgt := 56) hx hb dX9_child_47 (by decide) (fun c_17 => ?_) (fun c_17 => ?_)
                   · simp only [i_lt, i_le, i_eq] at c_17
                     obtain ⟨y_18, ey_18⟩ : ∃ q : Int32, q = x_9 + (1) := ⟨_, rfl⟩
                     refine lv_iinc (v := y_18) (lv' := [(4, .int y_18), (5, .ref (ad (50 + 16 * j_16))), (3, .ref (ad (50 + 16 * v1.toInt.toNat))), (0, .ref (ad 0)), (1, .int v1), (2, .int v2)]) hx hb dX9_child_56 hl (k := 1) rfl (by rw [ey_18]; rfl) (by decide) rfl (fun ls hl => ?_)
                     refine lv_aload hx hb dX9_child_59 (lv_at hl 1 rfl) ?_
                     refine va_get (D := (dC, dI)) (ci := 7) (v := .ref (ad (50 + 16 * j_16 + 1))) (C := RX7) (T := TX7) (N := 15) hx hb hg gb_7 hown hK hP (50 + 16 * j_16) (hQ.b0 hj_16) rfl 10 (by decide) (hg _ gm_fieldLink_RX9_151_ErrandGuild_Run_kin_LErrandGuild_Kin_) (fun _ h9 => h9) rfl dX9_child_61 ?_
                     exact by
                      refine va_get (D := (dC, dI)) (ci := 4) (v := va_rf (rA9 ad (K j_16 4))) (C := RX4) (T := TX4) (N := 9) hx hb hg gb_4 hown hK hP (50 + 16 * j_16 + 1) (hQ.b1 hj_16) rfl 7 (by decide) (hg _ gm_fieldLink_RX9_228_ErrandGuild_Kin_nextSibling_LErrandGuild_Run_) (fun _ h9 => h9) rfl dX9_child_64 ?_
                      rcases eo_19 : K j_16 4 with _ | j_20
                      · refine W.eq (g2 := F0 m 67 ls [.null]) (by first | rfl | (rw [eo_19]; rfl)) ?_
                        refine lv_astoreN (lv' := [(5, .null), (4, .int y_18), (3, .ref (ad (50 + 16 * v1.toInt.toNat))), (0, .ref (ad 0)), (1, .int v1), (2, .int v2)]) hx hb dX9_child_67 hl (by decide) rfl (fun ls hl => ?_)
                        refine lv_goto (tgt := 39) hx hb dX9_child_69 (by decide) ?_
                        exact ih_14 y_18 none    H locs ls (by simp only [chM] at *; omega) (fun _ h => by cases h) (by show cit K (b_child G v2) (fun _ => -1) 201 none y_18 = k_child v1 v2 (C9.mk n f T G K F); subst ey_18; have hX := v_13; (first | rw [cit_none] at hX | rw [cit_go h_i3 h_i4 (by omega) (by first | with_reducible assumption | omega)] at hX); (repeat (first | dsimp +instances only [c9n, c9f, c9T, c9G, c9K, c9F, b_come, b_leave, b_fill, awB, b_settle, b_wake, b_take, f_take, b_gather, f_gather, b_ask, a_ask, b_tell, c_close, d_close, k_add, k_rem, sco, k_clrF, k_mem, k_rebind, k_bnd, k_beg0, k_beg1, b_giveN, b_giveR, f_open, b_hand, k_op, b_turn, wlB, b_beat, f_anew, b_wipe, b_off, k_sadd, fits, frP, cntB, b_trace, b_child, k_lat, cond_true, cond_false, Option.elim_none, Option.elim_some, Option.getD_none, Option.getD_some] at hX | rw [eo_7] at hX | rw [eo_19] at hX | rw [if_pos (by first | with_reducible assumption | omega)] at hX | rw [if_neg (by first | with_reducible assumption | omega)] at hX | rw [jx_of (by omega)] at hX)); first | exact hX | (exfalso; omega) | exact hX) hP hD hS (lv_sub hl [0, 1, 2, 3, 4, 5] rfl)
                      · refine W.eq (g2 := F0 m 67 ls [.ref (ad (50 + 16 * j_20))]) (by first | rfl | (rw [eo_19]; rfl)) ?_
                        have hj_20 : j_20 < M := h_i3 _ _ _ hj_16 eo_19
                        refine lv_astore (lv' := [(5, .ref (ad (50 + 16 * j_20))), (4, .int y_18), (3, .ref (ad (50 + 16 * v1.toInt.toNat))), (0, .ref (ad 0)), (1, .int v1), (2, .int v2)]) hx hb dX9_child_67 hl (by decide) rfl (fun ls hl => ?_)
                        refine lv_goto (tgt := 39) hx hb dX9_child_69 (by decide) ?_
                        exact ih_14 y_18 (some j_20)    H locs ls (by have := h_i4 _ _ hj_16 eo_19; simp only [chM] at *; omega) (fun _ h => by cases h; exact hj_20) (by show cit K (b_child G v2) (fun _ => -1) 201 (some j_20) y_18 = k_child v1 v2 (C9.mk n f T G K F); subst ey_18; have hX := v_13; (first | rw [cit_none] at hX | rw [cit_go h_i3 h_i4 (by omega) (by first | with_reducible assumption | omega)] at hX); (repeat (first | dsimp +instances only [c9n, c9f, c9T, c9G, c9K, c9F, b_come, b_leave, b_fill, awB, b_settle, b_wake, b_take, f_take, b_gather, f_gather, b_ask, a_ask, b_tell, c_close, d_close, k_add, k_rem, sco, k_clrF, k_mem, k_rebind, k_bnd, k_beg0, k_beg1, b_giveN, b_giveR, f_open, b_hand, k_op, b_turn, wlB, b_beat, f_anew, b_wipe, b_off, k_sadd, fits, frP, cntB, b_trace, b_child, k_lat, cond_true, cond_false, Option.elim_none, Option.elim_some, Option.getD_none, Option.getD_some] at hX | rw [eo_7] at hX | rw [eo_19] at hX | rw [if_pos (by first | with_reducible assumption | omega)] at hX | rw [if_neg (by first | with_reducible assumption | omega)] at hX | rw [jx_of (by omega)] at hX)); first | exact hX | (exfalso; omega) | exact hX) hP hD hS (lv_sub hl [0, 1, 2, 3, 4, 5] rfl)
                   · simp only [i_lt, i_le, i_eq] at c_17
                     refine lv_aload hx hb dX9_child_50 (lv_at hl 0 rfl) ?_
                     refine va_get (D := (dC, dI)) (ci := 7) (v := .int (G j_16 0)) (C := RX7) (T := TX7) (N := 15) hx hb hg gb_7 hown hK hP (50 + 16 * j_16) (hQ.b0 hj_16) rfl 0 (by decide) (hg _ gm_fieldLink_RX9_118_ErrandGuild_Run_number_I_) (fun _ h9 => h9) rfl dX9_child_52 ?_
                     refine W_msr2 (fun hm1 hm2 hm3 => ?_)
                     exact W.iret (v := G j_16 0) hx hb hr (fun t ht hW => ⟨⟨G j_16 0, (), rfl, (by show G j_16 0 = k_child v1 v2 (C9.mk n f T G K F); have hX := v_13; (first | rw [cit_none] at hX | rw [cit_go h_i3 h_i4 (by omega) (by first | with_reducible assumption | omega)] at hX); (repeat (first | dsimp +instances only [c9n, c9f, c9T, c9G, c9K, c9F, b_come, b_leave, b_fill, awB, b_settle, b_wake, b_take, f_take, b_gather, f_gather, b_ask, a_ask, b_tell, c_close, d_close, k_add, k_rem, sco, k_clrF, k_mem, k_rebind, k_bnd, k_beg0, k_beg1, b_giveN, b_giveR, f_open, b_hand, k_op, b_turn, wlB, b_beat, f_anew, b_wipe, b_off, k_sadd, fits, frP, cntB, b_trace, b_child, k_lat, cond_true, cond_false, Option.elim_none, Option.elim_some, Option.getD_none, Option.getD_some] at hX | rw [eo_7] at hX | rw [if_pos (by first | with_reducible assumption | omega)] at hX | rw [if_neg (by first | with_reducible assumption | omega)] at hX | rw [jx_of (by omega)] at hX)); first | exact hX | (exfalso; omega) | exact hX), by rw [ht]; exact hP, hD, by rw [ht]; omega, by rw [ht]; omega⟩, hS.F ht⟩) hS.2.2 dX9_child_55
             exact L39 _ (0 : Int32) none    _ _ _ (Nat.lt_succ_self _) (fun _ h => by cases h) (by show cit K (b_child G v2) (fun _ => -1) 201 none (0 : Int32) = k_child v1 v2 (C9.mk n f T G K F); have hX := (k_child.eq_1 v1 v2 (C9.mk n f T G K F)).symm; (repeat (first | dsimp +instances only [c9n, c9f, c9T, c9G, c9K, c9F, b_come, b_leave, b_fill, awB, b_settle, b_wake, b_take, f_take, b_gather, f_gather, b_ask, a_ask, b_tell, c_close, d_close, k_add, k_rem, sco, k_clrF, k_mem, k_rebind, k_bnd, k_beg0, k_beg1, b_giveN, b_giveR, f_open, b_hand, k_op, b_turn, wlB, b_beat, f_anew, b_wipe, b_off, k_sadd, fits, frP, cntB, b_trace, b_child, k_lat, cond_true, cond_false, Option.elim_none, Option.elim_some, Option.getD_none, Option.getD_some] at hX | rw [eo_7] at hX | rw [if_pos (by first | with_reducible assumption | omega)] at hX | rw [if_neg (by first | with_reducible assumption | omega)] at hX | rw [jx_of (by omega)] at hX)); first | exact hX | (exfalso; omega) | exact hX) hP hD hS (lv_sub hl [0, 1, 2, 3, 4, 5] rfl)
           · refine W.eq (g2 := F0 m 37 ls [.ref (ad (50 + 16 * j_8))]) (by first | rfl | (rw [eo_7]; rfl)) ?_
             have hj_8 : j_8 < M := h_i3 _ _ _ hl_4 eo_7
             refine lv_astore (lv' := [(5, .ref (ad (50 + 16 * j_8))), (4, .int 0), (3, .ref (ad (50 + 16 * v1.toInt.toNat))), (0, .ref (ad 0)), (1, .int v1), (2, .int v2)]) hx hb dX9_child_37 hl (by decide) rfl (fun ls hl => ?_)
             have L39 : ∀ (fuel : Nat) (x_21 : Int32) (o_22 : Option Nat)    (H : Heap) (locs : List Loc) (ls : Array Slot), chM M o_22 < fuel → (∀ j : Nat, o_22 = some j → j < M) → (cit K (b_child G v2) (fun _ => -1) 201 o_22 x_21 = k_child v1 v2 (C9.mk n f T G K F)) → va_P (dC, dI) vwCl ws H → va_D A ws → va_S A s.heap H locs → lv_has ls 6 [(5, va_rf (rA9 ad o_22)), (4, .int x_21), (3, .ref (ad (50 + 16 * v1.toInt.toNat))), (0, .ref (ad 0)), (1, .int v1), (2, .int v2)] → W p l e (headSpec (.code yX9_child cX9_child 6 (some .int) :: gw) ({ frames := 1, cells := 0, slots := 0, locals := 21 })).room s m ([.ref (ad 0), .int v1, .int v2] : List Value).toArray below meth c H locs 0 0 (MQ below (va_Qi (fun (r : Int32) (u : Unit) => r = k_child v1 v2 (C9.mk n f T G K F)) (fun _ t => va_P (dC, dI) vwCl ws t.heap ∧ va_D A ws ∧ hpS t.heap ≤ (hpS s.heap) ∧ t.heap.size ≤ s.heap.size) A) ([.ref (ad 0), .int v1, .int v2] : List Value).toArray s 0 0 A) (F0 m 39 ls []) := by
               intro fuel
               induction fuel with
               | zero => intro x_21 o_22 H locs ls hm; exact absurd hm (Nat.not_lt_zero _)
               | succ fuel_27 ih_26 =>
                 intro x_21 o_22 H locs ls hm_23 v_24 v_25 hP hD hS hl
                 rcases o_22 with _ | j_28
                 · have hl : lv_has ls 6 [(5, .null), (4, .int x_21), (3, .ref (ad (50 + 16 * v1.toInt.toNat))), (0, .ref (ad 0)), (1, .int v1), (2, .int v2)] := hl
                   exact by
                    refine lv_aloadN hx hb dX9_child_39 (lv_at hl 0 rfl) ?_
                    refine lv_ifnullN (tgt := 72) hx hb dX9_child_41 (by decide) ?_
                    refine lv_iconst (v := -1) hx hb dX9_child_72 (by decide) ?_
                    refine W_msr2 (fun hm1 hm2 hm3 => ?_)
                    exact W.iret (v := -1) hx hb hr (fun t ht hW => ⟨⟨-1, (), rfl, (by show (-1 : Int32) = k_child v1 v2 (C9.mk n f T G K F); have hX := v_25; (first | rw [cit_none] at hX | rw [cit_go h_i3 h_i4 (by omega) (by first | with_reducible assumption | omega)] at hX); (repeat (first | dsimp +instances only [c9n, c9f, c9T, c9G, c9K, c9F, b_come, b_leave, b_fill, awB, b_settle, b_wake, b_take, f_take, b_gather, f_gather, b_ask, a_ask, b_tell, c_close, d_close, k_add, k_rem, sco, k_clrF, k_mem, k_rebind, k_bnd, k_beg0, k_beg1, b_giveN, b_giveR, f_open, b_hand, k_op, b_turn, wlB, b_beat, f_anew, b_wipe, b_off, k_sadd, fits, frP, cntB, b_trace, b_child, k_lat, cond_true, cond_false, Option.elim_none, Option.elim_some, Option.getD_none, Option.getD_some] at hX | rw [eo_7] at hX | rw [if_pos (by first | with_reducible assumption | omega)] at hX | rw [if_neg (by first | with_reducible assumption | omega)] at hX | rw [jx_of (by omega)] at hX)); first | exact hX | (exfalso; omega) | exact hX), by rw [ht]; exact hP, hD, by rw [ht]; omega, by rw [ht]; omega⟩, hS.F ht⟩) hS.2.2 dX9_child_73
                 · have hl : lv_has ls 6 [(5, .ref (ad (50 + 16 * j_28))), (4, .int x_21), (3, .ref (ad (50 + 16 * v1.toInt.toNat))), (0, .ref (ad 0)), (1, .int v1), (2, .int v2)] := hl
                   have hj_28 : j_28 < M := v_24 _ rfl
                   refine lv_aload hx hb dX9_child_39 (lv_at hl 0 rfl) ?_
                   refine lv_ifnull hx hb dX9_child_41 ?_
                   refine lv_iload hx hb dX9_child_44 (lv_at hl 1 rfl) ?_
                   refine lv_iload_n hx hb dX9_child_46 rfl (lv_at hl 5 rfl) ?_
                   refine lv_icmp_ne (tgt := 56) hx hb dX9_child_47 (by decide) (fun c_29 => ?_) (fun c_29 => ?_)
                   · simp only [i_lt, i_le, i_eq] at c_29
                     obtain ⟨y_30, ey_30⟩ : ∃ q : Int32, q = x_21 + (1) := ⟨_, rfl⟩
                     refine lv_iinc (v := y_30) (lv' := [(4, .int y_30), (5, .ref (ad (50 + 16 * j_28))), (3, .ref (ad (50 + 16 * v1.toInt.toNat))), (0, .ref (ad 0)), (1, .int v1), (2, .int v2)]) hx hb dX9_child_56 hl (k := 1) rfl (by rw [ey_30]; rfl) (by decide) rfl (fun ls hl => ?_)
                     refine lv_aload hx hb dX9_child_59 (lv_at hl 1 rfl) ?_
                     refine va_get (D := (dC, dI)) (ci := 7) (v := .ref (ad (50 + 16 * j_28 + 1))) (C := RX7) (T := TX7) (N := 15) hx hb hg gb_7 hown hK hP (50 + 16 * j_28) (hQ.b0 hj_28) rfl 10 (by decide) (hg _ gm_fieldLink_RX9_151_ErrandGuild_Run_kin_LErrandGuild_Kin_) (fun _ h9 => h9) rfl dX9_child_61 ?_
                     exact by
                      refine va_get (D := (dC, dI)) (ci := 4) (v := va_rf (rA9 ad (K j_28 4))) (C := RX4) (T := TX4) (N := 9) hx hb hg gb_4 hown hK hP (50 + 16 * j_28 + 1) (hQ.b1 hj_28) rfl 7 (by decide) (hg _ gm_fieldLink_RX9_228_ErrandGuild_Kin_nextSibling_LErrandGuild_Run_) (fun _ h9 => h9) rfl dX9_child_64 ?_
                      rcases eo_31 : K j_28 4 with _ | j_32
                      · refine W.eq (g2 := F0 m 67 ls [.null]) (by first | rfl | (rw [eo_31]; rfl)) ?_
                        refine lv_astoreN (lv' := [(5, .null), (4, .int y_30), (3, .ref (ad (50 + 16 * v1.toInt.toNat))), (0, .ref (ad 0)), (1, .int v1), (2, .int v2)]) hx hb dX9_child_67 hl (by decide) rfl (fun ls hl => ?_)
                        refine lv_goto (tgt := 39) hx hb dX9_child_69 (by decide) ?_
                        exact ih_26 y_30 none    H locs ls (by simp only [chM] at *; omega) (fun _ h => by cases h) (by show cit K (b_child G v2) (fun _ => -1) 201 none y_30 = k_child v1 v2 (C9.mk n f T G K F); subst ey_30; have hX := v_25; (first | rw [cit_none] at hX | rw [cit_go h_i3 h_i4 (by omega) (by first | with_reducible assumption | omega)] at hX); (repeat (first | dsimp +instances only [c9n, c9f, c9T, c9G, c9K, c9F, b_come, b_leave, b_fill, awB, b_settle, b_wake, b_take, f_take, b_gather, f_gather, b_ask, a_ask, b_tell, c_close, d_close, k_add, k_rem, sco, k_clrF, k_mem, k_rebind, k_bnd, k_beg0, k_beg1, b_giveN, b_giveR, f_open, b_hand, k_op, b_turn, wlB, b_beat, f_anew, b_wipe, b_off, k_sadd, fits, frP, cntB, b_trace, b_child, k_lat, cond_true, cond_false, Option.elim_none, Option.elim_some, Option.getD_none, Option.getD_some] at hX | rw [eo_7] at hX | rw [eo_31] at hX | rw [if_pos (by first | with_reducible assumption | omega)] at hX | rw [if_neg (by first | with_reducible assumption | omega)] at hX | rw [jx_of (by omega)] at hX)); first | exact hX | (exfalso; omega) | exact hX) hP hD hS (lv_sub hl [0, 1, 2, 3, 4, 5] rfl)
                      · refine W.eq (g2 := F0 m 67 ls [.ref (ad (50 + 16 * j_32))]) (by first | rfl | (rw [eo_31]; rfl)) ?_
                        have hj_32 : j_32 < M := h_i3 _ _ _ hj_28 eo_31
                        refine lv_astore (lv' := [(5, .ref (ad (50 + 16 * j_32))), (4, .int y_30), (3, .ref (ad (50 + 16 * v1.toInt.toNat))), (0, .ref (ad 0)), (1, .int v1), (2, .int v2)]) hx hb dX9_child_67 hl (by decide) rfl (fun ls hl => ?_)
                        refine lv_goto (tgt := 39) hx hb dX9_child_69 (by decide) ?_
                        exact ih_26 y_30 (some j_32)    H locs ls (by have := h_i4 _ _ hj_28 eo_31; simp only [chM] at *; omega) (fun _ h => by cases h; exact hj_32) (by show cit K (b_child G v2) (fun _ => -1) 201 (some j_32) y_30 = k_child v1 v2 (C9.mk n f T G K F); subst ey_30; have hX := v_25; (first | rw [cit_none] at hX | rw [cit_go h_i3 h_i4 (by omega) (by first | with_reducible assumption | omega)] at hX); (repeat (first | dsimp +instances only [c9n, c9f, c9T, c9G, c9K, c9F, b_come, b_leave, b_fill, awB, b_settle, b_wake, b_take, f_take, b_gather, f_gather, b_ask, a_ask, b_tell, c_close, d_close, k_add, k_rem, sco, k_clrF, k_mem, k_rebind, k_bnd, k_beg0, k_beg1, b_giveN, b_giveR, f_open, b_hand, k_op, b_turn, wlB, b_beat, f_anew, b_wipe, b_off, k_sadd, fits, frP, cntB, b_trace, b_child, k_lat, cond_true, cond_false, Option.elim_none, Option.elim_some, Option.getD_none, Option.getD_some] at hX | rw [eo_7] at hX | rw [eo_31] at hX | rw [if_pos (by first | with_reducible assumption | omega)] at hX | rw [if_neg (by first | with_reducible assumption | omega)] at hX | rw [jx_of (by omega)] at hX)); first | exact hX | (exfalso; omega) | exact hX) hP hD hS (lv_sub hl [0, 1, 2, 3, 4, 5] rfl)
                   · simp only [i_lt, i_le, i_eq] at c_29
                     refine lv_aload hx hb dX9_child_50 (lv_at hl 0 rfl) ?_
                     refine va_get (D := (dC, dI)) (ci := 7) (v := .int (G j_28 0)) (C := RX7) (T := TX7) (N := 15) hx hb hg gb_7 hown hK hP (50 + 16 * j_28) (hQ.b0 hj_28) rfl 0 (by decide) (hg _ gm_fieldLink_RX9_118_ErrandGuild_Run_number_I_) (fun _ h9 => h9) rfl dX9_child_52 ?_
                     refine W_msr2 (fun hm1 hm2 hm3 => ?_)
                     exact W.iret (v := G j_28 0) hx hb hr (fun t ht hW => ⟨⟨G j_28 0, (), rfl, (by show G j_28 0 = k_child v1 v2 (C9.mk n f T G K F); have hX := v_25; (first | rw [cit_none] at hX | rw [cit_go h_i3 h_i4 (by omega) (by first | with_reducible assumption | omega)] at hX); (repeat (first | dsimp +instances only [c9n, c9f, c9T, c9G, c9K, c9F, b_come, b_leave, b_fill, awB, b_settle, b_wake, b_take, f_take, b_gather, f_gather, b_ask, a_ask, b_tell, c_close, d_close, k_add, k_rem, sco, k_clrF, k_mem, k_rebind, k_bnd, k_beg0, k_beg1, b_giveN, b_giveR, f_open, b_hand, k_op, b_turn, wlB, b_beat, f_anew, b_wipe, b_off, k_sadd, fits, frP, cntB, b_trace, b_child, k_lat, cond_true, cond_false, Option.elim_none, Option.elim_some, Option.getD_none, Option.getD_some] at hX | rw [eo_7] at hX | rw [if_pos (by first | with_reducible assumption | omega)] at hX | rw [if_neg (by first | with_reducible assumption | omega)] at hX | rw [jx_of (by omega)] at hX)); first | exact hX | (exfalso; omega) | exact hX), by rw [ht]; exact hP, hD, by rw [ht]; omega, by rw [ht]; omega⟩, hS.F ht⟩) hS.2.2 dX9_child_55
             exact L39 _ (0 : Int32) (some j_8)    _ _ _ (Nat.lt_succ_self _) (fun _ h => by cases h; exact hj_8) (by show cit K (b_child G v2) (fun _ => -1) 201 (some j_8) (0 : Int32) = k_child v1 v2 (C9.mk n f T G K F); have hX := (k_child.eq_1 v1 v2 (C9.mk n f T G K F)).symm; (repeat (first | dsimp +instances only [c9n, c9f, c9T, c9G, c9K, c9F, b_come, b_leave, b_fill, awB, b_settle, b_wake, b_take, f_take, b_gather, f_gather, b_ask, a_ask, b_tell, c_close, d_close, k_add, k_rem, sco, k_clrF, k_mem, k_rebind, k_bnd, k_beg0, k_beg1, b_giveN, b_giveR, f_open, b_hand, k_op, b_turn, wlB, b_beat, f_anew, b_wipe, b_off, k_sadd, fits, frP, cntB, b_trace, b_child, k_lat, cond_true, cond_false, Option.elim_none, Option.elim_some, Option.getD_none, Option.getD_some] at hX | rw [eo_7] at hX | rw [if_pos (by first | with_reducible assumption | omega)] at hX | rw [if_neg (by first | with_reducible assumption | omega)] at hX | rw [jx_of (by omega)] at hX)); first | exact hX | (exfalso; omega) | exact hX) hP hD hS (lv_sub hl [0, 1, 2, 3, 4, 5] rfl)
         · simp only [i_lt, i_le, i_eq] at c_6
           refine lv_iconst (v := -1) hx hb dX9_child_25 (by decide) ?_
           refine W_msr2 (fun hm1 hm2 hm3 => ?_)
           exact W.iret (v := -1) hx hb hr (fun t ht hW => ⟨⟨-1, (), rfl, (by show (-1 : Int32) = k_child v1 v2 (C9.mk n f T G K F); have hX := (k_child.eq_1 v1 v2 (C9.mk n f T G K F)).symm; (repeat (first | dsimp +instances only [c9n, c9f, c9T, c9G, c9K, c9F, b_come, b_leave, b_fill, awB, b_settle, b_wake, b_take, f_take, b_gather, f_gather, b_ask, a_ask, b_tell, c_close, d_close, k_add, k_rem, sco, k_clrF, k_mem, k_rebind, k_bnd, k_beg0, k_beg1, b_giveN, b_giveR, f_open, b_hand, k_op, b_turn, wlB, b_beat, f_anew, b_wipe, b_off, k_sadd, fits, frP, cntB, b_trace, b_child, k_lat, cond_true, cond_false, Option.elim_none, Option.elim_some, Option.getD_none, Option.getD_some] at hX | rw [if_pos (by first | with_reducible assumption | omega)] at hX | rw [if_neg (by first | with_reducible assumption | omega)] at hX | rw [jx_of (by omega)] at hX)); first | exact hX | (exfalso; omega) | exact hX), by rw [ht]; exact hP, hD, by rw [ht]; omega, by rw [ht]; omega⟩, hS.F ht⟩) hS.2.2 dX9_child_26
   · have w_3 : ¬ (0 ≤ v1.toInt ∧ v1.toInt < (n 0).toInt) := w_3
     refine W.eq (g2 := F0 m 5 ls [.null]) rfl ?_
     refine lv_astore_nN (lv' := [(3, .null), (0, .ref (ad 0)), (1, .int v1), (2, .int v2)]) hx hb dX9_child_5 rfl hl (by decide) rfl (fun ls hl => ?_)
     refine lv_aload_nN hx hb dX9_child_6 rfl (lv_at hl 0 rfl) ?_
     refine lv_ifnullN (tgt := 25) hx hb dX9_child_7 (by decide) ?_
     refine lv_iconst (v := -1) hx hb dX9_child_25 (by decide) ?_
     refine W_msr2 (fun hm1 hm2 hm3 => ?_)
     exact W.iret (v := -1) hx hb hr (fun t ht hW => ⟨⟨-1, (), rfl, (by show (-1 : Int32) = k_child v1 v2 (C9.mk n f T G K F); have hX := (k_child.eq_1 v1 v2 (C9.mk n f T G K F)).symm; (repeat (first | dsimp +instances only [c9n, c9f, c9T, c9G, c9K, c9F, b_come, b_leave, b_fill, awB, b_settle, b_wake, b_take, f_take, b_gather, f_gather, b_ask, a_ask, b_tell, c_close, d_close, k_add, k_rem, sco, k_clrF, k_mem, k_rebind, k_bnd, k_beg0, k_beg1, b_giveN, b_giveR, f_open, b_hand, k_op, b_turn, wlB, b_beat, f_anew, b_wipe, b_off, k_sadd, fits, frP, cntB, b_trace, b_child, k_lat, cond_true, cond_false, Option.elim_none, Option.elim_some, Option.getD_none, Option.getD_some] at hX | rw [if_pos (by first | with_reducible assumption | omega)] at hX | rw [if_neg (by first | with_reducible assumption | omega)] at hX | rw [jx_of (by omega)] at hX)); first | exact hX | (exfalso; omega) | exact hX), by rw [ht]; exact hP, hD, by rw [ht]; omega, by rw [ht]; omega⟩, hS.F ht⟩) hS.2.2 dX9_child_26

set_option maxHeartbeats 8000000 in
set_option maxRecDepth 100000 in
theorem c_X9_value (l : Launch) (dC : Nat → ClassId) (dI : Nat → Nat → Nat) (kc : Nat → ClassId) (ws : va_W) (ad : Nat → Nat) (ga : Nat → Nat) (gc : Nat → Nat) (M : Nat) (n : Nat → Int32) (f : Nat → Nat → Int32) (T : Nat → Option Nat) (G : Nat → Nat → Int32) (K : Nat → Nat → Option Nat) (F : Nat → Nat → Nat → Int32) (R : Nat) (v1 : Int32) (v2 : Int32) (sz hz : Nat) (hQ : Pic9 kc ws ad ga gc M n f T G K F) (hI : I9 M n f T gc G K F R) : Met l yX9_value (.code yX9_value cX9_value 4 (some .int) :: gw) ({ frames := 3, cells := 0, slots := 0, locals := 67 }) (va_Pc [.ref (ad 0), .int v1, .int v2] (fun U => U.heap.size = sz ∧ hpS U.heap = hz ∧ va_P (dC, dI) vwCl ws U.heap ∧ va_K (dC, dI) vwCl (t9 kc) U ∧ va_D (fun _ => True) ws ∧ nx U)) (va_Qi (fun (r : Int32) (u : Unit) => r = k_value v1 v2 (C9.mk n f T G K F)) (fun _ t => va_P (dC, dI) vwCl ws t.heap ∧ va_D (va_A ws sz) ws ∧ hpS t.heap ≤ hz ∧ t.heap.size ≤ sz) (va_A ws sz)) 0 0 (va_A ws sz) := by
  refine Met.ofW (cc := cX9_value) (maxL := 4) (ret := (some .int)) (by decide) rfl ?_
  intro p e s m args below meth c s₁ B hml hv
  obtain ⟨rfl, hsz, rfl, hP, hK, hD0, hN⟩ := hv
  have hx := B.exec
  have hb := B.bytes
  have hr := B.returns
  have hts := atoms_spec (ws := .code yX9_value cX9_value 4 (some .int) :: gw) B.pre
  have hg : ∀ w ∈ gw, w.before _ s = true := fun w h => hts w (List.mem_cons_of_mem _ h)
  have hown : s.vm.findClass RX9 = some m.cls := findClass_of_methodNamed B.named
  have hlocks := B.notSynchronized
  subst hsz
  have hD := hD0.self (sz := s.heap.size)
  generalize hAe : va_A ws s.heap.size = A at hD ⊢
  have hA : ∀ q : Nat, s.heap.size ≤ q → A q := fun q h => by rw [← hAe]; exact Or.inr h
  clear hAe
  have hS : va_S A s.heap s.heap [] := va_S.rf
  have hl := lv_entry ([.ref (ad 0), .int v1, .int v2]) (n := 4) (Nat.le_of_ble_eq_true rfl)
  rw [lg_entry_eq]
  generalize (lg_sl ([.ref (ad 0), .int v1, .int v2]) ++ List.replicate (4 - (lg_sl ([.ref (ad 0), .int v1, .int v2])).length) Slot.unset).toArray = ls at hl ⊢
  have hl : lv_has ls 4 [(0, .ref (ad 0)), (1, .int v1), (2, .int v2)] := hl
  obtain ⟨h_i1, h_i2, h_i3, h_i4, h_i5, h_i6, h_i7, h_i8, h_i9, h_i10, h_i11⟩ := id hI
  have q1_ := h_i1
  unfold i1 at q1_
  exact by
   refine lv_aload_n hx hb dX9_value_0 rfl (lv_at hl 0 rfl) ?_
   refine lv_iload_n hx hb dX9_value_1 rfl (lv_at hl 1 rfl) ?_
   have hFc := free_all hD hS hA
   refine va_callq (va_runV (As := [.int v1]) (rest := []) ⟨hx, hb, hml, hown, hg⟩ (c_X9_runAt l dC dI kc ws ad ga gc M n f T G K F R v1 s.heap.size (hpS s.heap) hQ ⟨h_i1, h_i2, h_i3, h_i4, h_i5, h_i6, h_i7, h_i8, h_i9, h_i10, h_i11⟩) (cwV 1 hg (gw_V gm_methodLink_RX9_134_yX9_runAt gm_instanceMethod_yX9_runAt gm_selects_RX9_yX9_runAt_yX9_runAt gm_initialized_RX9 gm_code_yX9_runAt_cX9_runAt_2_some_object_ErrandGuild_Run_) rfl rfl rfl (by decide +kernel) ⟨Nat.le_of_ble_eq_true rfl, Nat.le_of_ble_eq_true rfl⟩) ⟨fun a U g mk q => by obtain ⟨q0, q1, q2, qP, qK, qD, qN⟩ := q; exact ⟨q0, q1, q2, qP, va_K.moved (u := U) (U := U.calling g mk a) (Vm.Alike.refl U.vm) qK, qD, nx_same (u := U) (U := U.calling g mk a) rfl qN⟩, va_recv hK hP (ci := 9) (q0 := 0) rfl hQ.x0, fun U hU hW => ⟨rfl, by rw [hU], by rw [hU], by rw [hU]; exact hP, va_K.moved hW.alike hK, hD.weaken (fun _ _ _ _ => trivial), nx_warm hW hN⟩⟩ rfl rfl hl.1 rfl (lv_room (Nat.le_of_ble_eq_true rfl)) dX9_value_2 ⟨Nat.le_of_ble_eq_true rfl, Nat.le_of_ble_eq_true rfl⟩) hS (fun q _ h => hFc q h) hFc (fun r_1 u_2 t H1 locs ht hvm hw hB hz1 hk1 hS => ?_)
   obtain ⟨hP, hD, hy1, hy2⟩ := hB
   rw [ht] at hP hy1 hy2
   have hD := hD.weaken (fun k q _ h => hFc _ h)
   have q1_ := h_i1
   unfold i1 at q1_
   generalize H1 = H at hP hS ⊢
   rcases hw with ⟨rfl, w_3⟩ | ⟨rfl, w_3⟩
   · have w_3 : (0 ≤ v1.toInt ∧ v1.toInt < (n 0).toInt) := w_3
     have hl_4 : v1.toInt.toNat < M := by omega
     refine W.eq (g2 := F0 m 5 ls [.ref (ad (50 + 16 * v1.toInt.toNat))]) rfl ?_
     exact by
      refine lv_astore_n (lv' := [(3, .ref (ad (50 + 16 * v1.toInt.toNat))), (0, .ref (ad 0)), (1, .int v1), (2, .int v2)]) hx hb dX9_value_5 rfl hl (by decide) rfl (fun ls hl => ?_)
      refine lv_aload_n hx hb dX9_value_6 rfl (lv_at hl 0 rfl) ?_
      refine lv_ifnull hx hb dX9_value_7 ?_
      refine lv_iload_n hx hb dX9_value_10 rfl (lv_at hl 3 rfl) ?_
      have hCc : ([] : List Nat).map (fun i => ws[i]?) = ([] : va_W).map some := rfl
      have hNd : ([] : List Nat).Nodup := List.nodup_nil
      have hPc := hP.pick [] hCc
      have hDc := hD.pick [] hNd hCc
      have hKc := hK.sub (tys' := []) [] rfl
      have hFc := va_free (wc := []) hD hS hA [] hCc
      refine va_calli (va_runS (As := [.int v2]) (rest := []) ⟨hx, hb, hml, hown, hg⟩ (c_X9_isSlot l dC dI v2 H.size ) (va_cwS 1 hg (gw_S gm_methodLink_RX9_62_yX9_isSlot gm_static_yX9_isSlot gm_initialized_RX9 gm_code_yX9_isSlot_cX9_isSlot_1_some_boolean_) rfl rfl rfl (by decide +kernel) ⟨Nat.le_of_ble_eq_true rfl, Nat.le_of_ble_eq_true rfl⟩) ⟨fun a U g mk q => by obtain ⟨q0, q1, qP, qK, qD, qN⟩ := q; exact ⟨q0, q1, qP, va_K.moved (u := U) (U := U.calling g mk a) (Vm.Alike.refl U.vm) qK, qD, nx_same (u := U) (U := U.calling g mk a) rfl qN⟩, fun U hU hW => ⟨rfl, by rw [hU], by rw [hU]; exact hPc, va_K.moved hW.alike hKc, hDc.weaken (fun _ _ _ _ => trivial), nx_warm hW hN⟩⟩ rfl rfl hl.1 rfl (lv_room (Nat.le_of_ble_eq_true rfl)) dX9_value_11 ⟨Nat.le_of_ble_eq_true rfl, Nat.le_of_ble_eq_true rfl⟩) hS (fun q _ h => hFc q h) hFc (fun r_5 u_6 t H1 locs ht hvm hw hB hz1 hk1 hS => ?_)
      obtain ⟨hP, hD⟩ := va_replS hP hD [] rfl List.nodup_nil hk1 hFc nil_P nil_D
      generalize H1 = H at hP hS ⊢
      rcases hw with ⟨rfl, w_7⟩ | ⟨rfl, w_7⟩
      · refine lv_if_ne (tgt := 19) hx hb dX9_value_14 (by decide) (fun _ => ?_) (fun c_8 => absurd c_8 (by decide))
        exact by
         refine lv_aload_n hx hb dX9_value_19 rfl (lv_at hl 1 rfl) ?_
         refine lv_aload_n hx hb dX9_value_20 rfl (lv_at hl 0 rfl) ?_
         refine lv_iload_n hx hb dX9_value_21 rfl (lv_at hl 3 rfl) ?_
         have hFc := free_all hD hS hA
         refine va_calli (va_runV (As := [.ref (ad (50 + 16 * v1.toInt.toNat)), .int v2]) (rest := []) ⟨hx, hb, hml, hown, hg⟩ (c_X9_readIn l dC dI kc ws ad ga gc M n f T G K F R v1.toInt.toNat v2 H.size (hpS H) hQ ⟨h_i1, h_i2, h_i3, h_i4, h_i5, h_i6, h_i7, h_i8, h_i9, h_i10, h_i11⟩ (by show v1.toInt.toNat < M; omega)) (cwV 2 hg (gw_V gm_methodLink_RX9_231_yX9_readIn gm_instanceMethod_yX9_readIn gm_selects_RX9_yX9_readIn_yX9_readIn gm_initialized_RX9 gm_code_yX9_readIn_cX9_readIn_3_some_int_) rfl rfl rfl (by decide +kernel) ⟨Nat.le_of_ble_eq_true rfl, Nat.le_of_ble_eq_true rfl⟩) ⟨fun a U g mk q => by obtain ⟨q0, q1, q2, qP, qK, qD, qN⟩ := q; exact ⟨q0, q1, q2, qP, va_K.moved (u := U) (U := U.calling g mk a) (Vm.Alike.refl U.vm) qK, qD, nx_same (u := U) (U := U.calling g mk a) rfl qN⟩, va_recv hK hP (ci := 9) (q0 := 0) rfl hQ.x0, fun U hU hW => ⟨rfl, by rw [hU], by rw [hU], by rw [hU]; exact hP, va_K.moved hW.alike hK, hD.weaken (fun _ _ _ _ => trivial), nx_warm hW hN⟩⟩ rfl rfl hl.1 rfl (lv_room (Nat.le_of_ble_eq_true rfl)) dX9_value_22 ⟨Nat.le_of_ble_eq_true rfl, Nat.le_of_ble_eq_true rfl⟩) hS (fun q _ h => hFc q h) hFc (fun r_9 u_10 t H1 locs ht hvm hw hB hz1 hk1 hS => ?_)
         obtain ⟨hP, hD, hy1, hy2⟩ := hB
         rw [ht] at hP hy1 hy2
         have hD := hD.weaken (fun k q _ h => hFc _ h)
         have q1_ := h_i1
         unfold i1 at q1_
         generalize H1 = H at hP hS ⊢
         have hc_12 : r_9 = k_read (C9.mk n f T G K F) v1.toInt.toNat v2 := hw
         refine W_msr2 (fun hm1 hm2 hm3 => ?_)
         exact W.iret (v := r_9) hx hb hr (fun t ht hW => ⟨⟨r_9, (), rfl, (by show r_9 = k_value v1 v2 (C9.mk n f T G K F); have hX := (k_value.eq_1 v1 v2 (C9.mk n f T G K F)).symm; (repeat (first | dsimp +instances only [c9n, c9f, c9T, c9G, c9K, c9F, b_come, b_leave, b_fill, awB, b_settle, b_wake, b_take, f_take, b_gather, f_gather, b_ask, a_ask, b_tell, c_close, d_close, k_add, k_rem, sco, k_clrF, k_mem, k_rebind, k_bnd, k_beg0, k_beg1, b_giveN, b_giveR, f_open, b_hand, k_op, b_turn, wlB, b_beat, f_anew, b_wipe, b_off, k_sadd, fits, frP, cntB, b_trace, b_child, k_lat, cond_true, cond_false, Option.elim_none, Option.elim_some, Option.getD_none, Option.getD_some] at hX | rw [← hc_12] at hX | rw [if_pos (by first | with_reducible assumption | omega)] at hX | rw [if_neg (by first | with_reducible assumption | omega)] at hX | rw [jx_of (by omega)] at hX)); first | exact hX | (exfalso; omega) | exact hX), by rw [ht]; exact hP, hD, by rw [ht]; omega, by rw [ht]; omega⟩, hS.F ht⟩) hS.2.2 dX9_value_25
      · refine lv_if_ne (tgt := 19) hx hb dX9_value_14 (by decide) (fun c_13 => absurd c_13 (by decide)) (fun _ => ?_)
        refine lv_iconst (v := 0) hx hb dX9_value_17 (by decide) ?_
        refine W_msr2 (fun hm1 hm2 hm3 => ?_)
        exact W.iret (v := 0) hx hb hr (fun t ht hW => ⟨⟨0, (), rfl, (by show (0 : Int32) = k_value v1 v2 (C9.mk n f T G K F); have hX := (k_value.eq_1 v1 v2 (C9.mk n f T G K F)).symm; (repeat (first | dsimp +instances only [c9n, c9f, c9T, c9G, c9K, c9F, b_come, b_leave, b_fill, awB, b_settle, b_wake, b_take, f_take, b_gather, f_gather, b_ask, a_ask, b_tell, c_close, d_close, k_add, k_rem, sco, k_clrF, k_mem, k_rebind, k_bnd, k_beg0, k_beg1, b_giveN, b_giveR, f_open, b_hand, k_op, b_turn, wlB, b_beat, f_anew, b_wipe, b_off, k_sadd, fits, frP, cntB, b_trace, b_child, k_lat, cond_true, cond_false, Option.elim_none, Option.elim_some, Option.getD_none, Option.getD_some] at hX | rw [if_pos (by first | with_reducible assumption | omega)] at hX | rw [if_neg (by first | with_reducible assumption | omega)] at hX | rw [jx_of (by omega)] at hX)); first | exact hX | (exfalso; omega) | exact hX), by rw [ht]; exact hP, hD, by rw [ht]; omega, by rw [ht]; omega⟩, hS.F ht⟩) hS.2.2 dX9_value_18
   · have w_3 : ¬ (0 ≤ v1.toInt ∧ v1.toInt < (n 0).toInt) := w_3
     refine W.eq (g2 := F0 m 5 ls [.null]) rfl ?_
     refine lv_astore_nN (lv' := [(3, .null), (0, .ref (ad 0)), (1, .int v1), (2, .int v2)]) hx hb dX9_value_5 rfl hl (by decide) rfl (fun ls hl => ?_)
     refine lv_aload_nN hx hb dX9_value_6 rfl (lv_at hl 0 rfl) ?_
     refine lv_ifnullN (tgt := 17) hx hb dX9_value_7 (by decide) ?_
     refine lv_iconst (v := 0) hx hb dX9_value_17 (by decide) ?_
     refine W_msr2 (fun hm1 hm2 hm3 => ?_)
     exact W.iret (v := 0) hx hb hr (fun t ht hW => ⟨⟨0, (), rfl, (by show (0 : Int32) = k_value v1 v2 (C9.mk n f T G K F); have hX := (k_value.eq_1 v1 v2 (C9.mk n f T G K F)).symm; (repeat (first | dsimp +instances only [c9n, c9f, c9T, c9G, c9K, c9F, b_come, b_leave, b_fill, awB, b_settle, b_wake, b_take, f_take, b_gather, f_gather, b_ask, a_ask, b_tell, c_close, d_close, k_add, k_rem, sco, k_clrF, k_mem, k_rebind, k_bnd, k_beg0, k_beg1, b_giveN, b_giveR, f_open, b_hand, k_op, b_turn, wlB, b_beat, f_anew, b_wipe, b_off, k_sadd, fits, frP, cntB, b_trace, b_child, k_lat, cond_true, cond_false, Option.elim_none, Option.elim_some, Option.getD_none, Option.getD_some] at hX | rw [if_pos (by first | with_reducible assumption | omega)] at hX | rw [if_neg (by first | with_reducible assumption | omega)] at hX | rw [jx_of (by omega)] at hX)); first | exact hX | (exfalso; omega) | exact hX), by rw [ht]; exact hP, hD, by rw [ht]; omega, by rw [ht]; omega⟩, hS.F ht⟩) hS.2.2 dX9_value_18

set_option maxHeartbeats 8000000 in
set_option maxRecDepth 100000 in
theorem c_X9_seen (l : Launch) (dC : Nat → ClassId) (dI : Nat → Nat → Nat) (kc : Nat → ClassId) (ws : va_W) (ad : Nat → Nat) (ga : Nat → Nat) (gc : Nat → Nat) (M : Nat) (n : Nat → Int32) (f : Nat → Nat → Int32) (T : Nat → Option Nat) (G : Nat → Nat → Int32) (K : Nat → Nat → Option Nat) (F : Nat → Nat → Nat → Int32) (R : Nat) (v1 : Int32) (v2 : Int32) (sz hz : Nat) (hQ : Pic9 kc ws ad ga gc M n f T G K F) (hI : I9 M n f T gc G K F R) : Met l yX9_seen (.code yX9_seen cX9_seen 3 (some .int) :: gw) ({ frames := 3, cells := 0, slots := 0, locals := 65 }) (va_Pc [.ref (ad 0), .int v1, .int v2] (fun U => U.heap.size = sz ∧ hpS U.heap = hz ∧ va_P (dC, dI) vwCl ws U.heap ∧ va_K (dC, dI) vwCl (t9 kc) U ∧ va_D (fun _ => True) ws ∧ nx U)) (va_Qi (fun (r : Int32) (u : Unit) => r = k_seen v1 v2 (C9.mk n f T G K F)) (fun _ t => va_P (dC, dI) vwCl ws t.heap ∧ va_D (va_A ws sz) ws ∧ hpS t.heap ≤ hz ∧ t.heap.size ≤ sz) (va_A ws sz)) 0 0 (va_A ws sz) := by
  refine Met.ofW (cc := cX9_seen) (maxL := 3) (ret := (some .int)) (by decide) rfl ?_
  intro p e s m args below meth c s₁ B hml hv
  obtain ⟨rfl, hsz, rfl, hP, hK, hD0, hN⟩ := hv
  have hx := B.exec
  have hb := B.bytes
  have hr := B.returns
  have hts := atoms_spec (ws := .code yX9_seen cX9_seen 3 (some .int) :: gw) B.pre
  have hg : ∀ w ∈ gw, w.before _ s = true := fun w h => hts w (List.mem_cons_of_mem _ h)
  have hown : s.vm.findClass RX9 = some m.cls := findClass_of_methodNamed B.named
  have hlocks := B.notSynchronized
  subst hsz
  have hD := hD0.self (sz := s.heap.size)
  generalize hAe : va_A ws s.heap.size = A at hD ⊢
  have hA : ∀ q : Nat, s.heap.size ≤ q → A q := fun q h => by rw [← hAe]; exact Or.inr h
  clear hAe
  have hS : va_S A s.heap s.heap [] := va_S.rf
  have hl := lv_entry ([.ref (ad 0), .int v1, .int v2]) (n := 3) (Nat.le_of_ble_eq_true rfl)
  rw [lg_entry_eq]
  generalize (lg_sl ([.ref (ad 0), .int v1, .int v2]) ++ List.replicate (3 - (lg_sl ([.ref (ad 0), .int v1, .int v2])).length) Slot.unset).toArray = ls at hl ⊢
  have hl : lv_has ls 3 [(0, .ref (ad 0)), (1, .int v1), (2, .int v2)] := hl
  obtain ⟨h_i1, h_i2, h_i3, h_i4, h_i5, h_i6, h_i7, h_i8, h_i9, h_i10, h_i11⟩ := id hI
  have q1_ := h_i1
  unfold i1 at q1_
  have h8a := h_i8.2.1 0 (by omega)
  have h8b := h_i8.2.1 1 (by omega)
  have h8c := h_i8.2.1 2 (by omega)
  have h11a := h_i11.1.1
  have h11b := h_i11.2.1.1
  have h11c := h_i11.2.2.1.1
  have h8d := h_i8.2.2.2
  exact by
   refine lv_aload_n hx hb dX9_seen_0 rfl (lv_at hl 0 rfl) ?_
   refine va_get (D := (dC, dI)) (ci := 9) (v := .ref (ad 42)) (C := RX9) (T := TX9) (N := 15) hx hb hg gb_9 hown hK hP 0 hQ.x0 rfl 9 (by decide) (hg _ gm_fieldLink_RX9_47_ErrandGuild_readings_LErrandGuild_Ledger_) (fun _ h9 => h9) rfl dX9_seen_1 ?_
   refine lv_iload_n hx hb dX9_seen_4 rfl (lv_at hl 1 rfl) ?_
   refine lv_iload_n hx hb dX9_seen_5 rfl (lv_at hl 2 rfl) ?_
   have hCc : ([42, 43, 44] : List Nat).map (fun i => ws[i]?) = ([(ad 42, .inr (5, [.int (n 14), .ref (ad 43)])), (ad 43, .inr (0, [.int (n 15), .ref (ga 0), .int (n 16)])), (ga 0, .inl (kc 0, gc 0, .inl (f 29)))] : va_W).map some := mp3 hQ.x42 hQ.x43 hQ.x44
   have hNd : ([42, 43, 44] : List Nat).Nodup := (by decide)
   have hPc := hP.pick [42, 43, 44] hCc
   have hDc := hD.pick [42, 43, 44] hNd hCc
   have hKc := hK.sub (tys' := [((kc 0), .int)]) [0] rfl
   have hFc := va_free (wc := [(ad 42, .inr (5, [.int (n 14), .ref (ad 43)])), (ad 43, .inr (0, [.int (n 15), .ref (ga 0), .int (n 16)])), (ga 0, .inl (kc 0, gc 0, .inl (f 29)))]) hD hS hA [42, 43, 44] hCc
   refine va_calli (va_runV (As := [.int v1, .int v2]) (rest := []) ⟨hx, hb, hml, hown, hg⟩ (c_X5_at l dC dI (ad 42) (n 14) (ad 43) (ga 0) (gc 0) (kc 0) (f 29) (n 15) (n 16) v1 v2 s.heap.size (by show (gc 0) ≤ 1048576; omega) (by show (n 16).toInt ≤ ((gc 0) : Int); omega) (by show (n 14).toInt ≤ 1000; omega)) (cwV 2 hg (gw_V gm_methodLink_RX9_235_yX5_at gm_instanceMethod_yX5_at gm_selects_RX5_yX5_at_yX5_at gm_initialized_RX5 gm_code_yX5_at_cX5_at_4_some_int_) rfl rfl rfl (by decide +kernel) ⟨Nat.le_of_ble_eq_true rfl, Nat.le_of_ble_eq_true rfl⟩) ⟨fun a U g mk q => by obtain ⟨q0, q1, qP, qK, qD, qN⟩ := q; exact ⟨q0, q1, qP, va_K.moved (u := U) (U := U.calling g mk a) (Vm.Alike.refl U.vm) qK, qD, nx_same (u := U) (U := U.calling g mk a) rfl qN⟩, va_recv hK hP (ci := 5) (q0 := 42) rfl hQ.x42, fun U hU hW => ⟨rfl, by rw [hU], by rw [hU]; exact hPc, va_K.moved hW.alike hKc, hDc.weaken (fun _ _ _ _ => trivial), nx_warm hW hN⟩⟩ rfl rfl hl.1 rfl (lv_room (Nat.le_of_ble_eq_true rfl)) dX9_seen_6 ⟨Nat.le_of_ble_eq_true rfl, Nat.le_of_ble_eq_true rfl⟩) hS (fun q _ h => hFc q h) hFc (fun r_1 u_2 t H1 locs ht hvm hw hB hz1 hk1 hS => ?_)
   obtain ⟨hP1, hD1⟩ := hB
   rw [ht] at hP1
   obtain ⟨hP, hD⟩ := va_replS hP hD [42, 43, 44] hCc hNd hk1 hFc hP1 hD1
   generalize H1 = H at hP hS ⊢
   have w_3 : r_1 = (if 0 ≤ v1.toInt ∧ v1.toInt < (n 14).toInt ∧ 0 ≤ v2.toInt ∧ v2.toInt < 4 ∧ 4 * v1.toInt + v2.toInt < (n 16).toInt then (f 29) (4 * v1.toInt + v2.toInt).toNat else -1) := hw
   refine W_msr2 (fun hm1 hm2 hm3 => ?_)
   exact W.iret (v := r_1) hx hb hr (fun t ht hW => ⟨⟨r_1, (), rfl, (by show r_1 = k_seen v1 v2 (C9.mk n f T G K F); have hX := (k_seen.eq_1 v1 v2 (C9.mk n f T G K F)).symm; (repeat (first | dsimp +instances only [c9n, c9f, c9T, c9G, c9K, c9F, b_come, b_leave, b_fill, awB, b_settle, b_wake, b_take, f_take, b_gather, f_gather, b_ask, a_ask, b_tell, c_close, d_close, k_add, k_rem, sco, k_clrF, k_mem, k_rebind, k_bnd, k_beg0, k_beg1, b_giveN, b_giveR, f_open, b_hand, k_op, b_turn, wlB, b_beat, f_anew, b_wipe, b_off, k_sadd, fits, frP, cntB, b_trace, b_child, k_lat, cond_true, cond_false, Option.elim_none, Option.elim_some, Option.getD_none, Option.getD_some] at hX | rw [← w_3] at hX | rw [if_pos (by first | with_reducible assumption | omega)] at hX | rw [if_neg (by first | with_reducible assumption | omega)] at hX | rw [jx_of (by omega)] at hX)); first | exact hX | (exfalso; omega) | exact hX), by rw [ht]; exact hP, hD, by rw [ht]; omega, by rw [ht]; omega⟩, hS.F ht⟩) hS.2.2 dX9_seen_9

set_option maxHeartbeats 8000000 in
set_option maxRecDepth 100000 in
theorem c_X9_handled (l : Launch) (dC : Nat → ClassId) (dI : Nat → Nat → Nat) (kc : Nat → ClassId) (ws : va_W) (ad : Nat → Nat) (ga : Nat → Nat) (gc : Nat → Nat) (M : Nat) (n : Nat → Int32) (f : Nat → Nat → Int32) (T : Nat → Option Nat) (G : Nat → Nat → Int32) (K : Nat → Nat → Option Nat) (F : Nat → Nat → Nat → Int32) (R : Nat) (v1 : Int32) (v2 : Int32) (sz hz : Nat) (hQ : Pic9 kc ws ad ga gc M n f T G K F) (hI : I9 M n f T gc G K F R) : Met l yX9_handled (.code yX9_handled cX9_handled 3 (some .int) :: gw) ({ frames := 3, cells := 0, slots := 0, locals := 65 }) (va_Pc [.ref (ad 0), .int v1, .int v2] (fun U => U.heap.size = sz ∧ hpS U.heap = hz ∧ va_P (dC, dI) vwCl ws U.heap ∧ va_K (dC, dI) vwCl (t9 kc) U ∧ va_D (fun _ => True) ws ∧ nx U)) (va_Qi (fun (r : Int32) (u : Unit) => r = k_handled v1 v2 (C9.mk n f T G K F)) (fun _ t => va_P (dC, dI) vwCl ws t.heap ∧ va_D (va_A ws sz) ws ∧ hpS t.heap ≤ hz ∧ t.heap.size ≤ sz) (va_A ws sz)) 0 0 (va_A ws sz) := by
  refine Met.ofW (cc := cX9_handled) (maxL := 3) (ret := (some .int)) (by decide) rfl ?_
  intro p e s m args below meth c s₁ B hml hv
  obtain ⟨rfl, hsz, rfl, hP, hK, hD0, hN⟩ := hv
  have hx := B.exec
  have hb := B.bytes
  have hr := B.returns
  have hts := atoms_spec (ws := .code yX9_handled cX9_handled 3 (some .int) :: gw) B.pre
  have hg : ∀ w ∈ gw, w.before _ s = true := fun w h => hts w (List.mem_cons_of_mem _ h)
  have hown : s.vm.findClass RX9 = some m.cls := findClass_of_methodNamed B.named
  have hlocks := B.notSynchronized
  subst hsz
  have hD := hD0.self (sz := s.heap.size)
  generalize hAe : va_A ws s.heap.size = A at hD ⊢
  have hA : ∀ q : Nat, s.heap.size ≤ q → A q := fun q h => by rw [← hAe]; exact Or.inr h
  clear hAe
  have hS : va_S A s.heap s.heap [] := va_S.rf
  have hl := lv_entry ([.ref (ad 0), .int v1, .int v2]) (n := 3) (Nat.le_of_ble_eq_true rfl)
  rw [lg_entry_eq]
  generalize (lg_sl ([.ref (ad 0), .int v1, .int v2]) ++ List.replicate (3 - (lg_sl ([.ref (ad 0), .int v1, .int v2])).length) Slot.unset).toArray = ls at hl ⊢
  have hl : lv_has ls 3 [(0, .ref (ad 0)), (1, .int v1), (2, .int v2)] := hl
  obtain ⟨h_i1, h_i2, h_i3, h_i4, h_i5, h_i6, h_i7, h_i8, h_i9, h_i10, h_i11⟩ := id hI
  have q1_ := h_i1
  unfold i1 at q1_
  have h8a := h_i8.2.1 0 (by omega)
  have h8b := h_i8.2.1 1 (by omega)
  have h8c := h_i8.2.1 2 (by omega)
  have h11a := h_i11.1.1
  have h11b := h_i11.2.1.1
  have h11c := h_i11.2.2.1.1
  have h8d := h_i8.2.2.2
  exact by
   refine lv_aload_n hx hb dX9_handled_0 rfl (lv_at hl 0 rfl) ?_
   refine va_get (D := (dC, dI)) (ci := 9) (v := .ref (ad 45)) (C := RX9) (T := TX9) (N := 15) hx hb hg gb_9 hown hK hP 0 hQ.x0 rfl 11 (by decide) (hg _ gm_fieldLink_RX9_51_ErrandGuild_asked_LErrandGuild_Ledger_) (fun _ h9 => h9) rfl dX9_handled_1 ?_
   refine lv_iload_n hx hb dX9_handled_4 rfl (lv_at hl 1 rfl) ?_
   refine lv_iload_n hx hb dX9_handled_5 rfl (lv_at hl 2 rfl) ?_
   have hCc : ([45, 46, 47] : List Nat).map (fun i => ws[i]?) = ([(ad 45, .inr (5, [.int (n 17), .ref (ad 46)])), (ad 46, .inr (0, [.int (n 18), .ref (ga 1), .int (n 19)])), (ga 1, .inl (kc 0, gc 1, .inl (f 30)))] : va_W).map some := mp3 hQ.x45 hQ.x46 hQ.x47
   have hNd : ([45, 46, 47] : List Nat).Nodup := (by decide)
   have hPc := hP.pick [45, 46, 47] hCc
   have hDc := hD.pick [45, 46, 47] hNd hCc
   have hKc := hK.sub (tys' := [((kc 0), .int)]) [0] rfl
   have hFc := va_free (wc := [(ad 45, .inr (5, [.int (n 17), .ref (ad 46)])), (ad 46, .inr (0, [.int (n 18), .ref (ga 1), .int (n 19)])), (ga 1, .inl (kc 0, gc 1, .inl (f 30)))]) hD hS hA [45, 46, 47] hCc
   refine va_calli (va_runV (As := [.int v1, .int v2]) (rest := []) ⟨hx, hb, hml, hown, hg⟩ (c_X5_at l dC dI (ad 45) (n 17) (ad 46) (ga 1) (gc 1) (kc 0) (f 30) (n 18) (n 19) v1 v2 s.heap.size (by show (gc 1) ≤ 1048576; omega) (by show (n 19).toInt ≤ ((gc 1) : Int); omega) (by show (n 17).toInt ≤ 1000; omega)) (cwV 2 hg (gw_V gm_methodLink_RX9_235_yX5_at gm_instanceMethod_yX5_at gm_selects_RX5_yX5_at_yX5_at gm_initialized_RX5 gm_code_yX5_at_cX5_at_4_some_int_) rfl rfl rfl (by decide +kernel) ⟨Nat.le_of_ble_eq_true rfl, Nat.le_of_ble_eq_true rfl⟩) ⟨fun a U g mk q => by obtain ⟨q0, q1, qP, qK, qD, qN⟩ := q; exact ⟨q0, q1, qP, va_K.moved (u := U) (U := U.calling g mk a) (Vm.Alike.refl U.vm) qK, qD, nx_same (u := U) (U := U.calling g mk a) rfl qN⟩, va_recv hK hP (ci := 5) (q0 := 45) rfl hQ.x45, fun U hU hW => ⟨rfl, by rw [hU], by rw [hU]; exact hPc, va_K.moved hW.alike hKc, hDc.weaken (fun _ _ _ _ => trivial), nx_warm hW hN⟩⟩ rfl rfl hl.1 rfl (lv_room (Nat.le_of_ble_eq_true rfl)) dX9_handled_6 ⟨Nat.le_of_ble_eq_true rfl, Nat.le_of_ble_eq_true rfl⟩) hS (fun q _ h => hFc q h) hFc (fun r_1 u_2 t H1 locs ht hvm hw hB hz1 hk1 hS => ?_)
   obtain ⟨hP1, hD1⟩ := hB
   rw [ht] at hP1
   obtain ⟨hP, hD⟩ := va_replS hP hD [45, 46, 47] hCc hNd hk1 hFc hP1 hD1
   generalize H1 = H at hP hS ⊢
   have w_3 : r_1 = (if 0 ≤ v1.toInt ∧ v1.toInt < (n 17).toInt ∧ 0 ≤ v2.toInt ∧ v2.toInt < 4 ∧ 4 * v1.toInt + v2.toInt < (n 19).toInt then (f 30) (4 * v1.toInt + v2.toInt).toNat else -1) := hw
   refine W_msr2 (fun hm1 hm2 hm3 => ?_)
   exact W.iret (v := r_1) hx hb hr (fun t ht hW => ⟨⟨r_1, (), rfl, (by show r_1 = k_handled v1 v2 (C9.mk n f T G K F); have hX := (k_handled.eq_1 v1 v2 (C9.mk n f T G K F)).symm; (repeat (first | dsimp +instances only [c9n, c9f, c9T, c9G, c9K, c9F, b_come, b_leave, b_fill, awB, b_settle, b_wake, b_take, f_take, b_gather, f_gather, b_ask, a_ask, b_tell, c_close, d_close, k_add, k_rem, sco, k_clrF, k_mem, k_rebind, k_bnd, k_beg0, k_beg1, b_giveN, b_giveR, f_open, b_hand, k_op, b_turn, wlB, b_beat, f_anew, b_wipe, b_off, k_sadd, fits, frP, cntB, b_trace, b_child, k_lat, cond_true, cond_false, Option.elim_none, Option.elim_some, Option.getD_none, Option.getD_some] at hX | rw [← w_3] at hX | rw [if_pos (by first | with_reducible assumption | omega)] at hX | rw [if_neg (by first | with_reducible assumption | omega)] at hX | rw [jx_of (by omega)] at hX)); first | exact hX | (exfalso; omega) | exact hX), by rw [ht]; exact hP, hD, by rw [ht]; omega, by rw [ht]; omega⟩, hS.F ht⟩) hS.2.2 dX9_handled_9

set_option maxHeartbeats 8000000 in
set_option maxRecDepth 100000 in
theorem c_X9_order (l : Launch) (dC : Nat → ClassId) (dI : Nat → Nat → Nat) (kc : Nat → ClassId) (ws : va_W) (ad : Nat → Nat) (ga : Nat → Nat) (gc : Nat → Nat) (M : Nat) (n : Nat → Int32) (f : Nat → Nat → Int32) (T : Nat → Option Nat) (G : Nat → Nat → Int32) (K : Nat → Nat → Option Nat) (F : Nat → Nat → Nat → Int32) (R : Nat) (v1 : Int32) (sz hz : Nat) (hQ : Pic9 kc ws ad ga gc M n f T G K F) (hI : I9 M n f T gc G K F R) : Met l yX9_order (.code yX9_order cX9_order 2 (some .int) :: gw) ({ frames := 2, cells := 0, slots := 0, locals := 42 }) (va_Pc [.ref (ad 0), .int v1] (fun U => U.heap.size = sz ∧ hpS U.heap = hz ∧ va_P (dC, dI) vwCl ws U.heap ∧ va_K (dC, dI) vwCl (t9 kc) U ∧ va_D (fun _ => True) ws ∧ nx U)) (va_Qi (fun (r : Int32) (u : Unit) => r = k_order v1 (C9.mk n f T G K F)) (fun _ t => va_P (dC, dI) vwCl ws t.heap ∧ va_D (va_A ws sz) ws ∧ hpS t.heap ≤ hz ∧ t.heap.size ≤ sz) (va_A ws sz)) 0 0 (va_A ws sz) := by
  refine Met.ofW (cc := cX9_order) (maxL := 2) (ret := (some .int)) (by decide) rfl ?_
  intro p e s m args below meth c s₁ B hml hv
  obtain ⟨rfl, hsz, rfl, hP, hK, hD0, hN⟩ := hv
  have hx := B.exec
  have hb := B.bytes
  have hr := B.returns
  have hts := atoms_spec (ws := .code yX9_order cX9_order 2 (some .int) :: gw) B.pre
  have hg : ∀ w ∈ gw, w.before _ s = true := fun w h => hts w (List.mem_cons_of_mem _ h)
  have hown : s.vm.findClass RX9 = some m.cls := findClass_of_methodNamed B.named
  have hlocks := B.notSynchronized
  subst hsz
  have hD := hD0.self (sz := s.heap.size)
  generalize hAe : va_A ws s.heap.size = A at hD ⊢
  have hA : ∀ q : Nat, s.heap.size ≤ q → A q := fun q h => by rw [← hAe]; exact Or.inr h
  clear hAe
  have hS : va_S A s.heap s.heap [] := va_S.rf
  have hl := lv_entry ([.ref (ad 0), .int v1]) (n := 2) (Nat.le_of_ble_eq_true rfl)
  rw [lg_entry_eq]
  generalize (lg_sl ([.ref (ad 0), .int v1]) ++ List.replicate (2 - (lg_sl ([.ref (ad 0), .int v1])).length) Slot.unset).toArray = ls at hl ⊢
  have hl : lv_has ls 2 [(0, .ref (ad 0)), (1, .int v1)] := hl
  obtain ⟨h_i1, h_i2, h_i3, h_i4, h_i5, h_i6, h_i7, h_i8, h_i9, h_i10, h_i11⟩ := id hI
  have q1_ := h_i1
  unfold i1 at q1_
  have h8a := h_i8.2.1 0 (by omega)
  have h8b := h_i8.2.1 1 (by omega)
  have h8c := h_i8.2.1 2 (by omega)
  have h11a := h_i11.1.1
  have h11b := h_i11.2.1.1
  have h11c := h_i11.2.2.1.1
  have h8d := h_i8.2.2.2
  exact by
   refine lv_aload_n hx hb dX9_order_0 rfl (lv_at hl 0 rfl) ?_
   refine va_get (D := (dC, dI)) (ci := 9) (v := .ref (ad 48)) (C := RX9) (T := TX9) (N := 15) hx hb hg gb_9 hown hK hP 0 hQ.x0 rfl 13 (by decide) (hg _ gm_fieldLink_RX9_57_ErrandGuild_turns_LErrandGuild_Cells_) (fun _ h9 => h9) rfl dX9_order_1 ?_
   refine lv_iload_n hx hb dX9_order_4 rfl (lv_at hl 1 rfl) ?_
   have hCc : ([48, 49] : List Nat).map (fun i => ws[i]?) = ([(ad 48, .inr (0, [.int (n 20), .ref (ga 2), .int (n 21)])), (ga 2, .inl (kc 0, gc 2, .inl (f 31)))] : va_W).map some := mp2 hQ.x48 hQ.x49
   have hNd : ([48, 49] : List Nat).Nodup := (by decide)
   have hPc := hP.pick [48, 49] hCc
   have hDc := hD.pick [48, 49] hNd hCc
   have hKc := hK.sub (tys' := [((kc 0), .int)]) [0] rfl
   have hFc := va_free (wc := [(ad 48, .inr (0, [.int (n 20), .ref (ga 2), .int (n 21)])), (ga 2, .inl (kc 0, gc 2, .inl (f 31)))]) hD hS hA [48, 49] hCc
   refine va_calli (va_runV (As := [.int v1]) (rest := []) ⟨hx, hb, hml, hown, hg⟩ (c_X0_has l dC dI (ad 48) (ga 2) (gc 2) (kc 0) (f 31) (n 20) (n 21) v1 s.heap.size (by show (gc 2) ≤ 1048576; omega) (by show (n 21).toInt ≤ ((gc 2) : Int); omega)) (cwV 1 hg (gw_V gm_methodLink_RX9_241_yX0_has gm_instanceMethod_yX0_has gm_selects_RX0_yX0_has_yX0_has gm_initialized_RX0 gm_code_yX0_has_cX0_has_2_some_boolean_) rfl rfl rfl (by decide +kernel) ⟨Nat.le_of_ble_eq_true rfl, Nat.le_of_ble_eq_true rfl⟩) ⟨fun a U g mk q => by obtain ⟨q0, q1, qP, qK, qD, qN⟩ := q; exact ⟨q0, q1, qP, va_K.moved (u := U) (U := U.calling g mk a) (Vm.Alike.refl U.vm) qK, qD, nx_same (u := U) (U := U.calling g mk a) rfl qN⟩, va_recv hK hP (ci := 0) (q0 := 48) rfl hQ.x48, fun U hU hW => ⟨rfl, by rw [hU], by rw [hU]; exact hPc, va_K.moved hW.alike hKc, hDc.weaken (fun _ _ _ _ => trivial), nx_warm hW hN⟩⟩ rfl rfl hl.1 rfl (lv_room (Nat.le_of_ble_eq_true rfl)) dX9_order_5 ⟨Nat.le_of_ble_eq_true rfl, Nat.le_of_ble_eq_true rfl⟩) hS (fun q _ h => hFc q h) hFc (fun r_1 u_2 t H1 locs ht hvm hw hB hz1 hk1 hS => ?_)
   obtain ⟨hP1, hD1⟩ := hB
   rw [ht] at hP1
   obtain ⟨hP, hD⟩ := va_replS hP hD [48, 49] hCc hNd hk1 hFc hP1 hD1
   generalize H1 = H at hP hS ⊢
   rcases hw with ⟨rfl, w_3⟩ | ⟨rfl, w_3⟩
   · refine lv_if_eq (tgt := 22) hx hb dX9_order_8 (by decide) (fun c_4 => absurd c_4 (by decide)) (fun _ => ?_)
     exact by
      refine lv_aload_n hx hb dX9_order_11 rfl (lv_at hl 0 rfl) ?_
      refine va_get (D := (dC, dI)) (ci := 9) (v := .ref (ad 48)) (C := RX9) (T := TX9) (N := 15) hx hb hg gb_9 hown hK hP 0 hQ.x0 rfl 13 (by decide) (hg _ gm_fieldLink_RX9_57_ErrandGuild_turns_LErrandGuild_Cells_) (fun _ h9 => h9) rfl dX9_order_12 ?_
      refine lv_iload_n hx hb dX9_order_15 rfl (lv_at hl 1 rfl) ?_
      have hCc : ([48, 49] : List Nat).map (fun i => ws[i]?) = ([(ad 48, .inr (0, [.int (n 20), .ref (ga 2), .int (n 21)])), (ga 2, .inl (kc 0, gc 2, .inl (f 31)))] : va_W).map some := mp2 hQ.x48 hQ.x49
      have hNd : ([48, 49] : List Nat).Nodup := (by decide)
      have hPc := hP.pick [48, 49] hCc
      have hDc := hD.pick [48, 49] hNd hCc
      have hKc := hK.sub (tys' := [((kc 0), .int)]) [0] rfl
      have hFc := va_free (wc := [(ad 48, .inr (0, [.int (n 20), .ref (ga 2), .int (n 21)])), (ga 2, .inl (kc 0, gc 2, .inl (f 31)))]) hD hS hA [48, 49] hCc
      refine va_calli (va_runV (As := [.int v1]) (rest := []) ⟨hx, hb, hml, hown, hg⟩ (c_X0_at l dC dI (ad 48) (ga 2) (gc 2) (kc 0) (f 31) (n 20) (n 21) v1 H.size (by show (gc 2) ≤ 1048576; omega) (by show (n 21).toInt ≤ ((gc 2) : Int); omega)) (cwV 1 hg (gw_V gm_methodLink_RX9_244_yX0_at gm_instanceMethod_yX0_at gm_selects_RX0_yX0_at_yX0_at gm_initialized_RX0 gm_code_yX0_at_cX0_at_2_some_int_) rfl rfl rfl (by decide +kernel) ⟨Nat.le_of_ble_eq_true rfl, Nat.le_of_ble_eq_true rfl⟩) ⟨fun a U g mk q => by obtain ⟨q0, q1, qP, qK, qD, qN⟩ := q; exact ⟨q0, q1, qP, va_K.moved (u := U) (U := U.calling g mk a) (Vm.Alike.refl U.vm) qK, qD, nx_same (u := U) (U := U.calling g mk a) rfl qN⟩, va_recv hK hP (ci := 0) (q0 := 48) rfl hQ.x48, fun U hU hW => ⟨rfl, by rw [hU], by rw [hU]; exact hPc, va_K.moved hW.alike hKc, hDc.weaken (fun _ _ _ _ => trivial), nx_warm hW hN⟩⟩ rfl rfl hl.1 rfl (lv_room (Nat.le_of_ble_eq_true rfl)) dX9_order_16 ⟨Nat.le_of_ble_eq_true rfl, Nat.le_of_ble_eq_true rfl⟩) hS (fun q _ h => hFc q h) hFc (fun r_5 u_6 t H1 locs ht hvm hw hB hz1 hk1 hS => ?_)
      obtain ⟨hP1, hD1⟩ := hB
      rw [ht] at hP1
      obtain ⟨hP, hD⟩ := va_replS hP hD [48, 49] hCc hNd hk1 hFc hP1 hD1
      generalize H1 = H at hP hS ⊢
      have w_7 : r_5 = cAt (n 21) (f 31) v1 := hw
      exact by
       refine lv_goto (tgt := 23) hx hb dX9_order_19 (by decide) ?_
       refine W_msr2 (fun hm1 hm2 hm3 => ?_)
       exact W.iret (v := r_5) hx hb hr (fun t ht hW => ⟨⟨r_5, (), rfl, (by show r_5 = k_order v1 (C9.mk n f T G K F); have hX := (k_order.eq_1 v1 (C9.mk n f T G K F)).symm; (repeat (first | dsimp +instances only [c9n, c9f, c9T, c9G, c9K, c9F, b_come, b_leave, b_fill, awB, b_settle, b_wake, b_take, f_take, b_gather, f_gather, b_ask, a_ask, b_tell, c_close, d_close, k_add, k_rem, sco, k_clrF, k_mem, k_rebind, k_bnd, k_beg0, k_beg1, b_giveN, b_giveR, f_open, b_hand, k_op, b_turn, wlB, b_beat, f_anew, b_wipe, b_off, k_sadd, fits, frP, cntB, b_trace, b_child, k_lat, cond_true, cond_false, Option.elim_none, Option.elim_some, Option.getD_none, Option.getD_some] at hX | rw [← w_7] at hX | rw [if_pos (by first | with_reducible assumption | omega)] at hX | rw [if_neg (by first | with_reducible assumption | omega)] at hX | rw [jx_of (by omega)] at hX)); first | exact hX | (exfalso; omega) | exact hX), by rw [ht]; exact hP, hD, by rw [ht]; omega, by rw [ht]; omega⟩, hS.F ht⟩) hS.2.2 dX9_order_23
   · refine lv_if_eq (tgt := 22) hx hb dX9_order_8 (by decide) (fun _ => ?_) (fun c_8 => absurd c_8 (by decide))
     refine lv_iconst (v := -1) hx hb dX9_order_22 (by decide) ?_
     refine W_msr2 (fun hm1 hm2 hm3 => ?_)
     exact W.iret (v := -1) hx hb hr (fun t ht hW => ⟨⟨-1, (), rfl, (by show (-1 : Int32) = k_order v1 (C9.mk n f T G K F); have hX := (k_order.eq_1 v1 (C9.mk n f T G K F)).symm; (repeat (first | dsimp +instances only [c9n, c9f, c9T, c9G, c9K, c9F, b_come, b_leave, b_fill, awB, b_settle, b_wake, b_take, f_take, b_gather, f_gather, b_ask, a_ask, b_tell, c_close, d_close, k_add, k_rem, sco, k_clrF, k_mem, k_rebind, k_bnd, k_beg0, k_beg1, b_giveN, b_giveR, f_open, b_hand, k_op, b_turn, wlB, b_beat, f_anew, b_wipe, b_off, k_sadd, fits, frP, cntB, b_trace, b_child, k_lat, cond_true, cond_false, Option.elim_none, Option.elim_some, Option.getD_none, Option.getD_some] at hX | rw [if_pos (by first | with_reducible assumption | omega)] at hX | rw [if_neg (by first | with_reducible assumption | omega)] at hX | rw [jx_of (by omega)] at hX)); first | exact hX | (exfalso; omega) | exact hX), by rw [ht]; exact hP, hD, by rw [ht]; omega, by rw [ht]; omega⟩, hS.F ht⟩) hS.2.2 dX9_order_23

set_option maxHeartbeats 8000000 in
set_option maxRecDepth 100000 in
theorem c_X9_remark (l : Launch) (dC : Nat → ClassId) (dI : Nat → Nat → Nat) (kc : Nat → ClassId) (ws : va_W) (ad : Nat → Nat) (ga : Nat → Nat) (gc : Nat → Nat) (M : Nat) (n : Nat → Int32) (f : Nat → Nat → Int32) (T : Nat → Option Nat) (G : Nat → Nat → Int32) (K : Nat → Nat → Option Nat) (F : Nat → Nat → Nat → Int32) (R : Nat) (v1 : Int32) (v2 : Int32) (sz hz : Nat) (hQ : Pic9 kc ws ad ga gc M n f T G K F) (hI : I9 M n f T gc G K F R) (hR : R ≤ 310000) : Met l yX9_remark (.code yX9_remark cX9_remark 4 (some .int) :: gw) ({ frames := 2, cells := 0, slots := 0, locals := 42 }) (va_Pc [.ref (ad 0), .int v1, .int v2] (fun U => U.heap.size = sz ∧ hpS U.heap = hz ∧ va_P (dC, dI) vwCl ws U.heap ∧ va_K (dC, dI) vwCl (t9 kc) U ∧ va_D (fun _ => True) ws ∧ nx U)) (va_Qi (fun (r : Int32) (u : Unit) => r = k_remark v1 v2 (C9.mk n f T G K F)) (fun _ t => va_P (dC, dI) vwCl ws t.heap ∧ va_D (va_A ws sz) ws ∧ hpS t.heap ≤ hz ∧ t.heap.size ≤ sz) (va_A ws sz)) 0 0 (va_A ws sz) := by
  refine Met.ofW (cc := cX9_remark) (maxL := 4) (ret := (some .int)) (by decide) rfl ?_
  intro p e s m args below meth c s₁ B hml hv
  obtain ⟨rfl, hsz, rfl, hP, hK, hD0, hN⟩ := hv
  have hx := B.exec
  have hb := B.bytes
  have hr := B.returns
  have hts := atoms_spec (ws := .code yX9_remark cX9_remark 4 (some .int) :: gw) B.pre
  have hg : ∀ w ∈ gw, w.before _ s = true := fun w h => hts w (List.mem_cons_of_mem _ h)
  have hown : s.vm.findClass RX9 = some m.cls := findClass_of_methodNamed B.named
  have hlocks := B.notSynchronized
  subst hsz
  have hD := hD0.self (sz := s.heap.size)
  generalize hAe : va_A ws s.heap.size = A at hD ⊢
  have hA : ∀ q : Nat, s.heap.size ≤ q → A q := fun q h => by rw [← hAe]; exact Or.inr h
  clear hAe
  have hS : va_S A s.heap s.heap [] := va_S.rf
  have hl := lv_entry ([.ref (ad 0), .int v1, .int v2]) (n := 4) (Nat.le_of_ble_eq_true rfl)
  rw [lg_entry_eq]
  generalize (lg_sl ([.ref (ad 0), .int v1, .int v2]) ++ List.replicate (4 - (lg_sl ([.ref (ad 0), .int v1, .int v2])).length) Slot.unset).toArray = ls at hl ⊢
  have hl : lv_has ls 4 [(0, .ref (ad 0)), (1, .int v1), (2, .int v2)] := hl
  obtain ⟨h_i1, h_i2, h_i3, h_i4, h_i5, h_i6, h_i7, h_i8, h_i9, h_i10, h_i11⟩ := id hI
  have q1_ := h_i1
  unfold i1 at q1_
  exact by
   refine lv_aload_n hx hb dX9_remark_0 rfl (lv_at hl 0 rfl) ?_
   refine lv_iload_n hx hb dX9_remark_1 rfl (lv_at hl 1 rfl) ?_
   have hFc := free_all hD hS hA
   refine va_callq (va_runV (As := [.int v1]) (rest := []) ⟨hx, hb, hml, hown, hg⟩ (c_X9_runAt l dC dI kc ws ad ga gc M n f T G K F R v1 s.heap.size (hpS s.heap) hQ ⟨h_i1, h_i2, h_i3, h_i4, h_i5, h_i6, h_i7, h_i8, h_i9, h_i10, h_i11⟩) (cwV 1 hg (gw_V gm_methodLink_RX9_134_yX9_runAt gm_instanceMethod_yX9_runAt gm_selects_RX9_yX9_runAt_yX9_runAt gm_initialized_RX9 gm_code_yX9_runAt_cX9_runAt_2_some_object_ErrandGuild_Run_) rfl rfl rfl (by decide +kernel) ⟨Nat.le_of_ble_eq_true rfl, Nat.le_of_ble_eq_true rfl⟩) ⟨fun a U g mk q => by obtain ⟨q0, q1, q2, qP, qK, qD, qN⟩ := q; exact ⟨q0, q1, q2, qP, va_K.moved (u := U) (U := U.calling g mk a) (Vm.Alike.refl U.vm) qK, qD, nx_same (u := U) (U := U.calling g mk a) rfl qN⟩, va_recv hK hP (ci := 9) (q0 := 0) rfl hQ.x0, fun U hU hW => ⟨rfl, by rw [hU], by rw [hU], by rw [hU]; exact hP, va_K.moved hW.alike hK, hD.weaken (fun _ _ _ _ => trivial), nx_warm hW hN⟩⟩ rfl rfl hl.1 rfl (lv_room (Nat.le_of_ble_eq_true rfl)) dX9_remark_2 ⟨Nat.le_of_ble_eq_true rfl, Nat.le_of_ble_eq_true rfl⟩) hS (fun q _ h => hFc q h) hFc (fun r_1 u_2 t H1 locs ht hvm hw hB hz1 hk1 hS => ?_)
   obtain ⟨hP, hD, hy1, hy2⟩ := hB
   rw [ht] at hP hy1 hy2
   have hD := hD.weaken (fun k q _ h => hFc _ h)
   have q1_ := h_i1
   unfold i1 at q1_
   generalize H1 = H at hP hS ⊢
   rcases hw with ⟨rfl, w_3⟩ | ⟨rfl, w_3⟩
   · have w_3 : (0 ≤ v1.toInt ∧ v1.toInt < (n 0).toInt) := w_3
     have hl_4 : v1.toInt.toNat < M := by omega
     refine W.eq (g2 := F0 m 5 ls [.ref (ad (50 + 16 * v1.toInt.toNat))]) rfl ?_
     exact by
      refine lv_astore_n (lv' := [(3, .ref (ad (50 + 16 * v1.toInt.toNat))), (0, .ref (ad 0)), (1, .int v1), (2, .int v2)]) hx hb dX9_remark_5 rfl hl (by decide) rfl (fun ls hl => ?_)
      refine lv_aload_n hx hb dX9_remark_6 rfl (lv_at hl 0 rfl) ?_
      refine lv_ifnull hx hb dX9_remark_7 ?_
      refine lv_aload_n hx hb dX9_remark_10 rfl (lv_at hl 0 rfl) ?_
      refine va_get (D := (dC, dI)) (ci := 7) (v := .ref (ad (50 + 16 * v1.toInt.toNat + 1))) (C := RX7) (T := TX7) (N := 15) hx hb hg gb_7 hown hK hP (50 + 16 * v1.toInt.toNat) (hQ.b0 hl_4) rfl 10 (by decide) (hg _ gm_fieldLink_RX9_151_ErrandGuild_Run_kin_LErrandGuild_Kin_) (fun _ h9 => h9) rfl dX9_remark_11 ?_
      refine va_get (D := (dC, dI)) (ci := 4) (v := va_rf (rA9 ad (K v1.toInt.toNat 0))) (C := RX4) (T := TX4) (N := 9) hx hb hg gb_4 hown hK hP (50 + 16 * v1.toInt.toNat + 1) (hQ.b1 hl_4) rfl 0 (by decide) (hg _ gm_fieldLink_RX9_155_ErrandGuild_Kin_giver_LErrandGuild_Run_) (fun _ h9 => h9) rfl dX9_remark_14 ?_
      rcases eo_5 : K v1.toInt.toNat 0 with _ | j_6
      · refine W.eq (g2 := F0 m 17 ls [.null]) (by first | rfl | (rw [eo_5]; rfl)) ?_
        refine lv_ifnullN (tgt := 22) hx hb dX9_remark_17 (by decide) ?_
        refine lv_aload_n hx hb dX9_remark_22 rfl (lv_at hl 0 rfl) ?_
        refine va_get (D := (dC, dI)) (ci := 7) (v := .ref (ad (50 + 16 * v1.toInt.toNat + 14))) (C := RX7) (T := TX7) (N := 15) hx hb hg gb_7 hown hK hP (50 + 16 * v1.toInt.toNat) (hQ.b0 hl_4) rfl 14 (by decide) (hg _ gm_fieldLink_RX9_238_ErrandGuild_Run_remarks_LErrandGuild_Cells_) (fun _ h9 => h9) rfl dX9_remark_23 ?_
        refine lv_iload_n hx hb dX9_remark_26 rfl (lv_at hl 3 rfl) ?_
        have hCc : ([(50 + 16 * v1.toInt.toNat + 14), (50 + 16 * v1.toInt.toNat + 15)] : List Nat).map (fun i => ws[i]?) = ([(ad (50 + 16 * v1.toInt.toNat + 14), .inr (0, [.int (G v1.toInt.toNat 22), .ref (ga (3 + v1.toInt.toNat)), .int (G v1.toInt.toNat 23)])), (ga (3 + v1.toInt.toNat), .inl (kc 0, gc (3 + v1.toInt.toNat), .inl (F v1.toInt.toNat 9)))] : va_W).map some := mp2 (hQ.b14 hl_4) (hQ.b15 hl_4)
        have hNd : ([(50 + 16 * v1.toInt.toNat + 14), (50 + 16 * v1.toInt.toNat + 15)] : List Nat).Nodup := (nd_off (50 + 16 * v1.toInt.toNat) (l := [14, 15]) (by decide))
        have hPc := hP.pick [(50 + 16 * v1.toInt.toNat + 14), (50 + 16 * v1.toInt.toNat + 15)] hCc
        have hDc := hD.pick [(50 + 16 * v1.toInt.toNat + 14), (50 + 16 * v1.toInt.toNat + 15)] hNd hCc
        have hKc := hK.sub (tys' := [((kc 0), .int)]) [0] rfl
        have hFc := va_free (wc := [(ad (50 + 16 * v1.toInt.toNat + 14), .inr (0, [.int (G v1.toInt.toNat 22), .ref (ga (3 + v1.toInt.toNat)), .int (G v1.toInt.toNat 23)])), (ga (3 + v1.toInt.toNat), .inl (kc 0, gc (3 + v1.toInt.toNat), .inl (F v1.toInt.toNat 9)))]) hD hS hA [(50 + 16 * v1.toInt.toNat + 14), (50 + 16 * v1.toInt.toNat + 15)] hCc
        exact by
         refine va_calli (va_runV (As := [.int v2]) (rest := []) ⟨hx, hb, hml, hown, hg⟩ (c_X0_has l dC dI (ad (50 + 16 * v1.toInt.toNat + 14)) (ga (3 + v1.toInt.toNat)) (gc (3 + v1.toInt.toNat)) (kc 0) (F v1.toInt.toNat 9) (G v1.toInt.toNat 22) (G v1.toInt.toNat 23) v2 H.size (by have := gc_le h_i9 (show v1.toInt.toNat < M by omega); omega) (by have := (h_i11.2.2.2 v1.toInt.toNat (by omega)).1; omega)) (cwV 1 hg (gw_V gm_methodLink_RX9_241_yX0_has gm_instanceMethod_yX0_has gm_selects_RX0_yX0_has_yX0_has gm_initialized_RX0 gm_code_yX0_has_cX0_has_2_some_boolean_) rfl rfl rfl (by decide +kernel) ⟨Nat.le_of_ble_eq_true rfl, Nat.le_of_ble_eq_true rfl⟩) ⟨fun a U g mk q => by obtain ⟨q0, q1, qP, qK, qD, qN⟩ := q; exact ⟨q0, q1, qP, va_K.moved (u := U) (U := U.calling g mk a) (Vm.Alike.refl U.vm) qK, qD, nx_same (u := U) (U := U.calling g mk a) rfl qN⟩, va_recv hK hP (ci := 0) (q0 := (50 + 16 * v1.toInt.toNat + 14)) rfl (hQ.b14 hl_4), fun U hU hW => ⟨rfl, by rw [hU], by rw [hU]; exact hPc, va_K.moved hW.alike hKc, hDc.weaken (fun _ _ _ _ => trivial), nx_warm hW hN⟩⟩ rfl rfl hl.1 rfl (lv_room (Nat.le_of_ble_eq_true rfl)) dX9_remark_27 ⟨Nat.le_of_ble_eq_true rfl, Nat.le_of_ble_eq_true rfl⟩) hS (fun q _ h => hFc q h) hFc (fun r_7 u_8 t H1 locs ht hvm hw hB hz1 hk1 hS => ?_)
         obtain ⟨hP1, hD1⟩ := hB
         rw [ht] at hP1
         obtain ⟨hP, hD⟩ := va_replS hP hD [(50 + 16 * v1.toInt.toNat + 14), (50 + 16 * v1.toInt.toNat + 15)] hCc hNd hk1 hFc hP1 hD1
         generalize H1 = H at hP hS ⊢
         rcases hw with ⟨rfl, w_9⟩ | ⟨rfl, w_9⟩
         · refine lv_if_eq (tgt := 44) hx hb dX9_remark_30 (by decide) (fun c_10 => absurd c_10 (by decide)) (fun _ => ?_)
           refine lv_aload_n hx hb dX9_remark_33 rfl (lv_at hl 0 rfl) ?_
           refine va_get (D := (dC, dI)) (ci := 7) (v := .ref (ad (50 + 16 * v1.toInt.toNat + 14))) (C := RX7) (T := TX7) (N := 15) hx hb hg gb_7 hown hK hP (50 + 16 * v1.toInt.toNat) (hQ.b0 hl_4) rfl 14 (by decide) (hg _ gm_fieldLink_RX9_238_ErrandGuild_Run_remarks_LErrandGuild_Cells_) (fun _ h9 => h9) rfl dX9_remark_34 ?_
           refine lv_iload_n hx hb dX9_remark_37 rfl (lv_at hl 3 rfl) ?_
           have hCc : ([(50 + 16 * v1.toInt.toNat + 14), (50 + 16 * v1.toInt.toNat + 15)] : List Nat).map (fun i => ws[i]?) = ([(ad (50 + 16 * v1.toInt.toNat + 14), .inr (0, [.int (G v1.toInt.toNat 22), .ref (ga (3 + v1.toInt.toNat)), .int (G v1.toInt.toNat 23)])), (ga (3 + v1.toInt.toNat), .inl (kc 0, gc (3 + v1.toInt.toNat), .inl (F v1.toInt.toNat 9)))] : va_W).map some := mp2 (hQ.b14 hl_4) (hQ.b15 hl_4)
           have hNd : ([(50 + 16 * v1.toInt.toNat + 14), (50 + 16 * v1.toInt.toNat + 15)] : List Nat).Nodup := (nd_off (50 + 16 * v1.toInt.toNat) (l := [14, 15]) (by decide))
           have hPc := hP.pick [(50 + 16 * v1.toInt.toNat + 14), (50 + 16 * v1.toInt.toNat + 15)] hCc
           have hDc := hD.pick [(50 + 16 * v1.toInt.toNat + 14), (50 + 16 * v1.toInt.toNat + 15)] hNd hCc
           have hKc := hK.sub (tys' := [((kc 0), .int)]) [0] rfl
           have hFc := va_free (wc := [(ad (50 + 16 * v1.toInt.toNat + 14), .inr (0, [.int (G v1.toInt.toNat 22), .ref (ga (3 + v1.toInt.toNat)), .int (G v1.toInt.toNat 23)])), (ga (3 + v1.toInt.toNat), .inl (kc 0, gc (3 + v1.toInt.toNat), .inl (F v1.toInt.toNat 9)))]) hD hS hA [(50 + 16 * v1.toInt.toNat + 14), (50 + 16 * v1.toInt.toNat + 15)] hCc
           exact by
            refine va_calli (va_runV (As := [.int v2]) (rest := []) ⟨hx, hb, hml, hown, hg⟩ (c_X0_at l dC dI (ad (50 + 16 * v1.toInt.toNat + 14)) (ga (3 + v1.toInt.toNat)) (gc (3 + v1.toInt.toNat)) (kc 0) (F v1.toInt.toNat 9) (G v1.toInt.toNat 22) (G v1.toInt.toNat 23) v2 H.size (by have := gc_le h_i9 (show v1.toInt.toNat < M by omega); omega) (by have := (h_i11.2.2.2 v1.toInt.toNat (by omega)).1; omega)) (cwV 1 hg (gw_V gm_methodLink_RX9_244_yX0_at gm_instanceMethod_yX0_at gm_selects_RX0_yX0_at_yX0_at gm_initialized_RX0 gm_code_yX0_at_cX0_at_2_some_int_) rfl rfl rfl (by decide +kernel) ⟨Nat.le_of_ble_eq_true rfl, Nat.le_of_ble_eq_true rfl⟩) ⟨fun a U g mk q => by obtain ⟨q0, q1, qP, qK, qD, qN⟩ := q; exact ⟨q0, q1, qP, va_K.moved (u := U) (U := U.calling g mk a) (Vm.Alike.refl U.vm) qK, qD, nx_same (u := U) (U := U.calling g mk a) rfl qN⟩, va_recv hK hP (ci := 0) (q0 := (50 + 16 * v1.toInt.toNat + 14)) rfl (hQ.b14 hl_4), fun U hU hW => ⟨rfl, by rw [hU], by rw [hU]; exact hPc, va_K.moved hW.alike hKc, hDc.weaken (fun _ _ _ _ => trivial), nx_warm hW hN⟩⟩ rfl rfl hl.1 rfl (lv_room (Nat.le_of_ble_eq_true rfl)) dX9_remark_38 ⟨Nat.le_of_ble_eq_true rfl, Nat.le_of_ble_eq_true rfl⟩) hS (fun q _ h => hFc q h) hFc (fun r_11 u_12 t H1 locs ht hvm hw hB hz1 hk1 hS => ?_)
            obtain ⟨hP1, hD1⟩ := hB
            rw [ht] at hP1
            obtain ⟨hP, hD⟩ := va_replS hP hD [(50 + 16 * v1.toInt.toNat + 14), (50 + 16 * v1.toInt.toNat + 15)] hCc hNd hk1 hFc hP1 hD1
            generalize H1 = H at hP hS ⊢
            have w_13 : r_11 = cAt (G v1.toInt.toNat 23) (F v1.toInt.toNat 9) v2 := hw
            refine lv_goto (tgt := 45) hx hb dX9_remark_41 (by decide) ?_
            refine W_msr2 (fun hm1 hm2 hm3 => ?_)
            exact W.iret (v := r_11) hx hb hr (fun t ht hW => ⟨⟨r_11, (), rfl, (by show r_11 = k_remark v1 v2 (C9.mk n f T G K F); have hX := (k_remark.eq_1 v1 v2 (C9.mk n f T G K F)).symm; (repeat (first | dsimp +instances only [c9n, c9f, c9T, c9G, c9K, c9F, b_come, b_leave, b_fill, awB, b_settle, b_wake, b_take, f_take, b_gather, f_gather, b_ask, a_ask, b_tell, c_close, d_close, k_add, k_rem, sco, k_clrF, k_mem, k_rebind, k_bnd, k_beg0, k_beg1, b_giveN, b_giveR, f_open, b_hand, k_op, b_turn, wlB, b_beat, f_anew, b_wipe, b_off, k_sadd, fits, frP, cntB, b_trace, b_child, k_lat, cond_true, cond_false, Option.elim_none, Option.elim_some, Option.getD_none, Option.getD_some] at hX | rw [eo_5] at hX | rw [← w_13] at hX | rw [if_pos (by first | with_reducible assumption | omega)] at hX | rw [if_neg (by first | with_reducible assumption | omega)] at hX | rw [jx_of (by omega)] at hX)); first | exact hX | (exfalso; omega) | exact hX), by rw [ht]; exact hP, hD, by rw [ht]; omega, by rw [ht]; omega⟩, hS.F ht⟩) hS.2.2 dX9_remark_45
         · refine lv_if_eq (tgt := 44) hx hb dX9_remark_30 (by decide) (fun _ => ?_) (fun c_14 => absurd c_14 (by decide))
           refine lv_iconst (v := 0) hx hb dX9_remark_44 (by decide) ?_
           refine W_msr2 (fun hm1 hm2 hm3 => ?_)
           exact W.iret (v := 0) hx hb hr (fun t ht hW => ⟨⟨0, (), rfl, (by show (0 : Int32) = k_remark v1 v2 (C9.mk n f T G K F); have hX := (k_remark.eq_1 v1 v2 (C9.mk n f T G K F)).symm; (repeat (first | dsimp +instances only [c9n, c9f, c9T, c9G, c9K, c9F, b_come, b_leave, b_fill, awB, b_settle, b_wake, b_take, f_take, b_gather, f_gather, b_ask, a_ask, b_tell, c_close, d_close, k_add, k_rem, sco, k_clrF, k_mem, k_rebind, k_bnd, k_beg0, k_beg1, b_giveN, b_giveR, f_open, b_hand, k_op, b_turn, wlB, b_beat, f_anew, b_wipe, b_off, k_sadd, fits, frP, cntB, b_trace, b_child, k_lat, cond_true, cond_false, Option.elim_none, Option.elim_some, Option.getD_none, Option.getD_some] at hX | rw [eo_5] at hX | rw [if_pos (by first | with_reducible assumption | omega)] at hX | rw [if_neg (by first | with_reducible assumption | omega)] at hX | rw [jx_of (by omega)] at hX)); first | exact hX | (exfalso; omega) | exact hX), by rw [ht]; exact hP, hD, by rw [ht]; omega, by rw [ht]; omega⟩, hS.F ht⟩) hS.2.2 dX9_remark_45
      · refine W.eq (g2 := F0 m 17 ls [.ref (ad (50 + 16 * j_6))]) (by first | rfl | (rw [eo_5]; rfl)) ?_
        have hj_6 : j_6 < M := h_i3 _ _ _ hl_4 eo_5
        refine lv_ifnull hx hb dX9_remark_17 ?_
        refine lv_iconst (v := 0) hx hb dX9_remark_20 (by decide) ?_
        refine W_msr2 (fun hm1 hm2 hm3 => ?_)
        exact W.iret (v := 0) hx hb hr (fun t ht hW => ⟨⟨0, (), rfl, (by show (0 : Int32) = k_remark v1 v2 (C9.mk n f T G K F); have hX := (k_remark.eq_1 v1 v2 (C9.mk n f T G K F)).symm; (repeat (first | dsimp +instances only [c9n, c9f, c9T, c9G, c9K, c9F, b_come, b_leave, b_fill, awB, b_settle, b_wake, b_take, f_take, b_gather, f_gather, b_ask, a_ask, b_tell, c_close, d_close, k_add, k_rem, sco, k_clrF, k_mem, k_rebind, k_bnd, k_beg0, k_beg1, b_giveN, b_giveR, f_open, b_hand, k_op, b_turn, wlB, b_beat, f_anew, b_wipe, b_off, k_sadd, fits, frP, cntB, b_trace, b_child, k_lat, cond_true, cond_false, Option.elim_none, Option.elim_some, Option.getD_none, Option.getD_some] at hX | rw [eo_5] at hX | rw [if_pos (by first | with_reducible assumption | omega)] at hX | rw [if_neg (by first | with_reducible assumption | omega)] at hX | rw [jx_of (by omega)] at hX)); first | exact hX | (exfalso; omega) | exact hX), by rw [ht]; exact hP, hD, by rw [ht]; omega, by rw [ht]; omega⟩, hS.F ht⟩) hS.2.2 dX9_remark_21
   · have w_3 : ¬ (0 ≤ v1.toInt ∧ v1.toInt < (n 0).toInt) := w_3
     refine W.eq (g2 := F0 m 5 ls [.null]) rfl ?_
     refine lv_astore_nN (lv' := [(3, .null), (0, .ref (ad 0)), (1, .int v1), (2, .int v2)]) hx hb dX9_remark_5 rfl hl (by decide) rfl (fun ls hl => ?_)
     refine lv_aload_nN hx hb dX9_remark_6 rfl (lv_at hl 0 rfl) ?_
     refine lv_ifnullN (tgt := 20) hx hb dX9_remark_7 (by decide) ?_
     refine lv_iconst (v := 0) hx hb dX9_remark_20 (by decide) ?_
     refine W_msr2 (fun hm1 hm2 hm3 => ?_)
     exact W.iret (v := 0) hx hb hr (fun t ht hW => ⟨⟨0, (), rfl, (by show (0 : Int32) = k_remark v1 v2 (C9.mk n f T G K F); have hX := (k_remark.eq_1 v1 v2 (C9.mk n f T G K F)).symm; (repeat (first | dsimp +instances only [c9n, c9f, c9T, c9G, c9K, c9F, b_come, b_leave, b_fill, awB, b_settle, b_wake, b_take, f_take, b_gather, f_gather, b_ask, a_ask, b_tell, c_close, d_close, k_add, k_rem, sco, k_clrF, k_mem, k_rebind, k_bnd, k_beg0, k_beg1, b_giveN, b_giveR, f_open, b_hand, k_op, b_turn, wlB, b_beat, f_anew, b_wipe, b_off, k_sadd, fits, frP, cntB, b_trace, b_child, k_lat, cond_true, cond_false, Option.elim_none, Option.elim_some, Option.getD_none, Option.getD_some] at hX | rw [if_pos (by first | with_reducible assumption | omega)] at hX | rw [if_neg (by first | with_reducible assumption | omega)] at hX | rw [jx_of (by omega)] at hX)); first | exact hX | (exfalso; omega) | exact hX), by rw [ht]; exact hP, hD, by rw [ht]; omega, by rw [ht]; omega⟩, hS.F ht⟩) hS.2.2 dX9_remark_21

set_option maxHeartbeats 8000000 in
set_option maxRecDepth 100000 in
theorem c_X9_count (l : Launch) (dC : Nat → ClassId) (dI : Nat → Nat → Nat) (kc : Nat → ClassId) (ws : va_W) (ad : Nat → Nat) (ga : Nat → Nat) (gc : Nat → Nat) (M : Nat) (n : Nat → Int32) (f : Nat → Nat → Int32) (T : Nat → Option Nat) (G : Nat → Nat → Int32) (K : Nat → Nat → Option Nat) (F : Nat → Nat → Nat → Int32) (R : Nat) (v1 : Int32) (sz hz : Nat) (hQ : Pic9 kc ws ad ga gc M n f T G K F) (hI : I9 M n f T gc G K F R) : Met l yX9_count (.code yX9_count cX9_count 2 (some .int) :: gw) ({ frames := 2, cells := 0, slots := 0, locals := 45 }) (va_Pc [.ref (ad 0), .int v1] (fun U => U.heap.size = sz ∧ hpS U.heap = hz ∧ va_P (dC, dI) vwCl ws U.heap ∧ va_K (dC, dI) vwCl (t9 kc) U ∧ va_D (fun _ => True) ws ∧ nx U)) (va_Qi (fun (r : Int32) (u : Unit) => r = k_count v1 (C9.mk n f T G K F)) (fun _ t => va_P (dC, dI) vwCl ws t.heap ∧ va_D (va_A ws sz) ws ∧ hpS t.heap ≤ hz ∧ t.heap.size ≤ sz) (va_A ws sz)) 0 0 (va_A ws sz) := by
  refine Met.ofW (cc := cX9_count) (maxL := 2) (ret := (some .int)) (by decide) rfl ?_
  intro p e s m args below meth c s₁ B hml hv
  obtain ⟨rfl, hsz, rfl, hP, hK, hD0, hN⟩ := hv
  have hx := B.exec
  have hb := B.bytes
  have hr := B.returns
  have hts := atoms_spec (ws := .code yX9_count cX9_count 2 (some .int) :: gw) B.pre
  have hg : ∀ w ∈ gw, w.before _ s = true := fun w h => hts w (List.mem_cons_of_mem _ h)
  have hown : s.vm.findClass RX9 = some m.cls := findClass_of_methodNamed B.named
  have hlocks := B.notSynchronized
  subst hsz
  have hD := hD0.self (sz := s.heap.size)
  generalize hAe : va_A ws s.heap.size = A at hD ⊢
  have hA : ∀ q : Nat, s.heap.size ≤ q → A q := fun q h => by rw [← hAe]; exact Or.inr h
  clear hAe
  have hS : va_S A s.heap s.heap [] := va_S.rf
  have hl := lv_entry ([.ref (ad 0), .int v1]) (n := 2) (Nat.le_of_ble_eq_true rfl)
  rw [lg_entry_eq]
  generalize (lg_sl ([.ref (ad 0), .int v1]) ++ List.replicate (2 - (lg_sl ([.ref (ad 0), .int v1])).length) Slot.unset).toArray = ls at hl ⊢
  have hl : lv_has ls 2 [(0, .ref (ad 0)), (1, .int v1)] := hl
  obtain ⟨h_i1, h_i2, h_i3, h_i4, h_i5, h_i6, h_i7, h_i8, h_i9, h_i10, h_i11⟩ := id hI
  have q1_ := h_i1
  unfold i1 at q1_
  exact by
   refine lv_iload_n hx hb dX9_count_0 rfl (lv_at hl 1 rfl) ?_
   rcases (show (v1.toInt < 0 ∨ 10 < v1.toInt) ∨ v1.toInt = 0 ∨ v1.toInt = 1 ∨ v1.toInt = 2 ∨ v1.toInt = 3 ∨ v1.toInt = 4 ∨ v1.toInt = 5 ∨ v1.toInt = 6 ∨ v1.toInt = 7 ∨ v1.toInt = 8 ∨ v1.toInt = 9 ∨ v1.toInt = 10 by omega) with sw_1 | sw_1 | sw_1 | sw_1 | sw_1 | sw_1 | sw_1 | sw_1 | sw_1 | sw_1 | sw_1 | sw_1
   · refine lv_tableOut (tgt := 120) hx hb dX9_count_1 sw_1 (by decide) ?_
     refine lv_aload_n hx hb dX9_count_120 rfl (lv_at hl 0 rfl) ?_
     refine lv_iload_n hx hb dX9_count_121 rfl (lv_at hl 1 rfl) ?_
     have hFc := free_all hD hS hA
     refine va_calli (va_runV (As := [.int v1]) (rest := []) ⟨hx, hb, hml, hown, hg⟩ (c_X9_runOnThread l dC dI kc ws ad ga gc M n f T G K F R v1 s.heap.size (hpS s.heap) hQ ⟨h_i1, h_i2, h_i3, h_i4, h_i5, h_i6, h_i7, h_i8, h_i9, h_i10, h_i11⟩) (cwV 1 hg (gw_V gm_methodLink_RX9_250_yX9_runOnThread gm_instanceMethod_yX9_runOnThread gm_selects_RX9_yX9_runOnThread_yX9_runOnThread gm_initialized_RX9 gm_code_yX9_runOnThread_cX9_runOnThread_3_some_int_) rfl rfl rfl (by decide +kernel) ⟨Nat.le_of_ble_eq_true rfl, Nat.le_of_ble_eq_true rfl⟩) ⟨fun a U g mk q => by obtain ⟨q0, q1, q2, qP, qK, qD, qN⟩ := q; exact ⟨q0, q1, q2, qP, va_K.moved (u := U) (U := U.calling g mk a) (Vm.Alike.refl U.vm) qK, qD, nx_same (u := U) (U := U.calling g mk a) rfl qN⟩, va_recv hK hP (ci := 9) (q0 := 0) rfl hQ.x0, fun U hU hW => ⟨rfl, by rw [hU], by rw [hU], by rw [hU]; exact hP, va_K.moved hW.alike hK, hD.weaken (fun _ _ _ _ => trivial), nx_warm hW hN⟩⟩ rfl rfl hl.1 rfl (lv_room (Nat.le_of_ble_eq_true rfl)) dX9_count_122 ⟨Nat.le_of_ble_eq_true rfl, Nat.le_of_ble_eq_true rfl⟩) hS (fun q _ h => hFc q h) hFc (fun r_2 u_3 t H1 locs ht hvm hw hB hz1 hk1 hS => ?_)
     obtain ⟨hP, hD, hy1, hy2⟩ := hB
     rw [ht] at hP hy1 hy2
     have hD := hD.weaken (fun k q _ h => hFc _ h)
     have q1_ := h_i1
     unfold i1 at q1_
     generalize H1 = H at hP hS ⊢
     have hc_5 : r_2 = k_onT v1 (C9.mk n f T G K F) := hw
     refine W_msr2 (fun hm1 hm2 hm3 => ?_)
     exact W.iret (v := r_2) hx hb hr (fun t ht hW => ⟨⟨r_2, (), rfl, (by show r_2 = k_count v1 (C9.mk n f T G K F); have hX := (k_count.eq_1 v1 (C9.mk n f T G K F)).symm; (repeat (first | dsimp +instances only [c9n, c9f, c9T, c9G, c9K, c9F, b_come, b_leave, b_fill, awB, b_settle, b_wake, b_take, f_take, b_gather, f_gather, b_ask, a_ask, b_tell, c_close, d_close, k_add, k_rem, sco, k_clrF, k_mem, k_rebind, k_bnd, k_beg0, k_beg1, b_giveN, b_giveR, f_open, b_hand, k_op, b_turn, wlB, b_beat, f_anew, b_wipe, b_off, k_sadd, fits, frP, cntB, b_trace, b_child, k_lat, cond_true, cond_false, Option.elim_none, Option.elim_some, Option.getD_none, Option.getD_some] at hX | rw [← hc_5] at hX | rw [if_pos (by first | with_reducible assumption | omega)] at hX | rw [if_neg (by first | with_reducible assumption | omega)] at hX | rw [jx_of (by omega)] at hX)); first | exact hX | (exfalso; omega) | exact hX), by rw [ht]; exact hP, hD, by rw [ht]; omega, by rw [ht]; omega⟩, hS.F ht⟩) hS.2.2 dX9_count_125
   · refine lv_tableIn (tgt := 60) hx hb dX9_count_1 (by omega) (by omega) (by rw [sw_1]; rfl) (by decide) ?_
     exact by
      refine lv_aload_n hx hb dX9_count_60 rfl (lv_at hl 0 rfl) ?_
      refine va_get (D := (dC, dI)) (ci := 9) (v := .int (n 0)) (C := RX9) (T := TX9) (N := 15) hx hb hg gb_9 hown hK hP 0 hQ.x0 rfl 5 (by decide) (hg _ gm_fieldLink_RX9_66_ErrandGuild_runCount_I_) (fun _ h9 => h9) rfl dX9_count_61 ?_
      refine W_msr2 (fun hm1 hm2 hm3 => ?_)
      exact W.iret (v := n 0) hx hb hr (fun t ht hW => ⟨⟨n 0, (), rfl, (by show n 0 = k_count v1 (C9.mk n f T G K F); have hX := (k_count.eq_1 v1 (C9.mk n f T G K F)).symm; (repeat (first | dsimp +instances only [c9n, c9f, c9T, c9G, c9K, c9F, b_come, b_leave, b_fill, awB, b_settle, b_wake, b_take, f_take, b_gather, f_gather, b_ask, a_ask, b_tell, c_close, d_close, k_add, k_rem, sco, k_clrF, k_mem, k_rebind, k_bnd, k_beg0, k_beg1, b_giveN, b_giveR, f_open, b_hand, k_op, b_turn, wlB, b_beat, f_anew, b_wipe, b_off, k_sadd, fits, frP, cntB, b_trace, b_child, k_lat, cond_true, cond_false, Option.elim_none, Option.elim_some, Option.getD_none, Option.getD_some] at hX | rw [if_pos (by first | with_reducible assumption | omega)] at hX | rw [if_neg (by first | with_reducible assumption | omega)] at hX | rw [jx_of (by omega)] at hX)); first | exact hX | (exfalso; omega) | exact hX), by rw [ht]; exact hP, hD, by rw [ht]; omega, by rw [ht]; omega⟩, hS.F ht⟩) hS.2.2 dX9_count_64
   · refine lv_tableIn (tgt := 65) hx hb dX9_count_1 (by omega) (by omega) (by rw [sw_1]; rfl) (by decide) ?_
     refine lv_aload_n hx hb dX9_count_65 rfl (lv_at hl 0 rfl) ?_
     refine va_get (D := (dC, dI)) (ci := 9) (v := .int (n 2)) (C := RX9) (T := TX9) (N := 15) hx hb hg gb_9 hown hK hP 0 hQ.x0 rfl 8 (by decide) (hg _ gm_fieldLink_RX9_84_ErrandGuild_beats_I_) (fun _ h9 => h9) rfl dX9_count_66 ?_
     refine W_msr2 (fun hm1 hm2 hm3 => ?_)
     exact W.iret (v := n 2) hx hb hr (fun t ht hW => ⟨⟨n 2, (), rfl, (by show n 2 = k_count v1 (C9.mk n f T G K F); have hX := (k_count.eq_1 v1 (C9.mk n f T G K F)).symm; (repeat (first | dsimp +instances only [c9n, c9f, c9T, c9G, c9K, c9F, b_come, b_leave, b_fill, awB, b_settle, b_wake, b_take, f_take, b_gather, f_gather, b_ask, a_ask, b_tell, c_close, d_close, k_add, k_rem, sco, k_clrF, k_mem, k_rebind, k_bnd, k_beg0, k_beg1, b_giveN, b_giveR, f_open, b_hand, k_op, b_turn, wlB, b_beat, f_anew, b_wipe, b_off, k_sadd, fits, frP, cntB, b_trace, b_child, k_lat, cond_true, cond_false, Option.elim_none, Option.elim_some, Option.getD_none, Option.getD_some] at hX | rw [if_pos (by first | with_reducible assumption | omega)] at hX | rw [if_neg (by first | with_reducible assumption | omega)] at hX | rw [jx_of (by omega)] at hX)); first | exact hX | (exfalso; omega) | exact hX), by rw [ht]; exact hP, hD, by rw [ht]; omega, by rw [ht]; omega⟩, hS.F ht⟩) hS.2.2 dX9_count_69
   · refine lv_tableIn (tgt := 70) hx hb dX9_count_1 (by omega) (by omega) (by rw [sw_1]; rfl) (by decide) ?_
     refine lv_aload_n hx hb dX9_count_70 rfl (lv_at hl 0 rfl) ?_
     refine va_get (D := (dC, dI)) (ci := 9) (v := .int (n 1)) (C := RX9) (T := TX9) (N := 15) hx hb hg gb_9 hown hK hP 0 hQ.x0 rfl 7 (by decide) (hg _ gm_fieldLink_RX9_38_ErrandGuild_threadCount_I_) (fun _ h9 => h9) rfl dX9_count_71 ?_
     refine W_msr2 (fun hm1 hm2 hm3 => ?_)
     exact W.iret (v := n 1) hx hb hr (fun t ht hW => ⟨⟨n 1, (), rfl, (by show n 1 = k_count v1 (C9.mk n f T G K F); have hX := (k_count.eq_1 v1 (C9.mk n f T G K F)).symm; (repeat (first | dsimp +instances only [c9n, c9f, c9T, c9G, c9K, c9F, b_come, b_leave, b_fill, awB, b_settle, b_wake, b_take, f_take, b_gather, f_gather, b_ask, a_ask, b_tell, c_close, d_close, k_add, k_rem, sco, k_clrF, k_mem, k_rebind, k_bnd, k_beg0, k_beg1, b_giveN, b_giveR, f_open, b_hand, k_op, b_turn, wlB, b_beat, f_anew, b_wipe, b_off, k_sadd, fits, frP, cntB, b_trace, b_child, k_lat, cond_true, cond_false, Option.elim_none, Option.elim_some, Option.getD_none, Option.getD_some] at hX | rw [if_pos (by first | with_reducible assumption | omega)] at hX | rw [if_neg (by first | with_reducible assumption | omega)] at hX | rw [jx_of (by omega)] at hX)); first | exact hX | (exfalso; omega) | exact hX), by rw [ht]; exact hP, hD, by rw [ht]; omega, by rw [ht]; omega⟩, hS.F ht⟩) hS.2.2 dX9_count_74
   · refine lv_tableIn (tgt := 75) hx hb dX9_count_1 (by omega) (by omega) (by rw [sw_1]; rfl) (by decide) ?_
     refine lv_aload_n hx hb dX9_count_75 rfl (lv_at hl 0 rfl) ?_
     exact by
      refine lv_iconst (v := 0) hx hb dX9_count_76 (by decide) ?_
      have hFc := free_all hD hS hA
      refine va_calli (va_runV (As := [.int 0]) (rest := []) ⟨hx, hb, hml, hown, hg⟩ (c_X9_runsThatAre l dC dI kc ws ad ga gc M n f T G K F R 0 s.heap.size (hpS s.heap) hQ ⟨h_i1, h_i2, h_i3, h_i4, h_i5, h_i6, h_i7, h_i8, h_i9, h_i10, h_i11⟩) (cwV 1 hg (gw_V gm_methodLink_RX9_247_yX9_runsThatAre gm_instanceMethod_yX9_runsThatAre gm_selects_RX9_yX9_runsThatAre_yX9_runsThatAre gm_initialized_RX9 gm_code_yX9_runsThatAre_cX9_runsThatAre_5_some_int_) rfl rfl rfl (by decide +kernel) ⟨Nat.le_of_ble_eq_true rfl, Nat.le_of_ble_eq_true rfl⟩) ⟨fun a U g mk q => by obtain ⟨q0, q1, q2, qP, qK, qD, qN⟩ := q; exact ⟨q0, q1, q2, qP, va_K.moved (u := U) (U := U.calling g mk a) (Vm.Alike.refl U.vm) qK, qD, nx_same (u := U) (U := U.calling g mk a) rfl qN⟩, va_recv hK hP (ci := 9) (q0 := 0) rfl hQ.x0, fun U hU hW => ⟨rfl, by rw [hU], by rw [hU], by rw [hU]; exact hP, va_K.moved hW.alike hK, hD.weaken (fun _ _ _ _ => trivial), nx_warm hW hN⟩⟩ rfl rfl hl.1 rfl (lv_room (Nat.le_of_ble_eq_true rfl)) dX9_count_77 ⟨Nat.le_of_ble_eq_true rfl, Nat.le_of_ble_eq_true rfl⟩) hS (fun q _ h => hFc q h) hFc (fun r_6 u_7 t H1 locs ht hvm hw hB hz1 hk1 hS => ?_)
      obtain ⟨hP, hD, hy1, hy2⟩ := hB
      rw [ht] at hP hy1 hy2
      have hD := hD.weaken (fun k q _ h => hFc _ h)
      have q1_ := h_i1
      unfold i1 at q1_
      generalize H1 = H at hP hS ⊢
      have hc_9 : r_6 = k_cnt (0 : Int32) (C9.mk n f T G K F) := hw
      refine W_msr2 (fun hm1 hm2 hm3 => ?_)
      exact W.iret (v := r_6) hx hb hr (fun t ht hW => ⟨⟨r_6, (), rfl, (by show r_6 = k_count v1 (C9.mk n f T G K F); have hX := (k_count.eq_1 v1 (C9.mk n f T G K F)).symm; (repeat (first | dsimp +instances only [c9n, c9f, c9T, c9G, c9K, c9F, b_come, b_leave, b_fill, awB, b_settle, b_wake, b_take, f_take, b_gather, f_gather, b_ask, a_ask, b_tell, c_close, d_close, k_add, k_rem, sco, k_clrF, k_mem, k_rebind, k_bnd, k_beg0, k_beg1, b_giveN, b_giveR, f_open, b_hand, k_op, b_turn, wlB, b_beat, f_anew, b_wipe, b_off, k_sadd, fits, frP, cntB, b_trace, b_child, k_lat, cond_true, cond_false, Option.elim_none, Option.elim_some, Option.getD_none, Option.getD_some] at hX | rw [← hc_9] at hX | rw [if_pos (by first | with_reducible assumption | omega)] at hX | rw [if_neg (by first | with_reducible assumption | omega)] at hX | rw [jx_of (by omega)] at hX)); first | exact hX | (exfalso; omega) | exact hX), by rw [ht]; exact hP, hD, by rw [ht]; omega, by rw [ht]; omega⟩, hS.F ht⟩) hS.2.2 dX9_count_80
   · refine lv_tableIn (tgt := 81) hx hb dX9_count_1 (by omega) (by omega) (by rw [sw_1]; rfl) (by decide) ?_
     refine lv_aload_n hx hb dX9_count_81 rfl (lv_at hl 0 rfl) ?_
     refine lv_iconst (v := 1) hx hb dX9_count_82 (by decide) ?_
     have hFc := free_all hD hS hA
     refine va_calli (va_runV (As := [.int 1]) (rest := []) ⟨hx, hb, hml, hown, hg⟩ (c_X9_runsThatAre l dC dI kc ws ad ga gc M n f T G K F R 1 s.heap.size (hpS s.heap) hQ ⟨h_i1, h_i2, h_i3, h_i4, h_i5, h_i6, h_i7, h_i8, h_i9, h_i10, h_i11⟩) (cwV 1 hg (gw_V gm_methodLink_RX9_247_yX9_runsThatAre gm_instanceMethod_yX9_runsThatAre gm_selects_RX9_yX9_runsThatAre_yX9_runsThatAre gm_initialized_RX9 gm_code_yX9_runsThatAre_cX9_runsThatAre_5_some_int_) rfl rfl rfl (by decide +kernel) ⟨Nat.le_of_ble_eq_true rfl, Nat.le_of_ble_eq_true rfl⟩) ⟨fun a U g mk q => by obtain ⟨q0, q1, q2, qP, qK, qD, qN⟩ := q; exact ⟨q0, q1, q2, qP, va_K.moved (u := U) (U := U.calling g mk a) (Vm.Alike.refl U.vm) qK, qD, nx_same (u := U) (U := U.calling g mk a) rfl qN⟩, va_recv hK hP (ci := 9) (q0 := 0) rfl hQ.x0, fun U hU hW => ⟨rfl, by rw [hU], by rw [hU], by rw [hU]; exact hP, va_K.moved hW.alike hK, hD.weaken (fun _ _ _ _ => trivial), nx_warm hW hN⟩⟩ rfl rfl hl.1 rfl (lv_room (Nat.le_of_ble_eq_true rfl)) dX9_count_83 ⟨Nat.le_of_ble_eq_true rfl, Nat.le_of_ble_eq_true rfl⟩) hS (fun q _ h => hFc q h) hFc (fun r_10 u_11 t H1 locs ht hvm hw hB hz1 hk1 hS => ?_)
     obtain ⟨hP, hD, hy1, hy2⟩ := hB
     rw [ht] at hP hy1 hy2
     have hD := hD.weaken (fun k q _ h => hFc _ h)
     have q1_ := h_i1
     unfold i1 at q1_
     generalize H1 = H at hP hS ⊢
     have hc_13 : r_10 = k_cnt (1 : Int32) (C9.mk n f T G K F) := hw
     refine W_msr2 (fun hm1 hm2 hm3 => ?_)
     exact W.iret (v := r_10) hx hb hr (fun t ht hW => ⟨⟨r_10, (), rfl, (by show r_10 = k_count v1 (C9.mk n f T G K F); have hX := (k_count.eq_1 v1 (C9.mk n f T G K F)).symm; (repeat (first | dsimp +instances only [c9n, c9f, c9T, c9G, c9K, c9F, b_come, b_leave, b_fill, awB, b_settle, b_wake, b_take, f_take, b_gather, f_gather, b_ask, a_ask, b_tell, c_close, d_close, k_add, k_rem, sco, k_clrF, k_mem, k_rebind, k_bnd, k_beg0, k_beg1, b_giveN, b_giveR, f_open, b_hand, k_op, b_turn, wlB, b_beat, f_anew, b_wipe, b_off, k_sadd, fits, frP, cntB, b_trace, b_child, k_lat, cond_true, cond_false, Option.elim_none, Option.elim_some, Option.getD_none, Option.getD_some] at hX | rw [← hc_13] at hX | rw [if_pos (by first | with_reducible assumption | omega)] at hX | rw [if_neg (by first | with_reducible assumption | omega)] at hX | rw [jx_of (by omega)] at hX)); first | exact hX | (exfalso; omega) | exact hX), by rw [ht]; exact hP, hD, by rw [ht]; omega, by rw [ht]; omega⟩, hS.F ht⟩) hS.2.2 dX9_count_86
   · refine lv_tableIn (tgt := 87) hx hb dX9_count_1 (by omega) (by omega) (by rw [sw_1]; rfl) (by decide) ?_
     exact by
      refine lv_aload_n hx hb dX9_count_87 rfl (lv_at hl 0 rfl) ?_
      refine lv_iconst (v := 2) hx hb dX9_count_88 (by decide) ?_
      have hFc := free_all hD hS hA
      refine va_calli (va_runV (As := [.int 2]) (rest := []) ⟨hx, hb, hml, hown, hg⟩ (c_X9_runsThatAre l dC dI kc ws ad ga gc M n f T G K F R 2 s.heap.size (hpS s.heap) hQ ⟨h_i1, h_i2, h_i3, h_i4, h_i5, h_i6, h_i7, h_i8, h_i9, h_i10, h_i11⟩) (cwV 1 hg (gw_V gm_methodLink_RX9_247_yX9_runsThatAre gm_instanceMethod_yX9_runsThatAre gm_selects_RX9_yX9_runsThatAre_yX9_runsThatAre gm_initialized_RX9 gm_code_yX9_runsThatAre_cX9_runsThatAre_5_some_int_) rfl rfl rfl (by decide +kernel) ⟨Nat.le_of_ble_eq_true rfl, Nat.le_of_ble_eq_true rfl⟩) ⟨fun a U g mk q => by obtain ⟨q0, q1, q2, qP, qK, qD, qN⟩ := q; exact ⟨q0, q1, q2, qP, va_K.moved (u := U) (U := U.calling g mk a) (Vm.Alike.refl U.vm) qK, qD, nx_same (u := U) (U := U.calling g mk a) rfl qN⟩, va_recv hK hP (ci := 9) (q0 := 0) rfl hQ.x0, fun U hU hW => ⟨rfl, by rw [hU], by rw [hU], by rw [hU]; exact hP, va_K.moved hW.alike hK, hD.weaken (fun _ _ _ _ => trivial), nx_warm hW hN⟩⟩ rfl rfl hl.1 rfl (lv_room (Nat.le_of_ble_eq_true rfl)) dX9_count_89 ⟨Nat.le_of_ble_eq_true rfl, Nat.le_of_ble_eq_true rfl⟩) hS (fun q _ h => hFc q h) hFc (fun r_14 u_15 t H1 locs ht hvm hw hB hz1 hk1 hS => ?_)
      obtain ⟨hP, hD, hy1, hy2⟩ := hB
      rw [ht] at hP hy1 hy2
      have hD := hD.weaken (fun k q _ h => hFc _ h)
      have q1_ := h_i1
      unfold i1 at q1_
      generalize H1 = H at hP hS ⊢
      have hc_17 : r_14 = k_cnt (2 : Int32) (C9.mk n f T G K F) := hw
      refine W_msr2 (fun hm1 hm2 hm3 => ?_)
      exact W.iret (v := r_14) hx hb hr (fun t ht hW => ⟨⟨r_14, (), rfl, (by show r_14 = k_count v1 (C9.mk n f T G K F); have hX := (k_count.eq_1 v1 (C9.mk n f T G K F)).symm; (repeat (first | dsimp +instances only [c9n, c9f, c9T, c9G, c9K, c9F, b_come, b_leave, b_fill, awB, b_settle, b_wake, b_take, f_take, b_gather, f_gather, b_ask, a_ask, b_tell, c_close, d_close, k_add, k_rem, sco, k_clrF, k_mem, k_rebind, k_bnd, k_beg0, k_beg1, b_giveN, b_giveR, f_open, b_hand, k_op, b_turn, wlB, b_beat, f_anew, b_wipe, b_off, k_sadd, fits, frP, cntB, b_trace, b_child, k_lat, cond_true, cond_false, Option.elim_none, Option.elim_some, Option.getD_none, Option.getD_some] at hX | rw [← hc_17] at hX | rw [if_pos (by first | with_reducible assumption | omega)] at hX | rw [if_neg (by first | with_reducible assumption | omega)] at hX | rw [jx_of (by omega)] at hX)); first | exact hX | (exfalso; omega) | exact hX), by rw [ht]; exact hP, hD, by rw [ht]; omega, by rw [ht]; omega⟩, hS.F ht⟩) hS.2.2 dX9_count_92
   · refine lv_tableIn (tgt := 93) hx hb dX9_count_1 (by omega) (by omega) (by rw [sw_1]; rfl) (by decide) ?_
     refine lv_aload_n hx hb dX9_count_93 rfl (lv_at hl 0 rfl) ?_
     refine lv_iconst (v := 3) hx hb dX9_count_94 (by decide) ?_
     have hFc := free_all hD hS hA
     refine va_calli (va_runV (As := [.int 3]) (rest := []) ⟨hx, hb, hml, hown, hg⟩ (c_X9_runsThatAre l dC dI kc ws ad ga gc M n f T G K F R 3 s.heap.size (hpS s.heap) hQ ⟨h_i1, h_i2, h_i3, h_i4, h_i5, h_i6, h_i7, h_i8, h_i9, h_i10, h_i11⟩) (cwV 1 hg (gw_V gm_methodLink_RX9_247_yX9_runsThatAre gm_instanceMethod_yX9_runsThatAre gm_selects_RX9_yX9_runsThatAre_yX9_runsThatAre gm_initialized_RX9 gm_code_yX9_runsThatAre_cX9_runsThatAre_5_some_int_) rfl rfl rfl (by decide +kernel) ⟨Nat.le_of_ble_eq_true rfl, Nat.le_of_ble_eq_true rfl⟩) ⟨fun a U g mk q => by obtain ⟨q0, q1, q2, qP, qK, qD, qN⟩ := q; exact ⟨q0, q1, q2, qP, va_K.moved (u := U) (U := U.calling g mk a) (Vm.Alike.refl U.vm) qK, qD, nx_same (u := U) (U := U.calling g mk a) rfl qN⟩, va_recv hK hP (ci := 9) (q0 := 0) rfl hQ.x0, fun U hU hW => ⟨rfl, by rw [hU], by rw [hU], by rw [hU]; exact hP, va_K.moved hW.alike hK, hD.weaken (fun _ _ _ _ => trivial), nx_warm hW hN⟩⟩ rfl rfl hl.1 rfl (lv_room (Nat.le_of_ble_eq_true rfl)) dX9_count_95 ⟨Nat.le_of_ble_eq_true rfl, Nat.le_of_ble_eq_true rfl⟩) hS (fun q _ h => hFc q h) hFc (fun r_18 u_19 t H1 locs ht hvm hw hB hz1 hk1 hS => ?_)
     obtain ⟨hP, hD, hy1, hy2⟩ := hB
     rw [ht] at hP hy1 hy2
     have hD := hD.weaken (fun k q _ h => hFc _ h)
     have q1_ := h_i1
     unfold i1 at q1_
     generalize H1 = H at hP hS ⊢
     have hc_21 : r_18 = k_cnt (3 : Int32) (C9.mk n f T G K F) := hw
     refine W_msr2 (fun hm1 hm2 hm3 => ?_)
     exact W.iret (v := r_18) hx hb hr (fun t ht hW => ⟨⟨r_18, (), rfl, (by show r_18 = k_count v1 (C9.mk n f T G K F); have hX := (k_count.eq_1 v1 (C9.mk n f T G K F)).symm; (repeat (first | dsimp +instances only [c9n, c9f, c9T, c9G, c9K, c9F, b_come, b_leave, b_fill, awB, b_settle, b_wake, b_take, f_take, b_gather, f_gather, b_ask, a_ask, b_tell, c_close, d_close, k_add, k_rem, sco, k_clrF, k_mem, k_rebind, k_bnd, k_beg0, k_beg1, b_giveN, b_giveR, f_open, b_hand, k_op, b_turn, wlB, b_beat, f_anew, b_wipe, b_off, k_sadd, fits, frP, cntB, b_trace, b_child, k_lat, cond_true, cond_false, Option.elim_none, Option.elim_some, Option.getD_none, Option.getD_some] at hX | rw [← hc_21] at hX | rw [if_pos (by first | with_reducible assumption | omega)] at hX | rw [if_neg (by first | with_reducible assumption | omega)] at hX | rw [jx_of (by omega)] at hX)); first | exact hX | (exfalso; omega) | exact hX), by rw [ht]; exact hP, hD, by rw [ht]; omega, by rw [ht]; omega⟩, hS.F ht⟩) hS.2.2 dX9_count_98
   · refine lv_tableIn (tgt := 99) hx hb dX9_count_1 (by omega) (by omega) (by rw [sw_1]; rfl) (by decide) ?_
     exact by
      refine lv_aload_n hx hb dX9_count_99 rfl (lv_at hl 0 rfl) ?_
      refine lv_iconst (v := 4) hx hb dX9_count_100 (by decide) ?_
      have hFc := free_all hD hS hA
      refine va_calli (va_runV (As := [.int 4]) (rest := []) ⟨hx, hb, hml, hown, hg⟩ (c_X9_runsThatAre l dC dI kc ws ad ga gc M n f T G K F R 4 s.heap.size (hpS s.heap) hQ ⟨h_i1, h_i2, h_i3, h_i4, h_i5, h_i6, h_i7, h_i8, h_i9, h_i10, h_i11⟩) (cwV 1 hg (gw_V gm_methodLink_RX9_247_yX9_runsThatAre gm_instanceMethod_yX9_runsThatAre gm_selects_RX9_yX9_runsThatAre_yX9_runsThatAre gm_initialized_RX9 gm_code_yX9_runsThatAre_cX9_runsThatAre_5_some_int_) rfl rfl rfl (by decide +kernel) ⟨Nat.le_of_ble_eq_true rfl, Nat.le_of_ble_eq_true rfl⟩) ⟨fun a U g mk q => by obtain ⟨q0, q1, q2, qP, qK, qD, qN⟩ := q; exact ⟨q0, q1, q2, qP, va_K.moved (u := U) (U := U.calling g mk a) (Vm.Alike.refl U.vm) qK, qD, nx_same (u := U) (U := U.calling g mk a) rfl qN⟩, va_recv hK hP (ci := 9) (q0 := 0) rfl hQ.x0, fun U hU hW => ⟨rfl, by rw [hU], by rw [hU], by rw [hU]; exact hP, va_K.moved hW.alike hK, hD.weaken (fun _ _ _ _ => trivial), nx_warm hW hN⟩⟩ rfl rfl hl.1 rfl (lv_room (Nat.le_of_ble_eq_true rfl)) dX9_count_101 ⟨Nat.le_of_ble_eq_true rfl, Nat.le_of_ble_eq_true rfl⟩) hS (fun q _ h => hFc q h) hFc (fun r_22 u_23 t H1 locs ht hvm hw hB hz1 hk1 hS => ?_)
      obtain ⟨hP, hD, hy1, hy2⟩ := hB
      rw [ht] at hP hy1 hy2
      have hD := hD.weaken (fun k q _ h => hFc _ h)
      have q1_ := h_i1
      unfold i1 at q1_
      generalize H1 = H at hP hS ⊢
      have hc_25 : r_22 = k_cnt (4 : Int32) (C9.mk n f T G K F) := hw
      refine W_msr2 (fun hm1 hm2 hm3 => ?_)
      exact W.iret (v := r_22) hx hb hr (fun t ht hW => ⟨⟨r_22, (), rfl, (by show r_22 = k_count v1 (C9.mk n f T G K F); have hX := (k_count.eq_1 v1 (C9.mk n f T G K F)).symm; (repeat (first | dsimp +instances only [c9n, c9f, c9T, c9G, c9K, c9F, b_come, b_leave, b_fill, awB, b_settle, b_wake, b_take, f_take, b_gather, f_gather, b_ask, a_ask, b_tell, c_close, d_close, k_add, k_rem, sco, k_clrF, k_mem, k_rebind, k_bnd, k_beg0, k_beg1, b_giveN, b_giveR, f_open, b_hand, k_op, b_turn, wlB, b_beat, f_anew, b_wipe, b_off, k_sadd, fits, frP, cntB, b_trace, b_child, k_lat, cond_true, cond_false, Option.elim_none, Option.elim_some, Option.getD_none, Option.getD_some] at hX | rw [← hc_25] at hX | rw [if_pos (by first | with_reducible assumption | omega)] at hX | rw [if_neg (by first | with_reducible assumption | omega)] at hX | rw [jx_of (by omega)] at hX)); first | exact hX | (exfalso; omega) | exact hX), by rw [ht]; exact hP, hD, by rw [ht]; omega, by rw [ht]; omega⟩, hS.F ht⟩) hS.2.2 dX9_count_104
   · refine lv_tableIn (tgt := 105) hx hb dX9_count_1 (by omega) (by omega) (by rw [sw_1]; rfl) (by decide) ?_
     refine lv_aload_n hx hb dX9_count_105 rfl (lv_at hl 0 rfl) ?_
     refine va_get (D := (dC, dI)) (ci := 9) (v := .int (n 3)) (C := RX9) (T := TX9) (N := 15) hx hb hg gb_9 hown hK hP 0 hQ.x0 rfl 10 (by decide) (hg _ gm_fieldLink_RX9_90_ErrandGuild_readingCount_I_) (fun _ h9 => h9) rfl dX9_count_106 ?_
     refine W_msr2 (fun hm1 hm2 hm3 => ?_)
     exact W.iret (v := n 3) hx hb hr (fun t ht hW => ⟨⟨n 3, (), rfl, (by show n 3 = k_count v1 (C9.mk n f T G K F); have hX := (k_count.eq_1 v1 (C9.mk n f T G K F)).symm; (repeat (first | dsimp +instances only [c9n, c9f, c9T, c9G, c9K, c9F, b_come, b_leave, b_fill, awB, b_settle, b_wake, b_take, f_take, b_gather, f_gather, b_ask, a_ask, b_tell, c_close, d_close, k_add, k_rem, sco, k_clrF, k_mem, k_rebind, k_bnd, k_beg0, k_beg1, b_giveN, b_giveR, f_open, b_hand, k_op, b_turn, wlB, b_beat, f_anew, b_wipe, b_off, k_sadd, fits, frP, cntB, b_trace, b_child, k_lat, cond_true, cond_false, Option.elim_none, Option.elim_some, Option.getD_none, Option.getD_some] at hX | rw [if_pos (by first | with_reducible assumption | omega)] at hX | rw [if_neg (by first | with_reducible assumption | omega)] at hX | rw [jx_of (by omega)] at hX)); first | exact hX | (exfalso; omega) | exact hX), by rw [ht]; exact hP, hD, by rw [ht]; omega, by rw [ht]; omega⟩, hS.F ht⟩) hS.2.2 dX9_count_109
   · refine lv_tableIn (tgt := 110) hx hb dX9_count_1 (by omega) (by omega) (by rw [sw_1]; rfl) (by decide) ?_
     refine lv_aload_n hx hb dX9_count_110 rfl (lv_at hl 0 rfl) ?_
     refine va_get (D := (dC, dI)) (ci := 9) (v := .int (n 4)) (C := RX9) (T := TX9) (N := 15) hx hb hg gb_9 hown hK hP 0 hQ.x0 rfl 12 (by decide) (hg _ gm_fieldLink_RX9_93_ErrandGuild_askedCount_I_) (fun _ h9 => h9) rfl dX9_count_111 ?_
     refine W_msr2 (fun hm1 hm2 hm3 => ?_)
     exact W.iret (v := n 4) hx hb hr (fun t ht hW => ⟨⟨n 4, (), rfl, (by show n 4 = k_count v1 (C9.mk n f T G K F); have hX := (k_count.eq_1 v1 (C9.mk n f T G K F)).symm; (repeat (first | dsimp +instances only [c9n, c9f, c9T, c9G, c9K, c9F, b_come, b_leave, b_fill, awB, b_settle, b_wake, b_take, f_take, b_gather, f_gather, b_ask, a_ask, b_tell, c_close, d_close, k_add, k_rem, sco, k_clrF, k_mem, k_rebind, k_bnd, k_beg0, k_beg1, b_giveN, b_giveR, f_open, b_hand, k_op, b_turn, wlB, b_beat, f_anew, b_wipe, b_off, k_sadd, fits, frP, cntB, b_trace, b_child, k_lat, cond_true, cond_false, Option.elim_none, Option.elim_some, Option.getD_none, Option.getD_some] at hX | rw [if_pos (by first | with_reducible assumption | omega)] at hX | rw [if_neg (by first | with_reducible assumption | omega)] at hX | rw [jx_of (by omega)] at hX)); first | exact hX | (exfalso; omega) | exact hX), by rw [ht]; exact hP, hD, by rw [ht]; omega, by rw [ht]; omega⟩, hS.F ht⟩) hS.2.2 dX9_count_114
   · refine lv_tableIn (tgt := 115) hx hb dX9_count_1 (by omega) (by omega) (by rw [sw_1]; rfl) (by decide) ?_
     refine lv_aload_n hx hb dX9_count_115 rfl (lv_at hl 0 rfl) ?_
     exact by
      refine va_get (D := (dC, dI)) (ci := 9) (v := .int (n 5)) (C := RX9) (T := TX9) (N := 15) hx hb hg gb_9 hown hK hP 0 hQ.x0 rfl 14 (by decide) (hg _ gm_fieldLink_RX9_97_ErrandGuild_turnCount_I_) (fun _ h9 => h9) rfl dX9_count_116 ?_
      refine W_msr2 (fun hm1 hm2 hm3 => ?_)
      exact W.iret (v := n 5) hx hb hr (fun t ht hW => ⟨⟨n 5, (), rfl, (by show n 5 = k_count v1 (C9.mk n f T G K F); have hX := (k_count.eq_1 v1 (C9.mk n f T G K F)).symm; (repeat (first | dsimp +instances only [c9n, c9f, c9T, c9G, c9K, c9F, b_come, b_leave, b_fill, awB, b_settle, b_wake, b_take, f_take, b_gather, f_gather, b_ask, a_ask, b_tell, c_close, d_close, k_add, k_rem, sco, k_clrF, k_mem, k_rebind, k_bnd, k_beg0, k_beg1, b_giveN, b_giveR, f_open, b_hand, k_op, b_turn, wlB, b_beat, f_anew, b_wipe, b_off, k_sadd, fits, frP, cntB, b_trace, b_child, k_lat, cond_true, cond_false, Option.elim_none, Option.elim_some, Option.getD_none, Option.getD_some] at hX | rw [if_pos (by first | with_reducible assumption | omega)] at hX | rw [if_neg (by first | with_reducible assumption | omega)] at hX | rw [jx_of (by omega)] at hX)); first | exact hX | (exfalso; omega) | exact hX), by rw [ht]; exact hP, hD, by rw [ht]; omega, by rw [ht]; omega⟩, hS.F ht⟩) hS.2.2 dX9_count_119
