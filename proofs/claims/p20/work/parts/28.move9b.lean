set_option maxHeartbeats 8000000 in
set_option maxRecDepth 100000 in
theorem c_X9_fillThreads (l : Launch) (dC : Nat → ClassId) (dI : Nat → Nat → Nat) (kc : Nat → ClassId) (ws : va_W) (ad : Nat → Nat) (ga : Nat → Nat) (gc : Nat → Nat) (M : Nat) (n : Nat → Int32) (f : Nat → Nat → Int32) (T : Nat → Option Nat) (G : Nat → Nat → Int32) (K : Nat → Nat → Option Nat) (F : Nat → Nat → Nat → Int32) (R : Nat) (sz hz : Nat) (hQ : Pic9 kc ws ad ga gc M n f T G K F) (hI : I9 M n f T gc G K F R) : Met l yX9_fillThreads (.code yX9_fillThreads cX9_fillThreads 3 none :: gw) ({ frames := 1, cells := 0, slots := 0, locals := 22 }) (va_Pc [.ref (ad 0)] (fun U => U.heap.size = sz ∧ hpS U.heap = hz ∧ va_P (dC, dI) vwCl ws U.heap ∧ va_K (dC, dI) vwCl (t9 kc) U ∧ va_D (fun _ => True) ws ∧ nx U)) (va_Qv (fun (u : (Nat → Nat) × (Nat → Nat) × (Nat → Nat) × Nat × (Nat → Int32) × (Nat → Nat → Int32) × (Nat → Option Nat) × (Nat → Nat → Int32) × (Nat → Nat → Option Nat) × (Nat → Nat → Nat → Int32)) => (C9.mk n f u.2.2.2.2.2.2.1 u.2.2.2.2.2.2.2.1 K F) = k_fill (C9.mk n f T G K F)) (fun u t => ∃ w : va_W, va_P (dC, dI) vwCl w t.heap ∧ va_D (va_A ws sz) w ∧ Pic9 kc w ad ga gc M n f u.2.2.2.2.2.2.1 u.2.2.2.2.2.2.2.1 K F ∧ I9 M n f u.2.2.2.2.2.2.1 gc u.2.2.2.2.2.2.2.1 K F R ∧ hpS t.heap + (260 * M + 2 * S9 M gc) ≤ hz + (260 * M + 2 * S9 M gc) ∧ 16 * t.heap.size + (256 * M + S9 M gc) ≤ 16 * sz + (256 * M + S9 M gc)) (va_A ws sz)) 0 0 (va_A ws sz) := by
  refine Met.ofW (cc := cX9_fillThreads) (maxL := 3) (ret := none) (by decide) rfl ?_
  intro p e s m args below meth c s₁ B hml hv
  obtain ⟨rfl, hsz, rfl, hP, hK, hD0, hN⟩ := hv
  have hx := B.exec
  have hb := B.bytes
  have hr := B.returns
  have hts := atoms_spec (ws := .code yX9_fillThreads cX9_fillThreads 3 none :: gw) B.pre
  have hg : ∀ w ∈ gw, w.before _ s = true := fun w h => hts w (List.mem_cons_of_mem _ h)
  have hown : s.vm.findClass RX9 = some m.cls := findClass_of_methodNamed B.named
  have hlocks := B.notSynchronized
  subst hsz
  have hD := hD0.self (sz := s.heap.size)
  generalize hAe : va_A ws s.heap.size = A at hD ⊢
  have hA : ∀ q : Nat, s.heap.size ≤ q → A q := fun q h => by rw [← hAe]; exact Or.inr h
  clear hAe
  have hS : va_S A s.heap s.heap [] := va_S.rf
  have hl := lv_entry ([.ref (ad 0)]) (n := 3) (Nat.le_of_ble_eq_true rfl)
  rw [lg_entry_eq]
  generalize (lg_sl ([.ref (ad 0)]) ++ List.replicate (3 - (lg_sl ([.ref (ad 0)])).length) Slot.unset).toArray = ls at hl ⊢
  have hl : lv_has ls 3 [(0, .ref (ad 0))] := hl
  obtain ⟨h_i1, h_i2, h_i3, h_i4, h_i5, h_i6, h_i7, h_i8, h_i9, h_i10, h_i11⟩ := id hI
  have q1_ := h_i1
  unfold i1 at q1_
  exact by
   refine lv_iconst (v := 0) hx hb dX9_fillThreads_0 (by decide) ?_
   refine lv_istore_n (lv' := [(1, .int 0), (0, .ref (ad 0))]) hx hb dX9_fillThreads_1 rfl hl (by decide) rfl (fun ls hl => ?_)
   have L2 : ∀ (fuel : Nat) (x_1 : Int32)   (ws_4 : va_W) (T_2 : Nat → Option Nat) (G_3 : Nat → Nat → Int32)  (H : Heap) (locs : List Loc) (ls : Array Slot), (201 - x_1.toInt).toNat < fuel → (0 ≤ x_1.toInt ∧ x_1.toInt ≤ 200) → (itr b_fill (fun s => s) x_1.toInt.toNat ((n 0).toInt.toNat - x_1.toInt.toNat) (C9.mk n f T_2 G_3 K F) = k_fill (C9.mk n f T G K F)) → Pic9 kc ws_4 ad ga gc M n f T_2 G_3 K F → I9 M n f T_2 gc G_3 K F R → va_P (dC, dI) vwCl ws_4 H → va_D A ws_4 → va_S A s.heap H locs → lv_has ls 3 [(1, .int x_1), (0, .ref (ad 0))] → W p l e (headSpec (.code yX9_fillThreads cX9_fillThreads 3 none :: gw) ({ frames := 1, cells := 0, slots := 0, locals := 22 })).room s m ([.ref (ad 0)] : List Value).toArray below meth c H locs 0 0 (MQ below (va_Qv (fun (u : (Nat → Nat) × (Nat → Nat) × (Nat → Nat) × Nat × (Nat → Int32) × (Nat → Nat → Int32) × (Nat → Option Nat) × (Nat → Nat → Int32) × (Nat → Nat → Option Nat) × (Nat → Nat → Nat → Int32)) => (C9.mk n f u.2.2.2.2.2.2.1 u.2.2.2.2.2.2.2.1 K F) = k_fill (C9.mk n f T G K F)) (fun u t => ∃ w : va_W, va_P (dC, dI) vwCl w t.heap ∧ va_D A w ∧ Pic9 kc w ad ga gc M n f u.2.2.2.2.2.2.1 u.2.2.2.2.2.2.2.1 K F ∧ I9 M n f u.2.2.2.2.2.2.1 gc u.2.2.2.2.2.2.2.1 K F R ∧ hpS t.heap + (260 * M + 2 * S9 M gc) ≤ (hpS s.heap) + (260 * M + 2 * S9 M gc) ∧ 16 * t.heap.size + (256 * M + S9 M gc) ≤ 16 * s.heap.size + (256 * M + S9 M gc)) A) ([.ref (ad 0)] : List Value).toArray s 0 0 A) (F0 m 2 ls []) := by
     intro fuel
     induction fuel with
     | zero => intro x_1 ws_4 T_2 G_3 H locs ls hm; exact absurd hm (Nat.not_lt_zero _)
     | succ fuel_10 ih_9 =>
       intro x_1 ws_4 T_2 G_3 H locs ls hm_5 v_6 v_7 hQ hI_8 hP hD hS hl
       obtain ⟨i1_11, i2_12, i3_13, i4_14, i5_15, i6_16, i7_17, i8_18, i9_19, i10_20, i11_21⟩ := id hI_8
       have q1_ := i1_11
       unfold i1 at q1_
       refine lv_iload_n hx hb dX9_fillThreads_2 rfl (lv_at hl 0 rfl) ?_
       exact by
        refine lv_aload_n hx hb dX9_fillThreads_3 rfl (lv_at hl 1 rfl) ?_
        refine va_get (D := (dC, dI)) (ci := 9) (v := .int (n 0)) (C := RX9) (T := TX9) (N := 15) hx hb hg gb_9 hown hK hP 0 hQ.x0 rfl 5 (by decide) (hg _ gm_fieldLink_RX9_66_ErrandGuild_runCount_I_) (fun _ h9 => h9) rfl dX9_fillThreads_4 ?_
        refine lv_icmp_ge (tgt := 38) hx hb dX9_fillThreads_7 (by decide) (fun c_22 => ?_) (fun c_22 => ?_)
        · simp only [i_lt, i_le, i_eq] at c_22
          refine W_msr2 (fun hm1 hm2 hm3 => ?_)
          exact W.vret hx hb hr (fun t ht hW => ⟨⟨(ad, ga, gc, M, n, f, T_2, G_3, K, F), rfl, (by show (C9.mk n f T_2 G_3 K F) = k_fill (C9.mk n f T G K F); have hX := v_7; (first | rw [itr_go (by omega)] at hX | rw [itr_end (by omega)] at hX); (repeat (first | dsimp +instances only [c9n, c9f, c9T, c9G, c9K, c9F, b_come, b_leave, b_fill, awB, b_settle, b_wake, b_take, f_take, b_gather, f_gather, b_ask, a_ask, b_tell, c_close, d_close, k_add, k_rem, sco, k_clrF, k_mem, k_rebind, k_bnd, k_beg0, k_beg1, b_giveN, b_giveR, f_open, b_hand, k_op, b_turn, wlB, b_beat, f_anew, b_wipe, b_off, k_sadd, fits, frP, cntB, b_trace, b_child, k_lat, cond_true, cond_false, Option.elim_none, Option.elim_some, Option.getD_none, Option.getD_some] at hX | rw [if_pos (by first | with_reducible assumption | omega)] at hX | rw [if_neg (by first | with_reducible assumption | omega)] at hX | rw [jx_of (by omega)] at hX)); first | exact hX | (exfalso; omega) | exact hX), ws_4, by rw [ht]; exact hP, hD, hQ, ⟨i1_11, i2_12, i3_13, i4_14, i5_15, i6_16, i7_17, i8_18, i9_19, i10_20, i11_21⟩, by rw [ht]; show hpS H + (260 * M + 2 * S9 M gc) ≤ hpS s.heap + (260 * M + 2 * S9 M gc); omega, by rw [ht]; show 16 * H.size + (256 * M + S9 M gc) ≤ 16 * s.heap.size + (256 * M + S9 M gc); omega⟩, hS.F ht⟩) hS.2.2 dX9_fillThreads_38
        · simp only [i_lt, i_le, i_eq] at c_22
          refine lv_aload_n hx hb dX9_fillThreads_10 rfl (lv_at hl 1 rfl) ?_
          refine lv_iload_n hx hb dX9_fillThreads_11 rfl (lv_at hl 0 rfl) ?_
          have hFc := free_all hD hS hA
          refine va_callq (va_runV (As := [.int x_1]) (rest := []) ⟨hx, hb, hml, hown, hg⟩ (c_X9_runAt l dC dI kc ws_4 ad ga gc M n f T_2 G_3 K F R x_1 H.size (hpS H) hQ ⟨i1_11, i2_12, i3_13, i4_14, i5_15, i6_16, i7_17, i8_18, i9_19, i10_20, i11_21⟩) (cwV 1 hg (gw_V gm_methodLink_RX9_134_yX9_runAt gm_instanceMethod_yX9_runAt gm_selects_RX9_yX9_runAt_yX9_runAt gm_initialized_RX9 gm_code_yX9_runAt_cX9_runAt_2_some_object_ErrandGuild_Run_) rfl rfl rfl (by decide +kernel) ⟨Nat.le_of_ble_eq_true rfl, Nat.le_of_ble_eq_true rfl⟩) ⟨fun a U g mk q => by obtain ⟨q0, q1, q2, qP, qK, qD, qN⟩ := q; exact ⟨q0, q1, q2, qP, va_K.moved (u := U) (U := U.calling g mk a) (Vm.Alike.refl U.vm) qK, qD, nx_same (u := U) (U := U.calling g mk a) rfl qN⟩, va_recv hK hP (ci := 9) (q0 := 0) rfl hQ.x0, fun U hU hW => ⟨rfl, by rw [hU], by rw [hU], by rw [hU]; exact hP, va_K.moved hW.alike hK, hD.weaken (fun _ _ _ _ => trivial), nx_warm hW hN⟩⟩ rfl rfl hl.1 rfl (lv_room (Nat.le_of_ble_eq_true rfl)) dX9_fillThreads_12 ⟨Nat.le_of_ble_eq_true rfl, Nat.le_of_ble_eq_true rfl⟩) hS (fun q _ h => hFc q h) hFc (fun r_23 u_24 t H1 locs ht hvm hw hB hz1 hk1 hS => ?_)
          obtain ⟨hP, hD, hy1, hy2⟩ := hB
          rw [ht] at hP hy1 hy2
          have hD := hD.weaken (fun k q _ h => hFc _ h)
          have q1_ := i1_11
          unfold i1 at q1_
          generalize H1 = H at hP hS ⊢
          rcases hw with ⟨rfl, w_25⟩ | ⟨rfl, w_25⟩
          · have w_25 : (0 ≤ x_1.toInt ∧ x_1.toInt < (n 0).toInt) := w_25
            have hl_26 : x_1.toInt.toNat < M := by omega
            refine W.eq (g2 := F0 m 15 ls [.ref (ad (50 + 16 * x_1.toInt.toNat))]) rfl ?_
            exact by
             refine lv_astore_n (lv' := [(2, .ref (ad (50 + 16 * x_1.toInt.toNat))), (1, .int x_1), (0, .ref (ad 0))]) hx hb dX9_fillThreads_15 rfl hl (by decide) rfl (fun ls hl => ?_)
             refine lv_aload_n hx hb dX9_fillThreads_16 rfl (lv_at hl 0 rfl) ?_
             refine lv_ifnull hx hb dX9_fillThreads_17 ?_
             refine lv_aload_n hx hb dX9_fillThreads_20 rfl (lv_at hl 0 rfl) ?_
             refine va_get (D := (dC, dI)) (ci := 7) (v := .int (G_3 x_1.toInt.toNat 2)) (C := RX7) (T := TX7) (N := 15) hx hb hg gb_7 hown hK hP (50 + 16 * x_1.toInt.toNat) (hQ.b0 hl_26) rfl 2 (by decide) (hg _ gm_fieldLink_RX9_145_ErrandGuild_Run_state_I_) (fun _ h9 => h9) rfl dX9_fillThreads_21 ?_
             refine lv_if_ne (tgt := 32) hx hb dX9_fillThreads_24 (by decide) (fun c_27 => ?_) (fun c_27 => ?_)
             · simp only [i_lt, i_le, i_eq, ti_0] at c_27
               obtain ⟨y_28, ey_28⟩ : ∃ q : Int32, q = x_1 + (1) := ⟨_, rfl⟩
               refine lv_iinc (v := y_28) (lv' := [(1, .int y_28), (2, .ref (ad (50 + 16 * x_1.toInt.toNat))), (0, .ref (ad 0))]) hx hb dX9_fillThreads_32 hl (k := 1) rfl (by rw [ey_28]; rfl) (by decide) rfl (fun ls hl => ?_)
               have ty_28 : y_28.toInt = x_1.toInt + (1) := ar_add rfl ti_1 ey_28 (by omega)
               refine lv_goto (tgt := 2) hx hb dX9_fillThreads_35 (by decide) ?_
               exact ih_9 y_28   ws_4 T_2 G_3  H locs ls (by show (201 - y_28.toInt).toNat < _; omega) (by show 0 ≤ y_28.toInt ∧ y_28.toInt ≤ 200; omega) (by show itr b_fill (fun s => s) y_28.toInt.toNat ((n 0).toInt.toNat - y_28.toInt.toNat) (C9.mk n f T_2 G_3 K F) = k_fill (C9.mk n f T G K F); have hX := v_7; (first | rw [itr_go (by omega)] at hX | rw [itr_end (by omega)] at hX); (repeat (first | dsimp +instances only [c9n, c9f, c9T, c9G, c9K, c9F, b_come, b_leave, b_fill, awB, b_settle, b_wake, b_take, f_take, b_gather, f_gather, b_ask, a_ask, b_tell, c_close, d_close, k_add, k_rem, sco, k_clrF, k_mem, k_rebind, k_bnd, k_beg0, k_beg1, b_giveN, b_giveR, f_open, b_hand, k_op, b_turn, wlB, b_beat, f_anew, b_wipe, b_off, k_sadd, fits, frP, cntB, b_trace, b_child, k_lat, cond_true, cond_false, Option.elim_none, Option.elim_some, Option.getD_none, Option.getD_some] at hX | rw [if_pos (by first | with_reducible assumption | omega)] at hX | rw [if_neg (by first | with_reducible assumption | omega)] at hX | rw [jx_of (by omega)] at hX)); (rw [show y_28.toInt.toNat = x_1.toInt.toNat + 1 by omega]); first | exact hX | (exfalso; omega) | exact hX) hQ ⟨i1_11, i2_12, i3_13, i4_14, i5_15, i6_16, i7_17, i8_18, i9_19, i10_20, i11_21⟩ hP hD hS (lv_sub hl [0, 2] rfl)
             · simp only [i_lt, i_le, i_eq, ti_0] at c_27
               exact by
                refine lv_aload_n hx hb dX9_fillThreads_27 rfl (lv_at hl 2 rfl) ?_
                refine lv_aload_n hx hb dX9_fillThreads_28 rfl (lv_at hl 0 rfl) ?_
                have hFc := free_all hD hS hA
                refine va_callv (va_runV (As := [.ref (ad (50 + 16 * x_1.toInt.toNat))]) (rest := []) ⟨hx, hb, hml, hown, hg⟩ (c_X9_comeToThread l dC dI kc ws_4 ad ga gc M n f T_2 G_3 K F R x_1.toInt.toNat H.size (hpS H) hQ ⟨i1_11, i2_12, i3_13, i4_14, i5_15, i6_16, i7_17, i8_18, i9_19, i10_20, i11_21⟩ (by show x_1.toInt.toNat < M; omega)) (cwV 1 hg (gw_V gm_methodLink_RX9_282_yX9_comeToThread gm_instanceMethod_yX9_comeToThread gm_selects_RX9_yX9_comeToThread_yX9_comeToThread gm_initialized_RX9 gm_code_yX9_comeToThread_cX9_comeToThread_3_none) rfl rfl rfl (by decide +kernel) ⟨Nat.le_of_ble_eq_true rfl, Nat.le_of_ble_eq_true rfl⟩) ⟨fun a U g mk q => by obtain ⟨q0, q1, q2, qP, qK, qD, qN⟩ := q; exact ⟨q0, q1, q2, qP, va_K.moved (u := U) (U := U.calling g mk a) (Vm.Alike.refl U.vm) qK, qD, nx_same (u := U) (U := U.calling g mk a) rfl qN⟩, va_recv hK hP (ci := 9) (q0 := 0) rfl hQ.x0, fun U hU hW => ⟨rfl, by rw [hU], by rw [hU], by rw [hU]; exact hP, va_K.moved hW.alike hK, hD.weaken (fun _ _ _ _ => trivial), nx_warm hW hN⟩⟩ rfl rfl hl.1 rfl (lv_room (Nat.le_of_ble_eq_true rfl)) dX9_fillThreads_29 ⟨Nat.le_of_ble_eq_true rfl, Nat.le_of_ble_eq_true rfl⟩) hS (fun q _ h => hFc q h) hFc (fun u_30 t H1 locs ht hvm hw hB hz1 hk1 hS => ?_)
                obtain ⟨ad_31, ga_32, gc_33, M_34, n_35, f_36, T_37, G_38, K_39, F_40⟩ := u_30
                have hB : ∃ w : va_W, va_P (dC, dI) vwCl w t.heap ∧ va_D (va_A ws_4 H.size) w ∧ Pic9 kc w ad ga gc M n f T_37 G_38 K F ∧ I9 M n f T_37 gc G_38 K F R ∧ hpS t.heap + (260 * M + 2 * S9 M gc) ≤ hpS H + (260 * M + 2 * S9 M gc) ∧ 16 * t.heap.size + (256 * M + S9 M gc) ≤ 16 * H.size + (256 * M + S9 M gc) := hB
                rw [ht] at hB
                obtain ⟨ws_41, hP, hD, hQ, hI_42, hy1, hy2⟩ := hB
                have hD := hD.weaken (fun k q _ h => hFc _ h)
                obtain ⟨i1_43, i2_44, i3_45, i4_46, i5_47, i6_48, i7_49, i8_50, i9_51, i10_52, i11_53⟩ := id hI_42
                have q1_ := i1_43
                unfold i1 at q1_
                generalize H1 = H at hP hS ⊢
                have hc_55 : (C9.mk n f T_37 G_38 K F) = k_come x_1.toInt.toNat (C9.mk n f T_2 G_3 K F) := hw
                obtain ⟨y_56, ey_56⟩ : ∃ q : Int32, q = x_1 + (1) := ⟨_, rfl⟩
                exact by
                 refine lv_iinc (v := y_56) (lv' := [(1, .int y_56), (2, .ref (ad (50 + 16 * x_1.toInt.toNat))), (0, .ref (ad 0))]) hx hb dX9_fillThreads_32 hl (k := 1) rfl (by rw [ey_56]; rfl) (by decide) rfl (fun ls hl => ?_)
                 have ty_56 : y_56.toInt = x_1.toInt + (1) := ar_add rfl ti_1 ey_56 (by omega)
                 refine lv_goto (tgt := 2) hx hb dX9_fillThreads_35 (by decide) ?_
                 exact ih_9 y_56   ws_41 T_37 G_38  H locs ls (by show (201 - y_56.toInt).toNat < _; omega) (by show 0 ≤ y_56.toInt ∧ y_56.toInt ≤ 200; omega) (by show itr b_fill (fun s => s) y_56.toInt.toNat ((n 0).toInt.toNat - y_56.toInt.toNat) (C9.mk n f T_37 G_38 K F) = k_fill (C9.mk n f T G K F); have hX := v_7; (first | rw [itr_go (by omega)] at hX | rw [itr_end (by omega)] at hX); (repeat (first | dsimp +instances only [c9n, c9f, c9T, c9G, c9K, c9F, b_come, b_leave, b_fill, awB, b_settle, b_wake, b_take, f_take, b_gather, f_gather, b_ask, a_ask, b_tell, c_close, d_close, k_add, k_rem, sco, k_clrF, k_mem, k_rebind, k_bnd, k_beg0, k_beg1, b_giveN, b_giveR, f_open, b_hand, k_op, b_turn, wlB, b_beat, f_anew, b_wipe, b_off, k_sadd, fits, frP, cntB, b_trace, b_child, k_lat, cond_true, cond_false, Option.elim_none, Option.elim_some, Option.getD_none, Option.getD_some] at hX | rw [← hc_55] at hX | rw [if_pos (by first | with_reducible assumption | omega)] at hX | rw [if_neg (by first | with_reducible assumption | omega)] at hX | rw [jx_of (by omega)] at hX)); (rw [show y_56.toInt.toNat = x_1.toInt.toNat + 1 by omega]); first | exact hX | (exfalso; omega) | exact hX) hQ ⟨i1_43, i2_44, i3_45, i4_46, i5_47, i6_48, i7_49, i8_50, i9_51, i10_52, i11_53⟩ hP hD hS (lv_sub hl [0, 2] rfl)
          · have w_25 : ¬ (0 ≤ x_1.toInt ∧ x_1.toInt < (n 0).toInt) := w_25
            refine W.eq (g2 := F0 m 15 ls [.null]) rfl ?_
            refine lv_astore_nN (lv' := [(2, .null), (1, .int x_1), (0, .ref (ad 0))]) hx hb dX9_fillThreads_15 rfl hl (by decide) rfl (fun ls hl => ?_)
            refine lv_aload_nN hx hb dX9_fillThreads_16 rfl (lv_at hl 0 rfl) ?_
            refine lv_ifnullN (tgt := 32) hx hb dX9_fillThreads_17 (by decide) ?_
            obtain ⟨y_57, ey_57⟩ : ∃ q : Int32, q = x_1 + (1) := ⟨_, rfl⟩
            refine lv_iinc (v := y_57) (lv' := [(1, .int y_57), (2, .null), (0, .ref (ad 0))]) hx hb dX9_fillThreads_32 hl (k := 1) rfl (by rw [ey_57]; rfl) (by decide) rfl (fun ls hl => ?_)
            have ty_57 : y_57.toInt = x_1.toInt + (1) := ar_add rfl ti_1 ey_57 (by omega)
            refine lv_goto (tgt := 2) hx hb dX9_fillThreads_35 (by decide) ?_
            exact ih_9 y_57   ws_4 T_2 G_3  H locs ls (by show (201 - y_57.toInt).toNat < _; omega) (by show 0 ≤ y_57.toInt ∧ y_57.toInt ≤ 200; omega) (by show itr b_fill (fun s => s) y_57.toInt.toNat ((n 0).toInt.toNat - y_57.toInt.toNat) (C9.mk n f T_2 G_3 K F) = k_fill (C9.mk n f T G K F); have hX := v_7; (first | rw [itr_go (by omega)] at hX | rw [itr_end (by omega)] at hX); (repeat (first | dsimp +instances only [c9n, c9f, c9T, c9G, c9K, c9F, b_come, b_leave, b_fill, awB, b_settle, b_wake, b_take, f_take, b_gather, f_gather, b_ask, a_ask, b_tell, c_close, d_close, k_add, k_rem, sco, k_clrF, k_mem, k_rebind, k_bnd, k_beg0, k_beg1, b_giveN, b_giveR, f_open, b_hand, k_op, b_turn, wlB, b_beat, f_anew, b_wipe, b_off, k_sadd, fits, frP, cntB, b_trace, b_child, k_lat, cond_true, cond_false, Option.elim_none, Option.elim_some, Option.getD_none, Option.getD_some] at hX | rw [if_pos (by first | with_reducible assumption | omega)] at hX | rw [if_neg (by first | with_reducible assumption | omega)] at hX | rw [jx_of (by omega)] at hX)); (rw [show y_57.toInt.toNat = x_1.toInt.toNat + 1 by omega]); first | exact hX | (exfalso; omega) | exact hX) hQ ⟨i1_11, i2_12, i3_13, i4_14, i5_15, i6_16, i7_17, i8_18, i9_19, i10_20, i11_21⟩ hP hD hS (lv_sub hl [0, 2] rfl)
   exact L2 _ (0 : Int32)   ws T G  _ _ _ (Nat.lt_succ_self _) (by have t_0 := ti_0; show 0 ≤ (0 : Int32).toInt ∧ (0 : Int32).toInt ≤ 200; omega) (by show itr b_fill (fun s => s) (0 : Int32).toInt.toNat ((n 0).toInt.toNat - (0 : Int32).toInt.toNat) (C9.mk n f T G K F) = k_fill (C9.mk n f T G K F); have hX := (k_fill.eq_1 (C9.mk n f T G K F)).symm; (repeat (first | dsimp +instances only [c9n, c9f, c9T, c9G, c9K, c9F, b_come, b_leave, b_fill, awB, b_settle, b_wake, b_take, f_take, b_gather, f_gather, b_ask, a_ask, b_tell, c_close, d_close, k_add, k_rem, sco, k_clrF, k_mem, k_rebind, k_bnd, k_beg0, k_beg1, b_giveN, b_giveR, f_open, b_hand, k_op, b_turn, wlB, b_beat, f_anew, b_wipe, b_off, k_sadd, fits, frP, cntB, b_trace, b_child, k_lat, cond_true, cond_false, Option.elim_none, Option.elim_some, Option.getD_none, Option.getD_some] at hX | rw [if_pos (by first | with_reducible assumption | omega)] at hX | rw [if_neg (by first | with_reducible assumption | omega)] at hX | rw [jx_of (by omega)] at hX)); (skip); first | exact hX | (exfalso; omega) | exact hX) hQ ⟨h_i1, h_i2, h_i3, h_i4, h_i5, h_i6, h_i7, h_i8, h_i9, h_i10, h_i11⟩ hP hD hS (lv_sub hl [0, 1] rfl)

set_option maxHeartbeats 8000000 in
set_option maxRecDepth 100000 in
theorem c_X9_wakeWaiting (l : Launch) (dC : Nat → ClassId) (dI : Nat → Nat → Nat) (kc : Nat → ClassId) (ws : va_W) (ad : Nat → Nat) (ga : Nat → Nat) (gc : Nat → Nat) (M : Nat) (n : Nat → Int32) (f : Nat → Nat → Int32) (T : Nat → Option Nat) (G : Nat → Nat → Int32) (K : Nat → Nat → Option Nat) (F : Nat → Nat → Nat → Int32) (R : Nat) (sz hz : Nat) (hQ : Pic9 kc ws ad ga gc M n f T G K F) (hI : I9 M n f T gc G K F R) : Met l yX9_wakeWaiting (.code yX9_wakeWaiting cX9_wakeWaiting 3 none :: gw) ({ frames := 2, cells := 0, slots := 0, locals := 41 }) (va_Pc [.ref (ad 0)] (fun U => U.heap.size = sz ∧ hpS U.heap = hz ∧ va_P (dC, dI) vwCl ws U.heap ∧ va_K (dC, dI) vwCl (t9 kc) U ∧ va_D (fun _ => True) ws ∧ nx U)) (va_Qv (fun (u : (Nat → Nat) × (Nat → Nat) × (Nat → Nat) × Nat × (Nat → Int32) × (Nat → Nat → Int32) × (Nat → Option Nat) × (Nat → Nat → Int32) × (Nat → Nat → Option Nat) × (Nat → Nat → Nat → Int32)) => (C9.mk n f T u.2.2.2.2.2.2.2.1 K F) = k_wake (C9.mk n f T G K F)) (fun u t => ∃ w : va_W, va_P (dC, dI) vwCl w t.heap ∧ va_D (va_A ws sz) w ∧ Pic9 kc w ad ga gc M n f T u.2.2.2.2.2.2.2.1 K F ∧ I9 M n f T gc u.2.2.2.2.2.2.2.1 K F R ∧ hpS t.heap + (260 * M + 2 * S9 M gc) ≤ hz + (260 * M + 2 * S9 M gc) ∧ 16 * t.heap.size + (256 * M + S9 M gc) ≤ 16 * sz + (256 * M + S9 M gc)) (va_A ws sz)) 0 0 (va_A ws sz) := by
  refine Met.ofW (cc := cX9_wakeWaiting) (maxL := 3) (ret := none) (by decide) rfl ?_
  intro p e s m args below meth c s₁ B hml hv
  obtain ⟨rfl, hsz, rfl, hP, hK, hD0, hN⟩ := hv
  have hx := B.exec
  have hb := B.bytes
  have hr := B.returns
  have hts := atoms_spec (ws := .code yX9_wakeWaiting cX9_wakeWaiting 3 none :: gw) B.pre
  have hg : ∀ w ∈ gw, w.before _ s = true := fun w h => hts w (List.mem_cons_of_mem _ h)
  have hown : s.vm.findClass RX9 = some m.cls := findClass_of_methodNamed B.named
  have hlocks := B.notSynchronized
  subst hsz
  have hD := hD0.self (sz := s.heap.size)
  generalize hAe : va_A ws s.heap.size = A at hD ⊢
  have hA : ∀ q : Nat, s.heap.size ≤ q → A q := fun q h => by rw [← hAe]; exact Or.inr h
  clear hAe
  have hS : va_S A s.heap s.heap [] := va_S.rf
  have hl := lv_entry ([.ref (ad 0)]) (n := 3) (Nat.le_of_ble_eq_true rfl)
  rw [lg_entry_eq]
  generalize (lg_sl ([.ref (ad 0)]) ++ List.replicate (3 - (lg_sl ([.ref (ad 0)])).length) Slot.unset).toArray = ls at hl ⊢
  have hl : lv_has ls 3 [(0, .ref (ad 0))] := hl
  obtain ⟨h_i1, h_i2, h_i3, h_i4, h_i5, h_i6, h_i7, h_i8, h_i9, h_i10, h_i11⟩ := id hI
  have q1_ := h_i1
  unfold i1 at q1_
  exact by
   refine lv_iconst (v := 0) hx hb dX9_wakeWaiting_0 (by decide) ?_
   refine lv_istore_n (lv' := [(1, .int 0), (0, .ref (ad 0))]) hx hb dX9_wakeWaiting_1 rfl hl (by decide) rfl (fun ls hl => ?_)
   have L2 : ∀ (fuel : Nat) (x_1 : Int32)   (ws_3 : va_W) (G_2 : Nat → Nat → Int32)  (H : Heap) (locs : List Loc) (ls : Array Slot), (201 - x_1.toInt).toNat < fuel → (0 ≤ x_1.toInt ∧ x_1.toInt ≤ 200) → (itr b_wake (fun s => s) x_1.toInt.toNat ((n 0).toInt.toNat - x_1.toInt.toNat) (C9.mk n f T G_2 K F) = k_wake (C9.mk n f T G K F)) → Pic9 kc ws_3 ad ga gc M n f T G_2 K F → I9 M n f T gc G_2 K F R → va_P (dC, dI) vwCl ws_3 H → va_D A ws_3 → va_S A s.heap H locs → lv_has ls 3 [(1, .int x_1), (0, .ref (ad 0))] → W p l e (headSpec (.code yX9_wakeWaiting cX9_wakeWaiting 3 none :: gw) ({ frames := 2, cells := 0, slots := 0, locals := 41 })).room s m ([.ref (ad 0)] : List Value).toArray below meth c H locs 0 0 (MQ below (va_Qv (fun (u : (Nat → Nat) × (Nat → Nat) × (Nat → Nat) × Nat × (Nat → Int32) × (Nat → Nat → Int32) × (Nat → Option Nat) × (Nat → Nat → Int32) × (Nat → Nat → Option Nat) × (Nat → Nat → Nat → Int32)) => (C9.mk n f T u.2.2.2.2.2.2.2.1 K F) = k_wake (C9.mk n f T G K F)) (fun u t => ∃ w : va_W, va_P (dC, dI) vwCl w t.heap ∧ va_D A w ∧ Pic9 kc w ad ga gc M n f T u.2.2.2.2.2.2.2.1 K F ∧ I9 M n f T gc u.2.2.2.2.2.2.2.1 K F R ∧ hpS t.heap + (260 * M + 2 * S9 M gc) ≤ (hpS s.heap) + (260 * M + 2 * S9 M gc) ∧ 16 * t.heap.size + (256 * M + S9 M gc) ≤ 16 * s.heap.size + (256 * M + S9 M gc)) A) ([.ref (ad 0)] : List Value).toArray s 0 0 A) (F0 m 2 ls []) := by
     intro fuel
     induction fuel with
     | zero => intro x_1 ws_3 G_2 H locs ls hm; exact absurd hm (Nat.not_lt_zero _)
     | succ fuel_9 ih_8 =>
       intro x_1 ws_3 G_2 H locs ls hm_4 v_5 v_6 hQ hI_7 hP hD hS hl
       obtain ⟨i1_10, i2_11, i3_12, i4_13, i5_14, i6_15, i7_16, i8_17, i9_18, i10_19, i11_20⟩ := id hI_7
       have q1_ := i1_10
       unfold i1 at q1_
       refine lv_iload_n hx hb dX9_wakeWaiting_2 rfl (lv_at hl 0 rfl) ?_
       exact by
        refine lv_aload_n hx hb dX9_wakeWaiting_3 rfl (lv_at hl 1 rfl) ?_
        refine va_get (D := (dC, dI)) (ci := 9) (v := .int (n 0)) (C := RX9) (T := TX9) (N := 15) hx hb hg gb_9 hown hK hP 0 hQ.x0 rfl 5 (by decide) (hg _ gm_fieldLink_RX9_66_ErrandGuild_runCount_I_) (fun _ h9 => h9) rfl dX9_wakeWaiting_4 ?_
        refine lv_icmp_ge (tgt := 51) hx hb dX9_wakeWaiting_7 (by decide) (fun c_21 => ?_) (fun c_21 => ?_)
        · simp only [i_lt, i_le, i_eq] at c_21
          refine W_msr2 (fun hm1 hm2 hm3 => ?_)
          exact W.vret hx hb hr (fun t ht hW => ⟨⟨(ad, ga, gc, M, n, f, T, G_2, K, F), rfl, (by show (C9.mk n f T G_2 K F) = k_wake (C9.mk n f T G K F); have hX := v_6; (first | rw [itr_go (by omega)] at hX | rw [itr_end (by omega)] at hX); (repeat (first | dsimp +instances only [c9n, c9f, c9T, c9G, c9K, c9F, b_come, b_leave, b_fill, awB, b_settle, b_wake, b_take, f_take, b_gather, f_gather, b_ask, a_ask, b_tell, c_close, d_close, k_add, k_rem, sco, k_clrF, k_mem, k_rebind, k_bnd, k_beg0, k_beg1, b_giveN, b_giveR, f_open, b_hand, k_op, b_turn, wlB, b_beat, f_anew, b_wipe, b_off, k_sadd, fits, frP, cntB, b_trace, b_child, k_lat, cond_true, cond_false, Option.elim_none, Option.elim_some, Option.getD_none, Option.getD_some] at hX | rw [if_pos (by first | with_reducible assumption | omega)] at hX | rw [if_neg (by first | with_reducible assumption | omega)] at hX | rw [jx_of (by omega)] at hX)); first | exact hX | (exfalso; omega) | exact hX), ws_3, by rw [ht]; exact hP, hD, hQ, ⟨i1_10, i2_11, i3_12, i4_13, i5_14, i6_15, i7_16, i8_17, i9_18, i10_19, i11_20⟩, by rw [ht]; show hpS H + (260 * M + 2 * S9 M gc) ≤ hpS s.heap + (260 * M + 2 * S9 M gc); omega, by rw [ht]; show 16 * H.size + (256 * M + S9 M gc) ≤ 16 * s.heap.size + (256 * M + S9 M gc); omega⟩, hS.F ht⟩) hS.2.2 dX9_wakeWaiting_51
        · simp only [i_lt, i_le, i_eq] at c_21
          refine lv_aload_n hx hb dX9_wakeWaiting_10 rfl (lv_at hl 1 rfl) ?_
          refine lv_iload_n hx hb dX9_wakeWaiting_11 rfl (lv_at hl 0 rfl) ?_
          have hFc := free_all hD hS hA
          refine va_callq (va_runV (As := [.int x_1]) (rest := []) ⟨hx, hb, hml, hown, hg⟩ (c_X9_runAt l dC dI kc ws_3 ad ga gc M n f T G_2 K F R x_1 H.size (hpS H) hQ ⟨i1_10, i2_11, i3_12, i4_13, i5_14, i6_15, i7_16, i8_17, i9_18, i10_19, i11_20⟩) (cwV 1 hg (gw_V gm_methodLink_RX9_134_yX9_runAt gm_instanceMethod_yX9_runAt gm_selects_RX9_yX9_runAt_yX9_runAt gm_initialized_RX9 gm_code_yX9_runAt_cX9_runAt_2_some_object_ErrandGuild_Run_) rfl rfl rfl (by decide +kernel) ⟨Nat.le_of_ble_eq_true rfl, Nat.le_of_ble_eq_true rfl⟩) ⟨fun a U g mk q => by obtain ⟨q0, q1, q2, qP, qK, qD, qN⟩ := q; exact ⟨q0, q1, q2, qP, va_K.moved (u := U) (U := U.calling g mk a) (Vm.Alike.refl U.vm) qK, qD, nx_same (u := U) (U := U.calling g mk a) rfl qN⟩, va_recv hK hP (ci := 9) (q0 := 0) rfl hQ.x0, fun U hU hW => ⟨rfl, by rw [hU], by rw [hU], by rw [hU]; exact hP, va_K.moved hW.alike hK, hD.weaken (fun _ _ _ _ => trivial), nx_warm hW hN⟩⟩ rfl rfl hl.1 rfl (lv_room (Nat.le_of_ble_eq_true rfl)) dX9_wakeWaiting_12 ⟨Nat.le_of_ble_eq_true rfl, Nat.le_of_ble_eq_true rfl⟩) hS (fun q _ h => hFc q h) hFc (fun r_22 u_23 t H1 locs ht hvm hw hB hz1 hk1 hS => ?_)
          obtain ⟨hP, hD, hy1, hy2⟩ := hB
          rw [ht] at hP hy1 hy2
          have hD := hD.weaken (fun k q _ h => hFc _ h)
          have q1_ := i1_10
          unfold i1 at q1_
          generalize H1 = H at hP hS ⊢
          rcases hw with ⟨rfl, w_24⟩ | ⟨rfl, w_24⟩
          · have w_24 : (0 ≤ x_1.toInt ∧ x_1.toInt < (n 0).toInt) := w_24
            have hl_25 : x_1.toInt.toNat < M := by omega
            refine W.eq (g2 := F0 m 15 ls [.ref (ad (50 + 16 * x_1.toInt.toNat))]) rfl ?_
            exact by
             refine lv_astore_n (lv' := [(2, .ref (ad (50 + 16 * x_1.toInt.toNat))), (1, .int x_1), (0, .ref (ad 0))]) hx hb dX9_wakeWaiting_15 rfl hl (by decide) rfl (fun ls hl => ?_)
             refine lv_aload_n hx hb dX9_wakeWaiting_16 rfl (lv_at hl 0 rfl) ?_
             refine lv_ifnull hx hb dX9_wakeWaiting_17 ?_
             refine lv_aload_n hx hb dX9_wakeWaiting_20 rfl (lv_at hl 0 rfl) ?_
             refine va_get (D := (dC, dI)) (ci := 7) (v := .int (G_2 x_1.toInt.toNat 2)) (C := RX7) (T := TX7) (N := 15) hx hb hg gb_7 hown hK hP (50 + 16 * x_1.toInt.toNat) (hQ.b0 hl_25) rfl 2 (by decide) (hg _ gm_fieldLink_RX9_145_ErrandGuild_Run_state_I_) (fun _ h9 => h9) rfl dX9_wakeWaiting_21 ?_
             refine lv_iconst (v := 2) hx hb dX9_wakeWaiting_24 (by decide) ?_
             refine lv_icmp_ne (tgt := 45) hx hb dX9_wakeWaiting_25 (by decide) (fun c_26 => ?_) (fun c_26 => ?_)
             · simp only [i_lt, i_le, i_eq, ti_2] at c_26
               obtain ⟨y_27, ey_27⟩ : ∃ q : Int32, q = x_1 + (1) := ⟨_, rfl⟩
               refine lv_iinc (v := y_27) (lv' := [(1, .int y_27), (2, .ref (ad (50 + 16 * x_1.toInt.toNat))), (0, .ref (ad 0))]) hx hb dX9_wakeWaiting_45 hl (k := 1) rfl (by rw [ey_27]; rfl) (by decide) rfl (fun ls hl => ?_)
               have ty_27 : y_27.toInt = x_1.toInt + (1) := ar_add rfl ti_1 ey_27 (by omega)
               refine lv_goto (tgt := 2) hx hb dX9_wakeWaiting_48 (by decide) ?_
               exact ih_8 y_27   ws_3 G_2  H locs ls (by show (201 - y_27.toInt).toNat < _; omega) (by show 0 ≤ y_27.toInt ∧ y_27.toInt ≤ 200; omega) (by show itr b_wake (fun s => s) y_27.toInt.toNat ((n 0).toInt.toNat - y_27.toInt.toNat) (C9.mk n f T G_2 K F) = k_wake (C9.mk n f T G K F); have hX := v_6; (first | rw [itr_go (by omega)] at hX | rw [itr_end (by omega)] at hX); (repeat (first | dsimp +instances only [c9n, c9f, c9T, c9G, c9K, c9F, b_come, b_leave, b_fill, awB, b_settle, b_wake, b_take, f_take, b_gather, f_gather, b_ask, a_ask, b_tell, c_close, d_close, k_add, k_rem, sco, k_clrF, k_mem, k_rebind, k_bnd, k_beg0, k_beg1, b_giveN, b_giveR, f_open, b_hand, k_op, b_turn, wlB, b_beat, f_anew, b_wipe, b_off, k_sadd, fits, frP, cntB, b_trace, b_child, k_lat, cond_true, cond_false, Option.elim_none, Option.elim_some, Option.getD_none, Option.getD_some] at hX | rw [if_pos (by first | with_reducible assumption | omega)] at hX | rw [if_neg (by first | with_reducible assumption | omega)] at hX | rw [jx_of (by omega)] at hX)); (rw [show y_27.toInt.toNat = x_1.toInt.toNat + 1 by omega]); first | exact hX | (exfalso; omega) | exact hX) hQ ⟨i1_10, i2_11, i3_12, i4_13, i5_14, i6_15, i7_16, i8_17, i9_18, i10_19, i11_20⟩ hP hD hS (lv_sub hl [0, 2] rfl)
             · simp only [i_lt, i_le, i_eq, ti_2] at c_26
               exact by
                refine lv_aload_n hx hb dX9_wakeWaiting_28 rfl (lv_at hl 0 rfl) ?_
                have hFc := free_all hD hS hA
                refine va_calli (va_runS (As := [.ref (ad (50 + 16 * x_1.toInt.toNat))]) (rest := []) ⟨hx, hb, hml, hown, hg⟩ (c_X9_areAwaitedOver l dC dI kc ws_3 ad ga gc M n f T G_2 K F R x_1.toInt.toNat H.size (hpS H) hQ ⟨i1_10, i2_11, i3_12, i4_13, i5_14, i6_15, i7_16, i8_17, i9_18, i10_19, i11_20⟩ (by show x_1.toInt.toNat < M; omega)) (va_cwS 1 hg (gw_S gm_methodLink_RX9_303_yX9_areAwaitedOver gm_static_yX9_areAwaitedOver gm_initialized_RX9 gm_code_yX9_areAwaitedOver_cX9_areAwaitedOver_2_some_boolean_) rfl rfl rfl (by decide +kernel) ⟨Nat.le_of_ble_eq_true rfl, Nat.le_of_ble_eq_true rfl⟩) ⟨fun a U g mk q => by obtain ⟨q0, q1, q2, qP, qK, qD, qN⟩ := q; exact ⟨q0, q1, q2, qP, va_K.moved (u := U) (U := U.calling g mk a) (Vm.Alike.refl U.vm) qK, qD, nx_same (u := U) (U := U.calling g mk a) rfl qN⟩, fun U hU hW => ⟨rfl, by rw [hU], by rw [hU], by rw [hU]; exact hP, va_K.moved hW.alike hK, hD.weaken (fun _ _ _ _ => trivial), nx_warm hW hN⟩⟩ rfl rfl hl.1 rfl (lv_room (Nat.le_of_ble_eq_true rfl)) dX9_wakeWaiting_29 ⟨Nat.le_of_ble_eq_true rfl, Nat.le_of_ble_eq_true rfl⟩) hS (fun q _ h => hFc q h) hFc (fun r_28 u_29 t H1 locs ht hvm hw hB hz1 hk1 hS => ?_)
                obtain ⟨hP, hD, hy1, hy2⟩ := hB
                rw [ht] at hP hy1 hy2
                have hD := hD.weaken (fun k q _ h => hFc _ h)
                have q1_ := i1_10
                unfold i1 at q1_
                generalize H1 = H at hP hS ⊢
                rcases hw with ⟨rfl, w_30⟩ | ⟨rfl, w_30⟩
                · have hc_31 : k_aw K G_2 x_1.toInt.toNat = true := w_30
                  refine lv_if_eq (tgt := 45) hx hb dX9_wakeWaiting_32 (by decide) (fun c_32 => absurd c_32 (by decide)) (fun _ => ?_)
                  exact by
                   refine lv_aload_n hx hb dX9_wakeWaiting_35 rfl (lv_at hl 0 rfl) ?_
                   refine lv_iconst (v := 0) hx hb dX9_wakeWaiting_36 (by decide) ?_
                   refine va_put (D := (dC, dI)) (ci := 7) (v := .int (0)) (ty := .int) (C := RX7) (T := TX7) (N := 15) hx hb hg gb_7 tyX7 tyX7_ok nmX7 hown hK hP hD hS (50 + 16 * x_1.toInt.toNat) (hQ.b0 hl_25) rfl 2 (by decide) (hg _ gm_fieldLink_RX9_145_ErrandGuild_Run_state_I_) (fun _ h9 => h9) rfl (by decide +kernel) rfl rfl (Nat.le_of_ble_eq_true rfl) dX9_wakeWaiting_37 (fun H locs hP hD hS => ?_)
                   obtain ⟨ws_34, G_33, eG_33, hP, hD, hQ⟩ : ∃ (ws_34 : va_W) (G_33 : Nat → Nat → Int32), G_33 = u2 G_2 x_1.toInt.toNat 2 0 ∧ va_P (dC, dI) vwCl ws_34 H ∧ va_D A ws_34 ∧ Pic9 kc ws_34 ad ga gc M n f T G_33 K F := ⟨_, _, rfl, hP, hD, hQ.run hl_25 2 (by decide) 0⟩
                   have i10_35 : i10 M G_33 K F := by rw [eG_33]; exact (i10.pG i10_19 hl_25 _ (by decide))
                   have i11_36 : i11 M n gc f G_33 F := by rw [eG_33]; exact (i11.pG i11_20 x_1.toInt.toNat _ (by decide))
                   have i6_37 : i6 n T G_33 := by rw [eG_33]; exact (i6.pG i6_15 x_1.toInt.toNat _ (by decide))
                   have i7_38 : i7 n G_33 := by rw [eG_33]; exact (i7.st i7_16 x_1.toInt.toNat (by decide))
                   have i8_39 : i8 M n gc G_33 := by rw [eG_33]; exact (i8.pG i8_17 x_1.toInt.toNat _ (by decide))
                   have i9_40 : i9 M gc G_33 R := by rw [eG_33]; exact (i9.pG i9_18 x_1.toInt.toNat _ (by decide))
                   have eg_41 : G_33 x_1.toInt.toNat 2 = 0 := by rw [eG_33, u2_eq]
                   refine lv_aload_n hx hb dX9_wakeWaiting_40 rfl (lv_at hl 0 rfl) ?_
                   exact by
                    refine lv_iconst (v := 1) hx hb dX9_wakeWaiting_41 (by decide) ?_
                    refine va_put (D := (dC, dI)) (ci := 7) (v := .int (1)) (ty := .boolean) (C := RX7) (T := TX7) (N := 15) hx hb hg gb_7 tyX7 tyX7_ok nmX7 hown hK hP hD hS (50 + 16 * x_1.toInt.toNat) (hQ.b0 hl_25) rfl 9 (by decide) (hg _ gm_fieldLink_RX9_289_ErrandGuild_Run_returning_Z_) (fun _ h9 => h9) rfl (by decide +kernel) rfl rfl (Nat.le_of_ble_eq_true rfl) dX9_wakeWaiting_42 (fun H locs hP hD hS => ?_)
                    obtain ⟨ws_43, G_42, eG_42, hP, hD, hQ⟩ : ∃ (ws_43 : va_W) (G_42 : Nat → Nat → Int32), G_42 = u2 G_33 x_1.toInt.toNat 9 1 ∧ va_P (dC, dI) vwCl ws_43 H ∧ va_D A ws_43 ∧ Pic9 kc ws_43 ad ga gc M n f T G_42 K F := ⟨_, _, rfl, hP, hD, hQ.run hl_25 9 (by decide) 1⟩
                    have i10_44 : i10 M G_42 K F := by rw [eG_42]; exact (i10.pG i10_35 hl_25 _ (by decide))
                    have i11_45 : i11 M n gc f G_42 F := by rw [eG_42]; exact (i11.pG i11_36 x_1.toInt.toNat _ (by decide))
                    have i6_46 : i6 n T G_42 := by rw [eG_42]; exact (i6.pG i6_37 x_1.toInt.toNat _ (by decide))
                    have i7_47 : i7 n G_42 := by rw [eG_42]; exact (i7.pG i7_38 x_1.toInt.toNat _ (by decide))
                    have i8_48 : i8 M n gc G_42 := by rw [eG_42]; exact (i8.pG i8_39 x_1.toInt.toNat _ (by decide))
                    have i9_49 : i9 M gc G_42 R := by rw [eG_42]; exact (i9.pG i9_40 x_1.toInt.toNat _ (by decide))
                    have eg_50 : G_42 x_1.toInt.toNat 9 = 1 := by rw [eG_42, u2_eq]
                    obtain ⟨y_51, ey_51⟩ : ∃ q : Int32, q = x_1 + (1) := ⟨_, rfl⟩
                    refine lv_iinc (v := y_51) (lv' := [(1, .int y_51), (2, .ref (ad (50 + 16 * x_1.toInt.toNat))), (0, .ref (ad 0))]) hx hb dX9_wakeWaiting_45 hl (k := 1) rfl (by rw [ey_51]; rfl) (by decide) rfl (fun ls hl => ?_)
                    have ty_51 : y_51.toInt = x_1.toInt + (1) := ar_add rfl ti_1 ey_51 (by omega)
                    exact by
                     refine lv_goto (tgt := 2) hx hb dX9_wakeWaiting_48 (by decide) ?_
                     exact ih_8 y_51   ws_43 G_42  H locs ls (by show (201 - y_51.toInt).toNat < _; omega) (by show 0 ≤ y_51.toInt ∧ y_51.toInt ≤ 200; omega) (by show itr b_wake (fun s => s) y_51.toInt.toNat ((n 0).toInt.toNat - y_51.toInt.toNat) (C9.mk n f T G_42 K F) = k_wake (C9.mk n f T G K F); subst eG_33; subst eG_42; have hX := v_6; (first | rw [itr_go (by omega)] at hX | rw [itr_end (by omega)] at hX); (repeat (first | dsimp +instances only [c9n, c9f, c9T, c9G, c9K, c9F, b_come, b_leave, b_fill, awB, b_settle, b_wake, b_take, f_take, b_gather, f_gather, b_ask, a_ask, b_tell, c_close, d_close, k_add, k_rem, sco, k_clrF, k_mem, k_rebind, k_bnd, k_beg0, k_beg1, b_giveN, b_giveR, f_open, b_hand, k_op, b_turn, wlB, b_beat, f_anew, b_wipe, b_off, k_sadd, fits, frP, cntB, b_trace, b_child, k_lat, cond_true, cond_false, Option.elim_none, Option.elim_some, Option.getD_none, Option.getD_some] at hX | rw [hc_31] at hX | rw [if_pos (by first | with_reducible assumption | omega)] at hX | rw [if_neg (by first | with_reducible assumption | omega)] at hX | rw [jx_of (by omega)] at hX)); (rw [show y_51.toInt.toNat = x_1.toInt.toNat + 1 by omega]); first | exact hX | (exfalso; omega) | exact hX) hQ ⟨i1_10, i2_11, i3_12, i4_13, i5_14, i6_46, i7_47, i8_48, i9_49, i10_44, i11_45⟩ hP hD hS (lv_sub hl [0, 2] rfl)
                · have hc_52 : k_aw K G_2 x_1.toInt.toNat = false := w_30
                  refine lv_if_eq (tgt := 45) hx hb dX9_wakeWaiting_32 (by decide) (fun _ => ?_) (fun c_53 => absurd c_53 (by decide))
                  obtain ⟨y_54, ey_54⟩ : ∃ q : Int32, q = x_1 + (1) := ⟨_, rfl⟩
                  refine lv_iinc (v := y_54) (lv' := [(1, .int y_54), (2, .ref (ad (50 + 16 * x_1.toInt.toNat))), (0, .ref (ad 0))]) hx hb dX9_wakeWaiting_45 hl (k := 1) rfl (by rw [ey_54]; rfl) (by decide) rfl (fun ls hl => ?_)
                  have ty_54 : y_54.toInt = x_1.toInt + (1) := ar_add rfl ti_1 ey_54 (by omega)
                  refine lv_goto (tgt := 2) hx hb dX9_wakeWaiting_48 (by decide) ?_
                  exact ih_8 y_54   ws_3 G_2  H locs ls (by show (201 - y_54.toInt).toNat < _; omega) (by show 0 ≤ y_54.toInt ∧ y_54.toInt ≤ 200; omega) (by show itr b_wake (fun s => s) y_54.toInt.toNat ((n 0).toInt.toNat - y_54.toInt.toNat) (C9.mk n f T G_2 K F) = k_wake (C9.mk n f T G K F); have hX := v_6; (first | rw [itr_go (by omega)] at hX | rw [itr_end (by omega)] at hX); (repeat (first | dsimp +instances only [c9n, c9f, c9T, c9G, c9K, c9F, b_come, b_leave, b_fill, awB, b_settle, b_wake, b_take, f_take, b_gather, f_gather, b_ask, a_ask, b_tell, c_close, d_close, k_add, k_rem, sco, k_clrF, k_mem, k_rebind, k_bnd, k_beg0, k_beg1, b_giveN, b_giveR, f_open, b_hand, k_op, b_turn, wlB, b_beat, f_anew, b_wipe, b_off, k_sadd, fits, frP, cntB, b_trace, b_child, k_lat, cond_true, cond_false, Option.elim_none, Option.elim_some, Option.getD_none, Option.getD_some] at hX | rw [hc_52] at hX | rw [if_pos (by first | with_reducible assumption | omega)] at hX | rw [if_neg (by first | with_reducible assumption | omega)] at hX | rw [jx_of (by omega)] at hX)); (rw [show y_54.toInt.toNat = x_1.toInt.toNat + 1 by omega]); first | exact hX | (exfalso; omega) | exact hX) hQ ⟨i1_10, i2_11, i3_12, i4_13, i5_14, i6_15, i7_16, i8_17, i9_18, i10_19, i11_20⟩ hP hD hS (lv_sub hl [0, 2] rfl)
          · have w_24 : ¬ (0 ≤ x_1.toInt ∧ x_1.toInt < (n 0).toInt) := w_24
            refine W.eq (g2 := F0 m 15 ls [.null]) rfl ?_
            refine lv_astore_nN (lv' := [(2, .null), (1, .int x_1), (0, .ref (ad 0))]) hx hb dX9_wakeWaiting_15 rfl hl (by decide) rfl (fun ls hl => ?_)
            refine lv_aload_nN hx hb dX9_wakeWaiting_16 rfl (lv_at hl 0 rfl) ?_
            refine lv_ifnullN (tgt := 45) hx hb dX9_wakeWaiting_17 (by decide) ?_
            obtain ⟨y_55, ey_55⟩ : ∃ q : Int32, q = x_1 + (1) := ⟨_, rfl⟩
            refine lv_iinc (v := y_55) (lv' := [(1, .int y_55), (2, .null), (0, .ref (ad 0))]) hx hb dX9_wakeWaiting_45 hl (k := 1) rfl (by rw [ey_55]; rfl) (by decide) rfl (fun ls hl => ?_)
            have ty_55 : y_55.toInt = x_1.toInt + (1) := ar_add rfl ti_1 ey_55 (by omega)
            refine lv_goto (tgt := 2) hx hb dX9_wakeWaiting_48 (by decide) ?_
            exact ih_8 y_55   ws_3 G_2  H locs ls (by show (201 - y_55.toInt).toNat < _; omega) (by show 0 ≤ y_55.toInt ∧ y_55.toInt ≤ 200; omega) (by show itr b_wake (fun s => s) y_55.toInt.toNat ((n 0).toInt.toNat - y_55.toInt.toNat) (C9.mk n f T G_2 K F) = k_wake (C9.mk n f T G K F); have hX := v_6; (first | rw [itr_go (by omega)] at hX | rw [itr_end (by omega)] at hX); (repeat (first | dsimp +instances only [c9n, c9f, c9T, c9G, c9K, c9F, b_come, b_leave, b_fill, awB, b_settle, b_wake, b_take, f_take, b_gather, f_gather, b_ask, a_ask, b_tell, c_close, d_close, k_add, k_rem, sco, k_clrF, k_mem, k_rebind, k_bnd, k_beg0, k_beg1, b_giveN, b_giveR, f_open, b_hand, k_op, b_turn, wlB, b_beat, f_anew, b_wipe, b_off, k_sadd, fits, frP, cntB, b_trace, b_child, k_lat, cond_true, cond_false, Option.elim_none, Option.elim_some, Option.getD_none, Option.getD_some] at hX | rw [if_pos (by first | with_reducible assumption | omega)] at hX | rw [if_neg (by first | with_reducible assumption | omega)] at hX | rw [jx_of (by omega)] at hX)); (rw [show y_55.toInt.toNat = x_1.toInt.toNat + 1 by omega]); first | exact hX | (exfalso; omega) | exact hX) hQ ⟨i1_10, i2_11, i3_12, i4_13, i5_14, i6_15, i7_16, i8_17, i9_18, i10_19, i11_20⟩ hP hD hS (lv_sub hl [0, 2] rfl)
   exact L2 _ (0 : Int32)   ws G  _ _ _ (Nat.lt_succ_self _) (by have t_0 := ti_0; show 0 ≤ (0 : Int32).toInt ∧ (0 : Int32).toInt ≤ 200; omega) (by show itr b_wake (fun s => s) (0 : Int32).toInt.toNat ((n 0).toInt.toNat - (0 : Int32).toInt.toNat) (C9.mk n f T G K F) = k_wake (C9.mk n f T G K F); have hX := (k_wake.eq_1 (C9.mk n f T G K F)).symm; (repeat (first | dsimp +instances only [c9n, c9f, c9T, c9G, c9K, c9F, b_come, b_leave, b_fill, awB, b_settle, b_wake, b_take, f_take, b_gather, f_gather, b_ask, a_ask, b_tell, c_close, d_close, k_add, k_rem, sco, k_clrF, k_mem, k_rebind, k_bnd, k_beg0, k_beg1, b_giveN, b_giveR, f_open, b_hand, k_op, b_turn, wlB, b_beat, f_anew, b_wipe, b_off, k_sadd, fits, frP, cntB, b_trace, b_child, k_lat, cond_true, cond_false, Option.elim_none, Option.elim_some, Option.getD_none, Option.getD_some] at hX | rw [if_pos (by first | with_reducible assumption | omega)] at hX | rw [if_neg (by first | with_reducible assumption | omega)] at hX | rw [jx_of (by omega)] at hX)); (skip); first | exact hX | (exfalso; omega) | exact hX) hQ ⟨h_i1, h_i2, h_i3, h_i4, h_i5, h_i6, h_i7, h_i8, h_i9, h_i10, h_i11⟩ hP hD hS (lv_sub hl [0, 1] rfl)

set_option maxHeartbeats 8000000 in
set_option maxRecDepth 100000 in
theorem c_X9_noticeInterrupt (l : Launch) (dC : Nat → ClassId) (dI : Nat → Nat → Nat) (kc : Nat → ClassId) (ws : va_W) (ad : Nat → Nat) (ga : Nat → Nat) (gc : Nat → Nat) (M : Nat) (n : Nat → Int32) (f : Nat → Nat → Int32) (T : Nat → Option Nat) (G : Nat → Nat → Int32) (K : Nat → Nat → Option Nat) (F : Nat → Nat → Nat → Int32) (R : Nat) (i : Nat) (sz hz : Nat) (hQ : Pic9 kc ws ad ga gc M n f T G K F) (hI : I9 M n f T gc G K F R) (hi : i < M) : Met l yX9_noticeInterrupt (.code yX9_noticeInterrupt cX9_noticeInterrupt 1 (some .int) :: gw) ({ frames := 1, cells := 0, slots := 0, locals := 21 }) (va_Pc [.ref (ad (50 + 16 * i))] (fun U => U.heap.size = sz ∧ hpS U.heap = hz ∧ va_P (dC, dI) vwCl ws U.heap ∧ va_K (dC, dI) vwCl (t9 kc) U ∧ va_D (fun _ => True) ws ∧ nx U)) (va_Qi (fun (r : Int32) (u : (Nat → Nat) × (Nat → Nat) × (Nat → Nat) × Nat × (Nat → Int32) × (Nat → Nat → Int32) × (Nat → Option Nat) × (Nat → Nat → Int32) × (Nat → Nat → Option Nat) × (Nat → Nat → Nat → Int32)) => ((C9.mk n f T u.2.2.2.2.2.2.2.1 K F), r) = k_notice i (C9.mk n f T G K F)) (fun u t => ∃ w : va_W, va_P (dC, dI) vwCl w t.heap ∧ va_D (va_A ws sz) w ∧ Pic9 kc w ad ga gc M n f T u.2.2.2.2.2.2.2.1 K F ∧ I9 M n f T gc u.2.2.2.2.2.2.2.1 K F R ∧ hpS t.heap + (260 * M + 2 * S9 M gc) ≤ hz + (260 * M + 2 * S9 M gc) ∧ 16 * t.heap.size + (256 * M + S9 M gc) ≤ 16 * sz + (256 * M + S9 M gc)) (va_A ws sz)) 0 0 (va_A ws sz) := by
  refine Met.ofW (cc := cX9_noticeInterrupt) (maxL := 1) (ret := (some .int)) (by decide) rfl ?_
  intro p e s m args below meth c s₁ B hml hv
  obtain ⟨rfl, hsz, rfl, hP, hK, hD0, hN⟩ := hv
  have hx := B.exec
  have hb := B.bytes
  have hr := B.returns
  have hts := atoms_spec (ws := .code yX9_noticeInterrupt cX9_noticeInterrupt 1 (some .int) :: gw) B.pre
  have hg : ∀ w ∈ gw, w.before _ s = true := fun w h => hts w (List.mem_cons_of_mem _ h)
  have hown : s.vm.findClass RX9 = some m.cls := findClass_of_methodNamed B.named
  have hlocks := B.notSynchronized
  subst hsz
  have hD := hD0.self (sz := s.heap.size)
  generalize hAe : va_A ws s.heap.size = A at hD ⊢
  have hA : ∀ q : Nat, s.heap.size ≤ q → A q := fun q h => by rw [← hAe]; exact Or.inr h
  clear hAe
  have hS : va_S A s.heap s.heap [] := va_S.rf
  have hl := lv_entry ([.ref (ad (50 + 16 * i))]) (n := 1) (Nat.le_of_ble_eq_true rfl)
  rw [lg_entry_eq]
  generalize (lg_sl ([.ref (ad (50 + 16 * i))]) ++ List.replicate (1 - (lg_sl ([.ref (ad (50 + 16 * i))])).length) Slot.unset).toArray = ls at hl ⊢
  have hl : lv_has ls 1 [(0, .ref (ad (50 + 16 * i)))] := hl
  obtain ⟨h_i1, h_i2, h_i3, h_i4, h_i5, h_i6, h_i7, h_i8, h_i9, h_i10, h_i11⟩ := id hI
  have q1_ := h_i1
  unfold i1 at q1_
  exact by
   refine lv_aload_n hx hb dX9_noticeInterrupt_0 rfl (lv_at hl 0 rfl) ?_
   refine lv_iconst (v := 0) hx hb dX9_noticeInterrupt_1 (by decide) ?_
   refine va_put (D := (dC, dI)) (ci := 7) (v := .int (0)) (ty := .boolean) (C := RX7) (T := TX7) (N := 15) hx hb hg gb_7 tyX7 tyX7_ok nmX7 hown hK hP hD hS (50 + 16 * i) (hQ.b0 hi) rfl 8 (by decide) (hg _ gm_fieldLink_RX9_141_ErrandGuild_Run_interrupted_Z_) (fun _ h9 => h9) rfl (by decide +kernel) rfl rfl (Nat.le_of_ble_eq_true rfl) dX9_noticeInterrupt_2 (fun H locs hP hD hS => ?_)
   obtain ⟨ws_2, G_1, eG_1, hP, hD, hQ⟩ : ∃ (ws_2 : va_W) (G_1 : Nat → Nat → Int32), G_1 = u2 G i 8 0 ∧ va_P (dC, dI) vwCl ws_2 H ∧ va_D A ws_2 ∧ Pic9 kc ws_2 ad ga gc M n f T G_1 K F := ⟨_, _, rfl, hP, hD, hQ.run hi 8 (by decide) 0⟩
   have i10_3 : i10 M G_1 K F := by rw [eG_1]; exact (i10.pG h_i10 hi _ (by decide))
   have i11_4 : i11 M n gc f G_1 F := by rw [eG_1]; exact (i11.pG h_i11 i _ (by decide))
   have i6_5 : i6 n T G_1 := by rw [eG_1]; exact (i6.pG h_i6 i _ (by decide))
   have i7_6 : i7 n G_1 := by rw [eG_1]; exact (i7.pG h_i7 i _ (by decide))
   have i8_7 : i8 M n gc G_1 := by rw [eG_1]; exact (i8.pG h_i8 i _ (by decide))
   have i9_8 : i9 M gc G_1 R := by rw [eG_1]; exact (i9.pG h_i9 i _ (by decide))
   have eg_9 : G_1 i 8 = 0 := by rw [eG_1, u2_eq]
   refine lv_aload_n hx hb dX9_noticeInterrupt_5 rfl (lv_at hl 0 rfl) ?_
   exact by
    refine lv_iconst (v := 0) hx hb dX9_noticeInterrupt_6 (by decide) ?_
    refine va_put (D := (dC, dI)) (ci := 7) (v := .int (0)) (ty := .boolean) (C := RX7) (T := TX7) (N := 15) hx hb hg gb_7 tyX7 tyX7_ok nmX7 hown hK hP hD hS (50 + 16 * i) (hQ.b0 hi) rfl 9 (by decide) (hg _ gm_fieldLink_RX9_289_ErrandGuild_Run_returning_Z_) (fun _ h9 => h9) rfl (by decide +kernel) rfl rfl (Nat.le_of_ble_eq_true rfl) dX9_noticeInterrupt_7 (fun H locs hP hD hS => ?_)
    obtain ⟨ws_11, G_10, eG_10, hP, hD, hQ⟩ : ∃ (ws_11 : va_W) (G_10 : Nat → Nat → Int32), G_10 = u2 G_1 i 9 0 ∧ va_P (dC, dI) vwCl ws_11 H ∧ va_D A ws_11 ∧ Pic9 kc ws_11 ad ga gc M n f T G_10 K F := ⟨_, _, rfl, hP, hD, hQ.run hi 9 (by decide) 0⟩
    have i10_12 : i10 M G_10 K F := by rw [eG_10]; exact (i10.pG i10_3 hi _ (by decide))
    have i11_13 : i11 M n gc f G_10 F := by rw [eG_10]; exact (i11.pG i11_4 i _ (by decide))
    have i6_14 : i6 n T G_10 := by rw [eG_10]; exact (i6.pG i6_5 i _ (by decide))
    have i7_15 : i7 n G_10 := by rw [eG_10]; exact (i7.pG i7_6 i _ (by decide))
    have i8_16 : i8 M n gc G_10 := by rw [eG_10]; exact (i8.pG i8_7 i _ (by decide))
    have i9_17 : i9 M gc G_10 R := by rw [eG_10]; exact (i9.pG i9_8 i _ (by decide))
    have eg_18 : G_10 i 9 = 0 := by rw [eG_10, u2_eq]
    refine lv_aload_n hx hb dX9_noticeInterrupt_10 rfl (lv_at hl 0 rfl) ?_
    have hFc := free_all hD hS hA
    exact by
     refine va_callv (va_runS (As := [.ref (ad (50 + 16 * i))]) (rest := []) ⟨hx, hb, hml, hown, hg⟩ (c_X9_settleAwaited l dC dI kc ws_11 ad ga gc M n f T G_10 K F R i H.size (hpS H) hQ ⟨h_i1, h_i2, h_i3, h_i4, h_i5, i6_14, i7_15, i8_16, i9_17, i10_12, i11_13⟩ (by show i < M; omega)) (va_cwS 1 hg (gw_S gm_methodLink_RX9_382_yX9_settleAwaited gm_static_yX9_settleAwaited gm_initialized_RX9 gm_code_yX9_settleAwaited_cX9_settleAwaited_2_none) rfl rfl rfl (by decide +kernel) ⟨Nat.le_of_ble_eq_true rfl, Nat.le_of_ble_eq_true rfl⟩) ⟨fun a U g mk q => by obtain ⟨q0, q1, q2, qP, qK, qD, qN⟩ := q; exact ⟨q0, q1, q2, qP, va_K.moved (u := U) (U := U.calling g mk a) (Vm.Alike.refl U.vm) qK, qD, nx_same (u := U) (U := U.calling g mk a) rfl qN⟩, fun U hU hW => ⟨rfl, by rw [hU], by rw [hU], by rw [hU]; exact hP, va_K.moved hW.alike hK, hD.weaken (fun _ _ _ _ => trivial), nx_warm hW hN⟩⟩ rfl rfl hl.1 rfl (lv_room (Nat.le_of_ble_eq_true rfl)) dX9_noticeInterrupt_11 ⟨Nat.le_of_ble_eq_true rfl, Nat.le_of_ble_eq_true rfl⟩) hS (fun q _ h => hFc q h) hFc (fun u_20 t H1 locs ht hvm hw hB hz1 hk1 hS => ?_)
     obtain ⟨ad_21, ga_22, gc_23, M_24, n_25, f_26, T_27, G_28, K_29, F_30⟩ := u_20
     have hB : ∃ w : va_W, va_P (dC, dI) vwCl w t.heap ∧ va_D (va_A ws_11 H.size) w ∧ Pic9 kc w ad ga gc M n f T G_28 K F ∧ I9 M n f T gc G_28 K F R ∧ hpS t.heap + (260 * M + 2 * S9 M gc) ≤ hpS H + (260 * M + 2 * S9 M gc) ∧ 16 * t.heap.size + (256 * M + S9 M gc) ≤ 16 * H.size + (256 * M + S9 M gc) := hB
     rw [ht] at hB
     obtain ⟨ws_31, hP, hD, hQ, hI_32, hy1, hy2⟩ := hB
     have hD := hD.weaken (fun k q _ h => hFc _ h)
     obtain ⟨i1_33, i2_34, i3_35, i4_36, i5_37, i6_38, i7_39, i8_40, i9_41, i10_42, i11_43⟩ := id hI_32
     have q1_ := i1_33
     unfold i1 at q1_
     generalize H1 = H at hP hS ⊢
     have hc_45 : (C9.mk n f T G_28 K F) = k_settle i (C9.mk n f T G_10 K F) := hw
     refine lv_iconst (v := 4) hx hb dX9_noticeInterrupt_14 (by decide) ?_
     refine W_msr2 (fun hm1 hm2 hm3 => ?_)
     exact W.iret (v := 4) hx hb hr (fun t ht hW => ⟨⟨4, (ad, ga, gc, M, n, f, T, G_28, K, F), rfl, (by show ((C9.mk n f T G_28 K F), (4 : Int32)) = k_notice i (C9.mk n f T G K F); subst eG_1; subst eG_10; have hX := (k_notice.eq_1 i (C9.mk n f T G K F)).symm; (repeat (first | dsimp +instances only [c9n, c9f, c9T, c9G, c9K, c9F, b_come, b_leave, b_fill, awB, b_settle, b_wake, b_take, f_take, b_gather, f_gather, b_ask, a_ask, b_tell, c_close, d_close, k_add, k_rem, sco, k_clrF, k_mem, k_rebind, k_bnd, k_beg0, k_beg1, b_giveN, b_giveR, f_open, b_hand, k_op, b_turn, wlB, b_beat, f_anew, b_wipe, b_off, k_sadd, fits, frP, cntB, b_trace, b_child, k_lat, cond_true, cond_false, Option.elim_none, Option.elim_some, Option.getD_none, Option.getD_some] at hX | rw [← hc_45] at hX | rw [if_pos (by first | with_reducible assumption | omega)] at hX | rw [if_neg (by first | with_reducible assumption | omega)] at hX | rw [jx_of (by omega)] at hX)); first | exact hX | (exfalso; omega) | exact hX), ws_31, by rw [ht]; exact hP, hD, hQ, ⟨i1_33, i2_34, i3_35, i4_36, i5_37, i6_38, i7_39, i8_40, i9_41, i10_42, i11_43⟩, by rw [ht]; show hpS H + (260 * M + 2 * S9 M gc) ≤ hpS s.heap + (260 * M + 2 * S9 M gc); omega, by rw [ht]; show 16 * H.size + (256 * M + S9 M gc) ≤ 16 * s.heap.size + (256 * M + S9 M gc); omega⟩, hS.F ht⟩) hS.2.2 dX9_noticeInterrupt_15

set_option maxHeartbeats 8000000 in
set_option maxRecDepth 100000 in
theorem c_X9_takeAnswers (l : Launch) (dC : Nat → ClassId) (dI : Nat → Nat → Nat) (kc : Nat → ClassId) (ws : va_W) (ad : Nat → Nat) (ga : Nat → Nat) (gc : Nat → Nat) (M : Nat) (n : Nat → Int32) (f : Nat → Nat → Int32) (T : Nat → Option Nat) (G : Nat → Nat → Int32) (K : Nat → Nat → Option Nat) (F : Nat → Nat → Nat → Int32) (R : Nat) (i : Nat) (sz hz : Nat) (hQ : Pic9 kc ws ad ga gc M n f T G K F) (hI : I9 M n f T gc G K F R) (hi : i < M) : Met l yX9_takeAnswers (.code yX9_takeAnswers cX9_takeAnswers 4 (some .int) :: gw) ({ frames := 1, cells := 0, slots := 0, locals := 21 }) (va_Pc [.ref (ad (50 + 16 * i))] (fun U => U.heap.size = sz ∧ hpS U.heap = hz ∧ va_P (dC, dI) vwCl ws U.heap ∧ va_K (dC, dI) vwCl (t9 kc) U ∧ va_D (fun _ => True) ws ∧ nx U)) (va_Qi (fun (r : Int32) (u : (Nat → Nat) × (Nat → Nat) × (Nat → Nat) × Nat × (Nat → Int32) × (Nat → Nat → Int32) × (Nat → Option Nat) × (Nat → Nat → Int32) × (Nat → Nat → Option Nat) × (Nat → Nat → Nat → Int32)) => ((C9.mk n f T u.2.2.2.2.2.2.2.1 K F), r) = k_take i (C9.mk n f T G K F)) (fun u t => ∃ w : va_W, va_P (dC, dI) vwCl w t.heap ∧ va_D (va_A ws sz) w ∧ Pic9 kc w ad ga gc M n f T u.2.2.2.2.2.2.2.1 K F ∧ I9 M n f T gc u.2.2.2.2.2.2.2.1 K F R ∧ hpS t.heap + (260 * M + 2 * S9 M gc) ≤ hz + (260 * M + 2 * S9 M gc) ∧ 16 * t.heap.size + (256 * M + S9 M gc) ≤ 16 * sz + (256 * M + S9 M gc)) (va_A ws sz)) 0 0 (va_A ws sz) := by
  refine Met.ofW (cc := cX9_takeAnswers) (maxL := 4) (ret := (some .int)) (by decide) rfl ?_
  intro p e s m args below meth c s₁ B hml hv
  obtain ⟨rfl, hsz, rfl, hP, hK, hD0, hN⟩ := hv
  have hx := B.exec
  have hb := B.bytes
  have hr := B.returns
  have hts := atoms_spec (ws := .code yX9_takeAnswers cX9_takeAnswers 4 (some .int) :: gw) B.pre
  have hg : ∀ w ∈ gw, w.before _ s = true := fun w h => hts w (List.mem_cons_of_mem _ h)
  have hown : s.vm.findClass RX9 = some m.cls := findClass_of_methodNamed B.named
  have hlocks := B.notSynchronized
  subst hsz
  have hD := hD0.self (sz := s.heap.size)
  generalize hAe : va_A ws s.heap.size = A at hD ⊢
  have hA : ∀ q : Nat, s.heap.size ≤ q → A q := fun q h => by rw [← hAe]; exact Or.inr h
  clear hAe
  have hS : va_S A s.heap s.heap [] := va_S.rf
  have hl := lv_entry ([.ref (ad (50 + 16 * i))]) (n := 4) (Nat.le_of_ble_eq_true rfl)
  rw [lg_entry_eq]
  generalize (lg_sl ([.ref (ad (50 + 16 * i))]) ++ List.replicate (4 - (lg_sl ([.ref (ad (50 + 16 * i))])).length) Slot.unset).toArray = ls at hl ⊢
  have hl : lv_has ls 4 [(0, .ref (ad (50 + 16 * i)))] := hl
  obtain ⟨h_i1, h_i2, h_i3, h_i4, h_i5, h_i6, h_i7, h_i8, h_i9, h_i10, h_i11⟩ := id hI
  have q1_ := h_i1
  unfold i1 at q1_
  exact by
   refine lv_null hx hb dX9_takeAnswers_0 ?_
   refine lv_astore_nN (lv' := [(1, .null), (0, .ref (ad (50 + 16 * i)))]) hx hb dX9_takeAnswers_1 rfl hl (by decide) rfl (fun ls hl => ?_)
   refine lv_iconst (v := 0) hx hb dX9_takeAnswers_2 (by decide) ?_
   refine lv_istore_n (lv' := [(2, .int 0), (1, .null), (0, .ref (ad (50 + 16 * i)))]) hx hb dX9_takeAnswers_3 rfl hl (by decide) rfl (fun ls hl => ?_)
   refine lv_aload_n hx hb dX9_takeAnswers_4 rfl (lv_at hl 2 rfl) ?_
   refine va_get (D := (dC, dI)) (ci := 7) (v := .ref (ad (50 + 16 * i + 1))) (C := RX7) (T := TX7) (N := 15) hx hb hg gb_7 hown hK hP (50 + 16 * i) (hQ.b0 hi) rfl 10 (by decide) (hg _ gm_fieldLink_RX9_151_ErrandGuild_Run_kin_LErrandGuild_Kin_) (fun _ h9 => h9) rfl dX9_takeAnswers_5 ?_
   refine va_get (D := (dC, dI)) (ci := 4) (v := va_rf (rA9 ad (K i 2))) (C := RX4) (T := TX4) (N := 9) hx hb hg gb_4 hown hK hP (50 + 16 * i + 1) (hQ.b1 hi) rfl 5 (by decide) (hg _ gm_fieldLink_RX9_225_ErrandGuild_Kin_firstChild_LErrandGuild_Run_) (fun _ h9 => h9) rfl dX9_takeAnswers_8 ?_
   rcases eo_1 : K i 2 with _ | j_2
   · refine W.eq (g2 := F0 m 11 ls [.null]) (by first | rfl | (rw [eo_1]; rfl)) ?_
     refine lv_astore_nN (lv' := [(3, .null), (2, .int 0), (1, .null), (0, .ref (ad (50 + 16 * i)))]) hx hb dX9_takeAnswers_11 rfl hl (by decide) rfl (fun ls hl => ?_)
     have L12 : ∀ (fuel : Nat) (x_3 : Int32) (o_4 : Option Nat) (o_5 : Option Nat)  (ws_7 : va_W) (G_6 : Nat → Nat → Int32)  (H : Heap) (locs : List Loc) (ls : Array Slot), chM M o_5 < fuel → (∀ j : Nat, o_4 = some j → j < M) → (∀ j : Nat, o_5 = some j → j < M) → (cit K (b_take i) (f_take i) 201 o_5 ((C9.mk n f T G_6 K F), o_4, x_3) = k_take i (C9.mk n f T G K F)) → Pic9 kc ws_7 ad ga gc M n f T G_6 K F → I9 M n f T gc G_6 K F R → va_P (dC, dI) vwCl ws_7 H → va_D A ws_7 → va_S A s.heap H locs → lv_has ls 4 [(3, va_rf (rA9 ad o_5)), (2, .int x_3), (1, va_rf (rA9 ad o_4)), (0, .ref (ad (50 + 16 * i)))] → W p l e (headSpec (.code yX9_takeAnswers cX9_takeAnswers 4 (some .int) :: gw) ({ frames := 1, cells := 0, slots := 0, locals := 21 })).room s m ([.ref (ad (50 + 16 * i))] : List Value).toArray below meth c H locs 0 0 (MQ below (va_Qi (fun (r : Int32) (u : (Nat → Nat) × (Nat → Nat) × (Nat → Nat) × Nat × (Nat → Int32) × (Nat → Nat → Int32) × (Nat → Option Nat) × (Nat → Nat → Int32) × (Nat → Nat → Option Nat) × (Nat → Nat → Nat → Int32)) => ((C9.mk n f T u.2.2.2.2.2.2.2.1 K F), r) = k_take i (C9.mk n f T G K F)) (fun u t => ∃ w : va_W, va_P (dC, dI) vwCl w t.heap ∧ va_D A w ∧ Pic9 kc w ad ga gc M n f T u.2.2.2.2.2.2.2.1 K F ∧ I9 M n f T gc u.2.2.2.2.2.2.2.1 K F R ∧ hpS t.heap + (260 * M + 2 * S9 M gc) ≤ (hpS s.heap) + (260 * M + 2 * S9 M gc) ∧ 16 * t.heap.size + (256 * M + S9 M gc) ≤ 16 * s.heap.size + (256 * M + S9 M gc)) A) ([.ref (ad (50 + 16 * i))] : List Value).toArray s 0 0 A) (F0 m 12 ls []) := by
       intro fuel
       induction fuel with
       | zero => intro x_3 o_4 o_5 ws_7 G_6 H locs ls hm; exact absurd hm (Nat.not_lt_zero _)
       | succ fuel_14 ih_13 =>
         intro x_3 o_4 o_5 ws_7 G_6 H locs ls hm_8 v_9 v_10 v_11 hQ hI_12 hP hD hS hl
         obtain ⟨i1_15, i2_16, i3_17, i4_18, i5_19, i6_20, i7_21, i8_22, i9_23, i10_24, i11_25⟩ := id hI_12
         have q1_ := i1_15
         unfold i1 at q1_
         rcases o_4 with _ | j_26
         · have hl : lv_has ls 4 [(3, va_rf (rA9 ad o_5)), (2, .int x_3), (1, .null), (0, .ref (ad (50 + 16 * i)))] := hl
           rcases o_5 with _ | j_27
           · have hl : lv_has ls 4 [(3, .null), (2, .int x_3), (1, .null), (0, .ref (ad (50 + 16 * i)))] := hl
             exact by
              refine lv_aload_nN hx hb dX9_takeAnswers_12 rfl (lv_at hl 0 rfl) ?_
              refine lv_ifnullN (tgt := 94) hx hb dX9_takeAnswers_13 (by decide) ?_
              refine lv_aload_n hx hb dX9_takeAnswers_94 rfl (lv_at hl 3 rfl) ?_
              have hFc := free_all hD hS hA
              refine va_callv (va_runS (As := [.ref (ad (50 + 16 * i))]) (rest := []) ⟨hx, hb, hml, hown, hg⟩ (c_X9_settleAwaited l dC dI kc ws_7 ad ga gc M n f T G_6 K F R i H.size (hpS H) hQ ⟨i1_15, i2_16, i3_17, i4_18, i5_19, i6_20, i7_21, i8_22, i9_23, i10_24, i11_25⟩ (by show i < M; omega)) (va_cwS 1 hg (gw_S gm_methodLink_RX9_382_yX9_settleAwaited gm_static_yX9_settleAwaited gm_initialized_RX9 gm_code_yX9_settleAwaited_cX9_settleAwaited_2_none) rfl rfl rfl (by decide +kernel) ⟨Nat.le_of_ble_eq_true rfl, Nat.le_of_ble_eq_true rfl⟩) ⟨fun a U g mk q => by obtain ⟨q0, q1, q2, qP, qK, qD, qN⟩ := q; exact ⟨q0, q1, q2, qP, va_K.moved (u := U) (U := U.calling g mk a) (Vm.Alike.refl U.vm) qK, qD, nx_same (u := U) (U := U.calling g mk a) rfl qN⟩, fun U hU hW => ⟨rfl, by rw [hU], by rw [hU], by rw [hU]; exact hP, va_K.moved hW.alike hK, hD.weaken (fun _ _ _ _ => trivial), nx_warm hW hN⟩⟩ rfl rfl hl.1 rfl (lv_room (Nat.le_of_ble_eq_true rfl)) dX9_takeAnswers_95 ⟨Nat.le_of_ble_eq_true rfl, Nat.le_of_ble_eq_true rfl⟩) hS (fun q _ h => hFc q h) hFc (fun u_29 t H1 locs ht hvm hw hB hz1 hk1 hS => ?_)
              obtain ⟨ad_30, ga_31, gc_32, M_33, n_34, f_35, T_36, G_37, K_38, F_39⟩ := u_29
              have hB : ∃ w : va_W, va_P (dC, dI) vwCl w t.heap ∧ va_D (va_A ws_7 H.size) w ∧ Pic9 kc w ad ga gc M n f T G_37 K F ∧ I9 M n f T gc G_37 K F R ∧ hpS t.heap + (260 * M + 2 * S9 M gc) ≤ hpS H + (260 * M + 2 * S9 M gc) ∧ 16 * t.heap.size + (256 * M + S9 M gc) ≤ 16 * H.size + (256 * M + S9 M gc) := hB
              rw [ht] at hB
              obtain ⟨ws_40, hP, hD, hQ, hI_41, hy1, hy2⟩ := hB
              have hD := hD.weaken (fun k q _ h => hFc _ h)
              obtain ⟨i1_42, i2_43, i3_44, i4_45, i5_46, i6_47, i7_48, i8_49, i9_50, i10_51, i11_52⟩ := id hI_41
              have q1_ := i1_42
              unfold i1 at q1_
              generalize H1 = H at hP hS ⊢
              have hc_54 : (C9.mk n f T G_37 K F) = k_settle i (C9.mk n f T G_6 K F) := hw
              exact by
               refine lv_aload_n hx hb dX9_takeAnswers_98 rfl (lv_at hl 3 rfl) ?_
               refine lv_iconst (v := 0) hx hb dX9_takeAnswers_99 (by decide) ?_
               refine va_put (D := (dC, dI)) (ci := 7) (v := .int (0)) (ty := .boolean) (C := RX7) (T := TX7) (N := 15) hx hb hg gb_7 tyX7 tyX7_ok nmX7 hown hK hP hD hS (50 + 16 * i) (hQ.b0 hi) rfl 9 (by decide) (hg _ gm_fieldLink_RX9_289_ErrandGuild_Run_returning_Z_) (fun _ h9 => h9) rfl (by decide +kernel) rfl rfl (Nat.le_of_ble_eq_true rfl) dX9_takeAnswers_100 (fun H locs hP hD hS => ?_)
               obtain ⟨ws_56, G_55, eG_55, hP, hD, hQ⟩ : ∃ (ws_56 : va_W) (G_55 : Nat → Nat → Int32), G_55 = u2 G_37 i 9 0 ∧ va_P (dC, dI) vwCl ws_56 H ∧ va_D A ws_56 ∧ Pic9 kc ws_56 ad ga gc M n f T G_55 K F := ⟨_, _, rfl, hP, hD, hQ.run hi 9 (by decide) 0⟩
               have i10_57 : i10 M G_55 K F := by rw [eG_55]; exact (i10.pG i10_51 hi _ (by decide))
               have i11_58 : i11 M n gc f G_55 F := by rw [eG_55]; exact (i11.pG i11_52 i _ (by decide))
               have i6_59 : i6 n T G_55 := by rw [eG_55]; exact (i6.pG i6_47 i _ (by decide))
               have i7_60 : i7 n G_55 := by rw [eG_55]; exact (i7.pG i7_48 i _ (by decide))
               have i8_61 : i8 M n gc G_55 := by rw [eG_55]; exact (i8.pG i8_49 i _ (by decide))
               have i9_62 : i9 M gc G_55 R := by rw [eG_55]; exact (i9.pG i9_50 i _ (by decide))
               have eg_63 : G_55 i 9 = 0 := by rw [eG_55, u2_eq]
               refine lv_aload_nN hx hb dX9_takeAnswers_103 rfl (lv_at hl 2 rfl) ?_
               exact by
                refine lv_ifnonnullN hx hb dX9_takeAnswers_104 ?_
                refine lv_iconst (v := -1) hx hb dX9_takeAnswers_107 (by decide) ?_
                refine W_msr2 (fun hm1 hm2 hm3 => ?_)
                exact W.iret (v := -1) hx hb hr (fun t ht hW => ⟨⟨-1, (ad, ga, gc, M, n, f, T, G_55, K, F), rfl, (by show ((C9.mk n f T G_55 K F), (-1 : Int32)) = k_take i (C9.mk n f T G K F); subst eG_55; have hX := v_11; (first | rw [cit_none] at hX | rw [cit_go i3_44 i4_45 (by omega) (by first | with_reducible assumption | omega)] at hX); (repeat (first | dsimp +instances only [c9n, c9f, c9T, c9G, c9K, c9F, b_come, b_leave, b_fill, awB, b_settle, b_wake, b_take, f_take, b_gather, f_gather, b_ask, a_ask, b_tell, c_close, d_close, k_add, k_rem, sco, k_clrF, k_mem, k_rebind, k_bnd, k_beg0, k_beg1, b_giveN, b_giveR, f_open, b_hand, k_op, b_turn, wlB, b_beat, f_anew, b_wipe, b_off, k_sadd, fits, frP, cntB, b_trace, b_child, k_lat, cond_true, cond_false, Option.elim_none, Option.elim_some, Option.getD_none, Option.getD_some] at hX | rw [eo_1] at hX | rw [← hc_54] at hX | rw [if_pos (by first | with_reducible assumption | omega)] at hX | rw [if_neg (by first | with_reducible assumption | omega)] at hX | rw [jx_of (by omega)] at hX)); first | exact hX | (exfalso; omega) | exact hX), ws_56, by rw [ht]; exact hP, hD, hQ, ⟨i1_42, i2_43, i3_44, i4_45, i5_46, i6_59, i7_60, i8_61, i9_62, i10_57, i11_58⟩, by rw [ht]; show hpS H + (260 * M + 2 * S9 M gc) ≤ hpS s.heap + (260 * M + 2 * S9 M gc); omega, by rw [ht]; show 16 * H.size + (256 * M + S9 M gc) ≤ 16 * s.heap.size + (256 * M + S9 M gc); omega⟩, hS.F ht⟩) hS.2.2 dX9_takeAnswers_108
           · have hl : lv_has ls 4 [(3, .ref (ad (50 + 16 * j_27))), (2, .int x_3), (1, .null), (0, .ref (ad (50 + 16 * i)))] := hl
             have hj_27 : j_27 < M := v_10 _ rfl
             refine lv_aload_n hx hb dX9_takeAnswers_12 rfl (lv_at hl 0 rfl) ?_
             refine lv_ifnull hx hb dX9_takeAnswers_13 ?_
             refine lv_aload_n hx hb dX9_takeAnswers_16 rfl (lv_at hl 0 rfl) ?_
             refine va_get (D := (dC, dI)) (ci := 7) (v := .ref (ad (50 + 16 * j_27 + 1))) (C := RX7) (T := TX7) (N := 15) hx hb hg gb_7 hown hK hP (50 + 16 * j_27) (hQ.b0 hj_27) rfl 10 (by decide) (hg _ gm_fieldLink_RX9_151_ErrandGuild_Run_kin_LErrandGuild_Kin_) (fun _ h9 => h9) rfl dX9_takeAnswers_17 ?_
             refine va_get (D := (dC, dI)) (ci := 4) (v := .int (G_6 j_27 12)) (C := RX4) (T := TX4) (N := 9) hx hb hg gb_4 hown hK hP (50 + 16 * j_27 + 1) (hQ.b1 hj_27) rfl 4 (by decide) (hg _ gm_fieldLink_RX9_379_ErrandGuild_Kin_claim_I_) (fun _ h9 => h9) rfl dX9_takeAnswers_20 ?_
             refine lv_iconst (v := 1) hx hb dX9_takeAnswers_23 (by decide) ?_
             refine lv_icmp_ne (tgt := 51) hx hb dX9_takeAnswers_24 (by decide) (fun c_64 => ?_) (fun c_64 => ?_)
             · simp only [i_lt, i_le, i_eq, ti_1] at c_64
               refine lv_aload_n hx hb dX9_takeAnswers_51 rfl (lv_at hl 0 rfl) ?_
               refine va_get (D := (dC, dI)) (ci := 7) (v := .ref (ad (50 + 16 * j_27 + 1))) (C := RX7) (T := TX7) (N := 15) hx hb hg gb_7 hown hK hP (50 + 16 * j_27) (hQ.b0 hj_27) rfl 10 (by decide) (hg _ gm_fieldLink_RX9_151_ErrandGuild_Run_kin_LErrandGuild_Kin_) (fun _ h9 => h9) rfl dX9_takeAnswers_52 ?_
               exact by
                refine va_get (D := (dC, dI)) (ci := 4) (v := .int (G_6 j_27 12)) (C := RX4) (T := TX4) (N := 9) hx hb hg gb_4 hown hK hP (50 + 16 * j_27 + 1) (hQ.b1 hj_27) rfl 4 (by decide) (hg _ gm_fieldLink_RX9_379_ErrandGuild_Kin_claim_I_) (fun _ h9 => h9) rfl dX9_takeAnswers_55 ?_
                refine lv_iconst (v := 1) hx hb dX9_takeAnswers_58 (by decide) ?_
                refine lv_icmp_ne (tgt := 83) hx hb dX9_takeAnswers_59 (by decide) (fun c_65 => ?_) (fun c_65 => ?_)
                · simp only [i_lt, i_le, i_eq, ti_1] at c_65
                  refine lv_aload_n hx hb dX9_takeAnswers_83 rfl (lv_at hl 0 rfl) ?_
                  refine va_get (D := (dC, dI)) (ci := 7) (v := .ref (ad (50 + 16 * j_27 + 1))) (C := RX7) (T := TX7) (N := 15) hx hb hg gb_7 hown hK hP (50 + 16 * j_27) (hQ.b0 hj_27) rfl 10 (by decide) (hg _ gm_fieldLink_RX9_151_ErrandGuild_Run_kin_LErrandGuild_Kin_) (fun _ h9 => h9) rfl dX9_takeAnswers_84 ?_
                  refine va_get (D := (dC, dI)) (ci := 4) (v := va_rf (rA9 ad (K j_27 4))) (C := RX4) (T := TX4) (N := 9) hx hb hg gb_4 hown hK hP (50 + 16 * j_27 + 1) (hQ.b1 hj_27) rfl 7 (by decide) (hg _ gm_fieldLink_RX9_228_ErrandGuild_Kin_nextSibling_LErrandGuild_Run_) (fun _ h9 => h9) rfl dX9_takeAnswers_87 ?_
                  rcases eo_66 : K j_27 4 with _ | j_67
                  · refine W.eq (g2 := F0 m 90 ls [.null]) (by first | rfl | (rw [eo_66]; rfl)) ?_
                    refine lv_astore_nN (lv' := [(3, .null), (2, .int x_3), (1, .null), (0, .ref (ad (50 + 16 * i)))]) hx hb dX9_takeAnswers_90 rfl hl (by decide) rfl (fun ls hl => ?_)
                    refine lv_goto (tgt := 12) hx hb dX9_takeAnswers_91 (by decide) ?_
                    exact ih_13 x_3 none none  ws_7 G_6  H locs ls (by simp only [chM] at *; omega) (fun _ h => by cases h) (fun _ h => by cases h) (by show cit K (b_take i) (f_take i) 201 none ((C9.mk n f T G_6 K F), none, x_3) = k_take i (C9.mk n f T G K F); have hX := v_11; (first | rw [cit_none] at hX | rw [cit_go i3_17 i4_18 (by omega) (by first | with_reducible assumption | omega)] at hX); (repeat (first | dsimp +instances only [c9n, c9f, c9T, c9G, c9K, c9F, b_come, b_leave, b_fill, awB, b_settle, b_wake, b_take, f_take, b_gather, f_gather, b_ask, a_ask, b_tell, c_close, d_close, k_add, k_rem, sco, k_clrF, k_mem, k_rebind, k_bnd, k_beg0, k_beg1, b_giveN, b_giveR, f_open, b_hand, k_op, b_turn, wlB, b_beat, f_anew, b_wipe, b_off, k_sadd, fits, frP, cntB, b_trace, b_child, k_lat, cond_true, cond_false, Option.elim_none, Option.elim_some, Option.getD_none, Option.getD_some] at hX | rw [eo_1] at hX | rw [eo_66] at hX | rw [if_pos (by first | with_reducible assumption | omega)] at hX | rw [if_neg (by first | with_reducible assumption | omega)] at hX | rw [jx_of (by omega)] at hX)); first | exact hX | (exfalso; omega) | exact hX) hQ ⟨i1_15, i2_16, i3_17, i4_18, i5_19, i6_20, i7_21, i8_22, i9_23, i10_24, i11_25⟩ hP hD hS (lv_sub hl [0, 1, 2, 3] rfl)
                  · refine W.eq (g2 := F0 m 90 ls [.ref (ad (50 + 16 * j_67))]) (by first | rfl | (rw [eo_66]; rfl)) ?_
                    have hj_67 : j_67 < M := i3_17 _ _ _ hj_27 eo_66
                    exact by
                     refine lv_astore_n (lv' := [(3, .ref (ad (50 + 16 * j_67))), (2, .int x_3), (1, .null), (0, .ref (ad (50 + 16 * i)))]) hx hb dX9_takeAnswers_90 rfl hl (by decide) rfl (fun ls hl => ?_)
                     refine lv_goto (tgt := 12) hx hb dX9_takeAnswers_91 (by decide) ?_
                     exact ih_13 x_3 none (some j_67)  ws_7 G_6  H locs ls (by have := i4_18 _ _ hj_27 eo_66; simp only [chM] at *; omega) (fun _ h => by cases h) (fun _ h => by cases h; exact hj_67) (by show cit K (b_take i) (f_take i) 201 (some j_67) ((C9.mk n f T G_6 K F), none, x_3) = k_take i (C9.mk n f T G K F); have hX := v_11; (first | rw [cit_none] at hX | rw [cit_go i3_17 i4_18 (by omega) (by first | with_reducible assumption | omega)] at hX); (repeat (first | dsimp +instances only [c9n, c9f, c9T, c9G, c9K, c9F, b_come, b_leave, b_fill, awB, b_settle, b_wake, b_take, f_take, b_gather, f_gather, b_ask, a_ask, b_tell, c_close, d_close, k_add, k_rem, sco, k_clrF, k_mem, k_rebind, k_bnd, k_beg0, k_beg1, b_giveN, b_giveR, f_open, b_hand, k_op, b_turn, wlB, b_beat, f_anew, b_wipe, b_off, k_sadd, fits, frP, cntB, b_trace, b_child, k_lat, cond_true, cond_false, Option.elim_none, Option.elim_some, Option.getD_none, Option.getD_some] at hX | rw [eo_1] at hX | rw [eo_66] at hX | rw [if_pos (by first | with_reducible assumption | omega)] at hX | rw [if_neg (by first | with_reducible assumption | omega)] at hX | rw [jx_of (by omega)] at hX)); first | exact hX | (exfalso; omega) | exact hX) hQ ⟨i1_15, i2_16, i3_17, i4_18, i5_19, i6_20, i7_21, i8_22, i9_23, i10_24, i11_25⟩ hP hD hS (lv_sub hl [0, 1, 2, 3] rfl)
                · simp only [i_lt, i_le, i_eq, ti_1] at c_65
                  refine lv_aload_n hx hb dX9_takeAnswers_62 rfl (lv_at hl 0 rfl) ?_
                  refine va_get (D := (dC, dI)) (ci := 7) (v := .int (G_6 j_27 2)) (C := RX7) (T := TX7) (N := 15) hx hb hg gb_7 hown hK hP (50 + 16 * j_27) (hQ.b0 hj_27) rfl 2 (by decide) (hg _ gm_fieldLink_RX9_145_ErrandGuild_Run_state_I_) (fun _ h9 => h9) rfl dX9_takeAnswers_63 ?_
                  refine lv_iconst (v := 4) hx hb dX9_takeAnswers_66 (by decide) ?_
                  refine lv_icmp_ne (tgt := 83) hx hb dX9_takeAnswers_67 (by decide) (fun c_68 => ?_) (fun c_68 => ?_)
                  · simp only [i_lt, i_le, i_eq, ti_4] at c_68
                    refine lv_aload_n hx hb dX9_takeAnswers_83 rfl (lv_at hl 0 rfl) ?_
                    refine va_get (D := (dC, dI)) (ci := 7) (v := .ref (ad (50 + 16 * j_27 + 1))) (C := RX7) (T := TX7) (N := 15) hx hb hg gb_7 hown hK hP (50 + 16 * j_27) (hQ.b0 hj_27) rfl 10 (by decide) (hg _ gm_fieldLink_RX9_151_ErrandGuild_Run_kin_LErrandGuild_Kin_) (fun _ h9 => h9) rfl dX9_takeAnswers_84 ?_
                    refine va_get (D := (dC, dI)) (ci := 4) (v := va_rf (rA9 ad (K j_27 4))) (C := RX4) (T := TX4) (N := 9) hx hb hg gb_4 hown hK hP (50 + 16 * j_27 + 1) (hQ.b1 hj_27) rfl 7 (by decide) (hg _ gm_fieldLink_RX9_228_ErrandGuild_Kin_nextSibling_LErrandGuild_Run_) (fun _ h9 => h9) rfl dX9_takeAnswers_87 ?_
                    rcases eo_69 : K j_27 4 with _ | j_70
                    · refine W.eq (g2 := F0 m 90 ls [.null]) (by first | rfl | (rw [eo_69]; rfl)) ?_
                      refine lv_astore_nN (lv' := [(3, .null), (2, .int x_3), (1, .null), (0, .ref (ad (50 + 16 * i)))]) hx hb dX9_takeAnswers_90 rfl hl (by decide) rfl (fun ls hl => ?_)
                      exact by
                       refine lv_goto (tgt := 12) hx hb dX9_takeAnswers_91 (by decide) ?_
                       exact ih_13 x_3 none none  ws_7 G_6  H locs ls (by simp only [chM] at *; omega) (fun _ h => by cases h) (fun _ h => by cases h) (by show cit K (b_take i) (f_take i) 201 none ((C9.mk n f T G_6 K F), none, x_3) = k_take i (C9.mk n f T G K F); have hX := v_11; (first | rw [cit_none] at hX | rw [cit_go i3_17 i4_18 (by omega) (by first | with_reducible assumption | omega)] at hX); (repeat (first | dsimp +instances only [c9n, c9f, c9T, c9G, c9K, c9F, b_come, b_leave, b_fill, awB, b_settle, b_wake, b_take, f_take, b_gather, f_gather, b_ask, a_ask, b_tell, c_close, d_close, k_add, k_rem, sco, k_clrF, k_mem, k_rebind, k_bnd, k_beg0, k_beg1, b_giveN, b_giveR, f_open, b_hand, k_op, b_turn, wlB, b_beat, f_anew, b_wipe, b_off, k_sadd, fits, frP, cntB, b_trace, b_child, k_lat, cond_true, cond_false, Option.elim_none, Option.elim_some, Option.getD_none, Option.getD_some] at hX | rw [eo_1] at hX | rw [eo_69] at hX | rw [if_pos (by first | with_reducible assumption | omega)] at hX | rw [if_neg (by first | with_reducible assumption | omega)] at hX | rw [jx_of (by omega)] at hX)); first | exact hX | (exfalso; omega) | exact hX) hQ ⟨i1_15, i2_16, i3_17, i4_18, i5_19, i6_20, i7_21, i8_22, i9_23, i10_24, i11_25⟩ hP hD hS (lv_sub hl [0, 1, 2, 3] rfl)
                    · refine W.eq (g2 := F0 m 90 ls [.ref (ad (50 + 16 * j_70))]) (by first | rfl | (rw [eo_69]; rfl)) ?_
                      have hj_70 : j_70 < M := i3_17 _ _ _ hj_27 eo_69
                      refine lv_astore_n (lv' := [(3, .ref (ad (50 + 16 * j_70))), (2, .int x_3), (1, .null), (0, .ref (ad (50 + 16 * i)))]) hx hb dX9_takeAnswers_90 rfl hl (by decide) rfl (fun ls hl => ?_)
                      refine lv_goto (tgt := 12) hx hb dX9_takeAnswers_91 (by decide) ?_
                      exact ih_13 x_3 none (some j_70)  ws_7 G_6  H locs ls (by have := i4_18 _ _ hj_27 eo_69; simp only [chM] at *; omega) (fun _ h => by cases h) (fun _ h => by cases h; exact hj_70) (by show cit K (b_take i) (f_take i) 201 (some j_70) ((C9.mk n f T G_6 K F), none, x_3) = k_take i (C9.mk n f T G K F); have hX := v_11; (first | rw [cit_none] at hX | rw [cit_go i3_17 i4_18 (by omega) (by first | with_reducible assumption | omega)] at hX); (repeat (first | dsimp +instances only [c9n, c9f, c9T, c9G, c9K, c9F, b_come, b_leave, b_fill, awB, b_settle, b_wake, b_take, f_take, b_gather, f_gather, b_ask, a_ask, b_tell, c_close, d_close, k_add, k_rem, sco, k_clrF, k_mem, k_rebind, k_bnd, k_beg0, k_beg1, b_giveN, b_giveR, f_open, b_hand, k_op, b_turn, wlB, b_beat, f_anew, b_wipe, b_off, k_sadd, fits, frP, cntB, b_trace, b_child, k_lat, cond_true, cond_false, Option.elim_none, Option.elim_some, Option.getD_none, Option.getD_some] at hX | rw [eo_1] at hX | rw [eo_69] at hX | rw [if_pos (by first | with_reducible assumption | omega)] at hX | rw [if_neg (by first | with_reducible assumption | omega)] at hX | rw [jx_of (by omega)] at hX)); first | exact hX | (exfalso; omega) | exact hX) hQ ⟨i1_15, i2_16, i3_17, i4_18, i5_19, i6_20, i7_21, i8_22, i9_23, i10_24, i11_25⟩ hP hD hS (lv_sub hl [0, 1, 2, 3] rfl)
                  · simp only [i_lt, i_le, i_eq, ti_4] at c_68
                    obtain ⟨y_71, ey_71⟩ : ∃ q : Int32, q = x_3 + (1) := ⟨_, rfl⟩
                    refine lv_iinc (v := y_71) (lv' := [(2, .int y_71), (3, .ref (ad (50 + 16 * j_27))), (1, .null), (0, .ref (ad (50 + 16 * i)))]) hx hb dX9_takeAnswers_70 hl (k := 1) rfl (by rw [ey_71]; rfl) (by decide) rfl (fun ls hl => ?_)
                    refine lv_aload_nN hx hb dX9_takeAnswers_73 rfl (lv_at hl 2 rfl) ?_
                    refine lv_ifnonnullN hx hb dX9_takeAnswers_74 ?_
                    refine lv_aload_n hx hb dX9_takeAnswers_77 rfl (lv_at hl 1 rfl) ?_
                    refine lv_goto (tgt := 82) hx hb dX9_takeAnswers_78 (by decide) ?_
                    exact by
                     refine lv_astore_n (lv' := [(1, .ref (ad (50 + 16 * j_27))), (2, .int y_71), (3, .ref (ad (50 + 16 * j_27))), (0, .ref (ad (50 + 16 * i)))]) hx hb dX9_takeAnswers_82 rfl hl (by decide) rfl (fun ls hl => ?_)
                     refine lv_aload_n hx hb dX9_takeAnswers_83 rfl (lv_at hl 2 rfl) ?_
                     refine va_get (D := (dC, dI)) (ci := 7) (v := .ref (ad (50 + 16 * j_27 + 1))) (C := RX7) (T := TX7) (N := 15) hx hb hg gb_7 hown hK hP (50 + 16 * j_27) (hQ.b0 hj_27) rfl 10 (by decide) (hg _ gm_fieldLink_RX9_151_ErrandGuild_Run_kin_LErrandGuild_Kin_) (fun _ h9 => h9) rfl dX9_takeAnswers_84 ?_
                     refine va_get (D := (dC, dI)) (ci := 4) (v := va_rf (rA9 ad (K j_27 4))) (C := RX4) (T := TX4) (N := 9) hx hb hg gb_4 hown hK hP (50 + 16 * j_27 + 1) (hQ.b1 hj_27) rfl 7 (by decide) (hg _ gm_fieldLink_RX9_228_ErrandGuild_Kin_nextSibling_LErrandGuild_Run_) (fun _ h9 => h9) rfl dX9_takeAnswers_87 ?_
                     rcases eo_72 : K j_27 4 with _ | j_73
                     · refine W.eq (g2 := F0 m 90 ls [.null]) (by first | rfl | (rw [eo_72]; rfl)) ?_
                       refine lv_astore_nN (lv' := [(3, .null), (1, .ref (ad (50 + 16 * j_27))), (2, .int y_71), (0, .ref (ad (50 + 16 * i)))]) hx hb dX9_takeAnswers_90 rfl hl (by decide) rfl (fun ls hl => ?_)
                       refine lv_goto (tgt := 12) hx hb dX9_takeAnswers_91 (by decide) ?_
                       exact ih_13 y_71 (some j_27) none  ws_7 G_6  H locs ls (by simp only [chM] at *; omega) (fun _ h => by cases h; exact hj_27) (fun _ h => by cases h) (by show cit K (b_take i) (f_take i) 201 none ((C9.mk n f T G_6 K F), (some j_27), y_71) = k_take i (C9.mk n f T G K F); subst ey_71; have hX := v_11; (first | rw [cit_none] at hX | rw [cit_go i3_17 i4_18 (by omega) (by first | with_reducible assumption | omega)] at hX); (repeat (first | dsimp +instances only [c9n, c9f, c9T, c9G, c9K, c9F, b_come, b_leave, b_fill, awB, b_settle, b_wake, b_take, f_take, b_gather, f_gather, b_ask, a_ask, b_tell, c_close, d_close, k_add, k_rem, sco, k_clrF, k_mem, k_rebind, k_bnd, k_beg0, k_beg1, b_giveN, b_giveR, f_open, b_hand, k_op, b_turn, wlB, b_beat, f_anew, b_wipe, b_off, k_sadd, fits, frP, cntB, b_trace, b_child, k_lat, cond_true, cond_false, Option.elim_none, Option.elim_some, Option.getD_none, Option.getD_some] at hX | rw [eo_1] at hX | rw [eo_72] at hX | rw [if_pos (by first | with_reducible assumption | omega)] at hX | rw [if_neg (by first | with_reducible assumption | omega)] at hX | rw [jx_of (by omega)] at hX)); first | exact hX | (exfalso; omega) | exact hX) hQ ⟨i1_15, i2_16, i3_17, i4_18, i5_19, i6_20, i7_21, i8_22, i9_23, i10_24, i11_25⟩ hP hD hS (lv_sub hl [0, 2, 1, 3] rfl)
                     · refine W.eq (g2 := F0 m 90 ls [.ref (ad (50 + 16 * j_73))]) (by first | rfl | (rw [eo_72]; rfl)) ?_
                       have hj_73 : j_73 < M := i3_17 _ _ _ hj_27 eo_72
                       refine lv_astore_n (lv' := [(3, .ref (ad (50 + 16 * j_73))), (1, .ref (ad (50 + 16 * j_27))), (2, .int y_71), (0, .ref (ad (50 + 16 * i)))]) hx hb dX9_takeAnswers_90 rfl hl (by decide) rfl (fun ls hl => ?_)
                       exact by
                        refine lv_goto (tgt := 12) hx hb dX9_takeAnswers_91 (by decide) ?_
                        exact ih_13 y_71 (some j_27) (some j_73)  ws_7 G_6  H locs ls (by have := i4_18 _ _ hj_27 eo_72; simp only [chM] at *; omega) (fun _ h => by cases h; exact hj_27) (fun _ h => by cases h; exact hj_73) (by show cit K (b_take i) (f_take i) 201 (some j_73) ((C9.mk n f T G_6 K F), (some j_27), y_71) = k_take i (C9.mk n f T G K F); subst ey_71; have hX := v_11; (first | rw [cit_none] at hX | rw [cit_go i3_17 i4_18 (by omega) (by first | with_reducible assumption | omega)] at hX); (repeat (first | dsimp +instances only [c9n, c9f, c9T, c9G, c9K, c9F, b_come, b_leave, b_fill, awB, b_settle, b_wake, b_take, f_take, b_gather, f_gather, b_ask, a_ask, b_tell, c_close, d_close, k_add, k_rem, sco, k_clrF, k_mem, k_rebind, k_bnd, k_beg0, k_beg1, b_giveN, b_giveR, f_open, b_hand, k_op, b_turn, wlB, b_beat, f_anew, b_wipe, b_off, k_sadd, fits, frP, cntB, b_trace, b_child, k_lat, cond_true, cond_false, Option.elim_none, Option.elim_some, Option.getD_none, Option.getD_some] at hX | rw [eo_1] at hX | rw [eo_72] at hX | rw [if_pos (by first | with_reducible assumption | omega)] at hX | rw [if_neg (by first | with_reducible assumption | omega)] at hX | rw [jx_of (by omega)] at hX)); first | exact hX | (exfalso; omega) | exact hX) hQ ⟨i1_15, i2_16, i3_17, i4_18, i5_19, i6_20, i7_21, i8_22, i9_23, i10_24, i11_25⟩ hP hD hS (lv_sub hl [0, 2, 1, 3] rfl)
             · simp only [i_lt, i_le, i_eq, ti_1] at c_64
               refine lv_aload_n hx hb dX9_takeAnswers_27 rfl (lv_at hl 0 rfl) ?_
               refine va_get (D := (dC, dI)) (ci := 7) (v := .int (G_6 j_27 2)) (C := RX7) (T := TX7) (N := 15) hx hb hg gb_7 hown hK hP (50 + 16 * j_27) (hQ.b0 hj_27) rfl 2 (by decide) (hg _ gm_fieldLink_RX9_145_ErrandGuild_Run_state_I_) (fun _ h9 => h9) rfl dX9_takeAnswers_28 ?_
               refine lv_iconst (v := 3) hx hb dX9_takeAnswers_31 (by decide) ?_
               refine lv_icmp_ne (tgt := 51) hx hb dX9_takeAnswers_32 (by decide) (fun c_74 => ?_) (fun c_74 => ?_)
               · simp only [i_lt, i_le, i_eq, ti_3] at c_74
                 refine lv_aload_n hx hb dX9_takeAnswers_51 rfl (lv_at hl 0 rfl) ?_
                 refine va_get (D := (dC, dI)) (ci := 7) (v := .ref (ad (50 + 16 * j_27 + 1))) (C := RX7) (T := TX7) (N := 15) hx hb hg gb_7 hown hK hP (50 + 16 * j_27) (hQ.b0 hj_27) rfl 10 (by decide) (hg _ gm_fieldLink_RX9_151_ErrandGuild_Run_kin_LErrandGuild_Kin_) (fun _ h9 => h9) rfl dX9_takeAnswers_52 ?_
                 refine va_get (D := (dC, dI)) (ci := 4) (v := .int (G_6 j_27 12)) (C := RX4) (T := TX4) (N := 9) hx hb hg gb_4 hown hK hP (50 + 16 * j_27 + 1) (hQ.b1 hj_27) rfl 4 (by decide) (hg _ gm_fieldLink_RX9_379_ErrandGuild_Kin_claim_I_) (fun _ h9 => h9) rfl dX9_takeAnswers_55 ?_
                 refine lv_iconst (v := 1) hx hb dX9_takeAnswers_58 (by decide) ?_
                 refine lv_icmp_ne (tgt := 83) hx hb dX9_takeAnswers_59 (by decide) (fun c_75 => ?_) (fun c_75 => ?_)
                 · simp only [i_lt, i_le, i_eq, ti_1] at c_75
                   exfalso
                   omega
                 · simp only [i_lt, i_le, i_eq, ti_1] at c_75
                   exact by
                    refine lv_aload_n hx hb dX9_takeAnswers_62 rfl (lv_at hl 0 rfl) ?_
                    refine va_get (D := (dC, dI)) (ci := 7) (v := .int (G_6 j_27 2)) (C := RX7) (T := TX7) (N := 15) hx hb hg gb_7 hown hK hP (50 + 16 * j_27) (hQ.b0 hj_27) rfl 2 (by decide) (hg _ gm_fieldLink_RX9_145_ErrandGuild_Run_state_I_) (fun _ h9 => h9) rfl dX9_takeAnswers_63 ?_
                    refine lv_iconst (v := 4) hx hb dX9_takeAnswers_66 (by decide) ?_
                    refine lv_icmp_ne (tgt := 83) hx hb dX9_takeAnswers_67 (by decide) (fun c_76 => ?_) (fun c_76 => ?_)
                    · simp only [i_lt, i_le, i_eq, ti_4] at c_76
                      refine lv_aload_n hx hb dX9_takeAnswers_83 rfl (lv_at hl 0 rfl) ?_
                      refine va_get (D := (dC, dI)) (ci := 7) (v := .ref (ad (50 + 16 * j_27 + 1))) (C := RX7) (T := TX7) (N := 15) hx hb hg gb_7 hown hK hP (50 + 16 * j_27) (hQ.b0 hj_27) rfl 10 (by decide) (hg _ gm_fieldLink_RX9_151_ErrandGuild_Run_kin_LErrandGuild_Kin_) (fun _ h9 => h9) rfl dX9_takeAnswers_84 ?_
                      refine va_get (D := (dC, dI)) (ci := 4) (v := va_rf (rA9 ad (K j_27 4))) (C := RX4) (T := TX4) (N := 9) hx hb hg gb_4 hown hK hP (50 + 16 * j_27 + 1) (hQ.b1 hj_27) rfl 7 (by decide) (hg _ gm_fieldLink_RX9_228_ErrandGuild_Kin_nextSibling_LErrandGuild_Run_) (fun _ h9 => h9) rfl dX9_takeAnswers_87 ?_
                      rcases eo_77 : K j_27 4 with _ | j_78
                      · refine W.eq (g2 := F0 m 90 ls [.null]) (by first | rfl | (rw [eo_77]; rfl)) ?_
                        refine lv_astore_nN (lv' := [(3, .null), (2, .int x_3), (1, .null), (0, .ref (ad (50 + 16 * i)))]) hx hb dX9_takeAnswers_90 rfl hl (by decide) rfl (fun ls hl => ?_)
                        refine lv_goto (tgt := 12) hx hb dX9_takeAnswers_91 (by decide) ?_
                        exact ih_13 x_3 none none  ws_7 G_6  H locs ls (by simp only [chM] at *; omega) (fun _ h => by cases h) (fun _ h => by cases h) (by show cit K (b_take i) (f_take i) 201 none ((C9.mk n f T G_6 K F), none, x_3) = k_take i (C9.mk n f T G K F); have hX := v_11; (first | rw [cit_none] at hX | rw [cit_go i3_17 i4_18 (by omega) (by first | with_reducible assumption | omega)] at hX); (repeat (first | dsimp +instances only [c9n, c9f, c9T, c9G, c9K, c9F, b_come, b_leave, b_fill, awB, b_settle, b_wake, b_take, f_take, b_gather, f_gather, b_ask, a_ask, b_tell, c_close, d_close, k_add, k_rem, sco, k_clrF, k_mem, k_rebind, k_bnd, k_beg0, k_beg1, b_giveN, b_giveR, f_open, b_hand, k_op, b_turn, wlB, b_beat, f_anew, b_wipe, b_off, k_sadd, fits, frP, cntB, b_trace, b_child, k_lat, cond_true, cond_false, Option.elim_none, Option.elim_some, Option.getD_none, Option.getD_some] at hX | rw [eo_1] at hX | rw [eo_77] at hX | rw [if_pos (by first | with_reducible assumption | omega)] at hX | rw [if_neg (by first | with_reducible assumption | omega)] at hX | rw [jx_of (by omega)] at hX)); first | exact hX | (exfalso; omega) | exact hX) hQ ⟨i1_15, i2_16, i3_17, i4_18, i5_19, i6_20, i7_21, i8_22, i9_23, i10_24, i11_25⟩ hP hD hS (lv_sub hl [0, 1, 2, 3] rfl)
                      · refine W.eq (g2 := F0 m 90 ls [.ref (ad (50 + 16 * j_78))]) (by first | rfl | (rw [eo_77]; rfl)) ?_
                        have hj_78 : j_78 < M := i3_17 _ _ _ hj_27 eo_77
                        exact by
                         refine lv_astore_n (lv' := [(3, .ref (ad (50 + 16 * j_78))), (2, .int x_3), (1, .null), (0, .ref (ad (50 + 16 * i)))]) hx hb dX9_takeAnswers_90 rfl hl (by decide) rfl (fun ls hl => ?_)
                         refine lv_goto (tgt := 12) hx hb dX9_takeAnswers_91 (by decide) ?_
                         exact ih_13 x_3 none (some j_78)  ws_7 G_6  H locs ls (by have := i4_18 _ _ hj_27 eo_77; simp only [chM] at *; omega) (fun _ h => by cases h) (fun _ h => by cases h; exact hj_78) (by show cit K (b_take i) (f_take i) 201 (some j_78) ((C9.mk n f T G_6 K F), none, x_3) = k_take i (C9.mk n f T G K F); have hX := v_11; (first | rw [cit_none] at hX | rw [cit_go i3_17 i4_18 (by omega) (by first | with_reducible assumption | omega)] at hX); (repeat (first | dsimp +instances only [c9n, c9f, c9T, c9G, c9K, c9F, b_come, b_leave, b_fill, awB, b_settle, b_wake, b_take, f_take, b_gather, f_gather, b_ask, a_ask, b_tell, c_close, d_close, k_add, k_rem, sco, k_clrF, k_mem, k_rebind, k_bnd, k_beg0, k_beg1, b_giveN, b_giveR, f_open, b_hand, k_op, b_turn, wlB, b_beat, f_anew, b_wipe, b_off, k_sadd, fits, frP, cntB, b_trace, b_child, k_lat, cond_true, cond_false, Option.elim_none, Option.elim_some, Option.getD_none, Option.getD_some] at hX | rw [eo_1] at hX | rw [eo_77] at hX | rw [if_pos (by first | with_reducible assumption | omega)] at hX | rw [if_neg (by first | with_reducible assumption | omega)] at hX | rw [jx_of (by omega)] at hX)); first | exact hX | (exfalso; omega) | exact hX) hQ ⟨i1_15, i2_16, i3_17, i4_18, i5_19, i6_20, i7_21, i8_22, i9_23, i10_24, i11_25⟩ hP hD hS (lv_sub hl [0, 1, 2, 3] rfl)
                    · simp only [i_lt, i_le, i_eq, ti_4] at c_76
                      obtain ⟨y_79, ey_79⟩ : ∃ q : Int32, q = x_3 + (1) := ⟨_, rfl⟩
                      refine lv_iinc (v := y_79) (lv' := [(2, .int y_79), (3, .ref (ad (50 + 16 * j_27))), (1, .null), (0, .ref (ad (50 + 16 * i)))]) hx hb dX9_takeAnswers_70 hl (k := 1) rfl (by rw [ey_79]; rfl) (by decide) rfl (fun ls hl => ?_)
                      refine lv_aload_nN hx hb dX9_takeAnswers_73 rfl (lv_at hl 2 rfl) ?_
                      refine lv_ifnonnullN hx hb dX9_takeAnswers_74 ?_
                      refine lv_aload_n hx hb dX9_takeAnswers_77 rfl (lv_at hl 1 rfl) ?_
                      refine lv_goto (tgt := 82) hx hb dX9_takeAnswers_78 (by decide) ?_
                      refine lv_astore_n (lv' := [(1, .ref (ad (50 + 16 * j_27))), (2, .int y_79), (3, .ref (ad (50 + 16 * j_27))), (0, .ref (ad (50 + 16 * i)))]) hx hb dX9_takeAnswers_82 rfl hl (by decide) rfl (fun ls hl => ?_)
                      refine lv_aload_n hx hb dX9_takeAnswers_83 rfl (lv_at hl 2 rfl) ?_
                      refine va_get (D := (dC, dI)) (ci := 7) (v := .ref (ad (50 + 16 * j_27 + 1))) (C := RX7) (T := TX7) (N := 15) hx hb hg gb_7 hown hK hP (50 + 16 * j_27) (hQ.b0 hj_27) rfl 10 (by decide) (hg _ gm_fieldLink_RX9_151_ErrandGuild_Run_kin_LErrandGuild_Kin_) (fun _ h9 => h9) rfl dX9_takeAnswers_84 ?_
                      refine va_get (D := (dC, dI)) (ci := 4) (v := va_rf (rA9 ad (K j_27 4))) (C := RX4) (T := TX4) (N := 9) hx hb hg gb_4 hown hK hP (50 + 16 * j_27 + 1) (hQ.b1 hj_27) rfl 7 (by decide) (hg _ gm_fieldLink_RX9_228_ErrandGuild_Kin_nextSibling_LErrandGuild_Run_) (fun _ h9 => h9) rfl dX9_takeAnswers_87 ?_
                      rcases eo_80 : K j_27 4 with _ | j_81
                      · refine W.eq (g2 := F0 m 90 ls [.null]) (by first | rfl | (rw [eo_80]; rfl)) ?_
                        exact by
                         refine lv_astore_nN (lv' := [(3, .null), (1, .ref (ad (50 + 16 * j_27))), (2, .int y_79), (0, .ref (ad (50 + 16 * i)))]) hx hb dX9_takeAnswers_90 rfl hl (by decide) rfl (fun ls hl => ?_)
                         refine lv_goto (tgt := 12) hx hb dX9_takeAnswers_91 (by decide) ?_
                         exact ih_13 y_79 (some j_27) none  ws_7 G_6  H locs ls (by simp only [chM] at *; omega) (fun _ h => by cases h; exact hj_27) (fun _ h => by cases h) (by show cit K (b_take i) (f_take i) 201 none ((C9.mk n f T G_6 K F), (some j_27), y_79) = k_take i (C9.mk n f T G K F); subst ey_79; have hX := v_11; (first | rw [cit_none] at hX | rw [cit_go i3_17 i4_18 (by omega) (by first | with_reducible assumption | omega)] at hX); (repeat (first | dsimp +instances only [c9n, c9f, c9T, c9G, c9K, c9F, b_come, b_leave, b_fill, awB, b_settle, b_wake, b_take, f_take, b_gather, f_gather, b_ask, a_ask, b_tell, c_close, d_close, k_add, k_rem, sco, k_clrF, k_mem, k_rebind, k_bnd, k_beg0, k_beg1, b_giveN, b_giveR, f_open, b_hand, k_op, b_turn, wlB, b_beat, f_anew, b_wipe, b_off, k_sadd, fits, frP, cntB, b_trace, b_child, k_lat, cond_true, cond_false, Option.elim_none, Option.elim_some, Option.getD_none, Option.getD_some] at hX | rw [eo_1] at hX | rw [eo_80] at hX | rw [if_pos (by first | with_reducible assumption | omega)] at hX | rw [if_neg (by first | with_reducible assumption | omega)] at hX | rw [jx_of (by omega)] at hX)); first | exact hX | (exfalso; omega) | exact hX) hQ ⟨i1_15, i2_16, i3_17, i4_18, i5_19, i6_20, i7_21, i8_22, i9_23, i10_24, i11_25⟩ hP hD hS (lv_sub hl [0, 2, 1, 3] rfl)
                      · refine W.eq (g2 := F0 m 90 ls [.ref (ad (50 + 16 * j_81))]) (by first | rfl | (rw [eo_80]; rfl)) ?_
                        have hj_81 : j_81 < M := i3_17 _ _ _ hj_27 eo_80
                        refine lv_astore_n (lv' := [(3, .ref (ad (50 + 16 * j_81))), (1, .ref (ad (50 + 16 * j_27))), (2, .int y_79), (0, .ref (ad (50 + 16 * i)))]) hx hb dX9_takeAnswers_90 rfl hl (by decide) rfl (fun ls hl => ?_)
                        refine lv_goto (tgt := 12) hx hb dX9_takeAnswers_91 (by decide) ?_
                        exact ih_13 y_79 (some j_27) (some j_81)  ws_7 G_6  H locs ls (by have := i4_18 _ _ hj_27 eo_80; simp only [chM] at *; omega) (fun _ h => by cases h; exact hj_27) (fun _ h => by cases h; exact hj_81) (by show cit K (b_take i) (f_take i) 201 (some j_81) ((C9.mk n f T G_6 K F), (some j_27), y_79) = k_take i (C9.mk n f T G K F); subst ey_79; have hX := v_11; (first | rw [cit_none] at hX | rw [cit_go i3_17 i4_18 (by omega) (by first | with_reducible assumption | omega)] at hX); (repeat (first | dsimp +instances only [c9n, c9f, c9T, c9G, c9K, c9F, b_come, b_leave, b_fill, awB, b_settle, b_wake, b_take, f_take, b_gather, f_gather, b_ask, a_ask, b_tell, c_close, d_close, k_add, k_rem, sco, k_clrF, k_mem, k_rebind, k_bnd, k_beg0, k_beg1, b_giveN, b_giveR, f_open, b_hand, k_op, b_turn, wlB, b_beat, f_anew, b_wipe, b_off, k_sadd, fits, frP, cntB, b_trace, b_child, k_lat, cond_true, cond_false, Option.elim_none, Option.elim_some, Option.getD_none, Option.getD_some] at hX | rw [eo_1] at hX | rw [eo_80] at hX | rw [if_pos (by first | with_reducible assumption | omega)] at hX | rw [if_neg (by first | with_reducible assumption | omega)] at hX | rw [jx_of (by omega)] at hX)); first | exact hX | (exfalso; omega) | exact hX) hQ ⟨i1_15, i2_16, i3_17, i4_18, i5_19, i6_20, i7_21, i8_22, i9_23, i10_24, i11_25⟩ hP hD hS (lv_sub hl [0, 2, 1, 3] rfl)
               · simp only [i_lt, i_le, i_eq, ti_3] at c_74
                 refine lv_aload_n hx hb dX9_takeAnswers_35 rfl (lv_at hl 3 rfl) ?_
                 refine lv_dup hx hb dX9_takeAnswers_36 rfl ?_
                 refine va_get (D := (dC, dI)) (ci := 7) (v := .int (G_6 i 5)) (C := RX7) (T := TX7) (N := 15) hx hb hg gb_7 hown hK hP (50 + 16 * i) (hQ.b0 hi) rfl 5 (by decide) (hg _ gm_fieldLink_RX9_171_ErrandGuild_Run_sum_I_) (fun _ h9 => h9) rfl dX9_takeAnswers_37 ?_
                 refine lv_aload_n hx hb dX9_takeAnswers_40 rfl (lv_at hl 0 rfl) ?_
                 refine va_get (D := (dC, dI)) (ci := 7) (v := .int (G_6 j_27 5)) (C := RX7) (T := TX7) (N := 15) hx hb hg gb_7 hown hK hP (50 + 16 * j_27) (hQ.b0 hj_27) rfl 5 (by decide) (hg _ gm_fieldLink_RX9_171_ErrandGuild_Run_sum_I_) (fun _ h9 => h9) rfl dX9_takeAnswers_41 ?_
                 refine lv_iadd hx hb dX9_takeAnswers_44 ?_
                 refine lv_topi (fun z_82 ez_82 => ?_)
                 refine va_put (D := (dC, dI)) (ci := 7) (v := .int (z_82)) (ty := .int) (C := RX7) (T := TX7) (N := 15) hx hb hg gb_7 tyX7 tyX7_ok nmX7 hown hK hP hD hS (50 + 16 * i) (hQ.b0 hi) rfl 5 (by decide) (hg _ gm_fieldLink_RX9_171_ErrandGuild_Run_sum_I_) (fun _ h9 => h9) rfl (by decide +kernel) rfl rfl (Nat.le_of_ble_eq_true rfl) dX9_takeAnswers_45 (fun H locs hP hD hS => ?_)
                 obtain ⟨ws_84, G_83, eG_83, hP, hD, hQ⟩ : ∃ (ws_84 : va_W) (G_83 : Nat → Nat → Int32), G_83 = u2 G_6 i 5 z_82 ∧ va_P (dC, dI) vwCl ws_84 H ∧ va_D A ws_84 ∧ Pic9 kc ws_84 ad ga gc M n f T G_83 K F := ⟨_, _, rfl, hP, hD, hQ.run hi 5 (by decide) z_82⟩
                 have i10_85 : i10 M G_83 K F := by rw [eG_83]; exact (i10.pG i10_24 hi _ (by decide))
                 have i11_86 : i11 M n gc f G_83 F := by rw [eG_83]; exact (i11.pG i11_25 i _ (by decide))
                 have i6_87 : i6 n T G_83 := by rw [eG_83]; exact (i6.pG i6_20 i _ (by decide))
                 have i7_88 : i7 n G_83 := by rw [eG_83]; exact (i7.pG i7_21 i _ (by decide))
                 have i8_89 : i8 M n gc G_83 := by rw [eG_83]; exact (i8.pG i8_22 i _ (by decide))
                 have i9_90 : i9 M gc G_83 R := by rw [eG_83]; exact (i9.pG i9_23 i _ (by decide))
                 have eg_91 : G_83 i 5 = z_82 := by rw [eG_83, u2_eq]
                 exact by
                  refine lv_goto (tgt := 83) hx hb dX9_takeAnswers_48 (by decide) ?_
                  refine lv_aload_n hx hb dX9_takeAnswers_83 rfl (lv_at hl 0 rfl) ?_
                  refine va_get (D := (dC, dI)) (ci := 7) (v := .ref (ad (50 + 16 * j_27 + 1))) (C := RX7) (T := TX7) (N := 15) hx hb hg gb_7 hown hK hP (50 + 16 * j_27) (hQ.b0 hj_27) rfl 10 (by decide) (hg _ gm_fieldLink_RX9_151_ErrandGuild_Run_kin_LErrandGuild_Kin_) (fun _ h9 => h9) rfl dX9_takeAnswers_84 ?_
                  refine va_get (D := (dC, dI)) (ci := 4) (v := va_rf (rA9 ad (K j_27 4))) (C := RX4) (T := TX4) (N := 9) hx hb hg gb_4 hown hK hP (50 + 16 * j_27 + 1) (hQ.b1 hj_27) rfl 7 (by decide) (hg _ gm_fieldLink_RX9_228_ErrandGuild_Kin_nextSibling_LErrandGuild_Run_) (fun _ h9 => h9) rfl dX9_takeAnswers_87 ?_
                  rcases eo_92 : K j_27 4 with _ | j_93
                  · refine W.eq (g2 := F0 m 90 ls [.null]) (by first | rfl | (rw [eo_92]; rfl)) ?_
                    refine lv_astore_nN (lv' := [(3, .null), (2, .int x_3), (1, .null), (0, .ref (ad (50 + 16 * i)))]) hx hb dX9_takeAnswers_90 rfl hl (by decide) rfl (fun ls hl => ?_)
                    refine lv_goto (tgt := 12) hx hb dX9_takeAnswers_91 (by decide) ?_
                    exact ih_13 x_3 none none  ws_84 G_83  H locs ls (by simp only [chM] at *; omega) (fun _ h => by cases h) (fun _ h => by cases h) (by show cit K (b_take i) (f_take i) 201 none ((C9.mk n f T G_83 K F), none, x_3) = k_take i (C9.mk n f T G K F); subst eG_83; subst ez_82; have hX := v_11; (first | rw [cit_none] at hX | rw [cit_go i3_17 i4_18 (by omega) (by first | with_reducible assumption | omega)] at hX); (repeat (first | dsimp +instances only [c9n, c9f, c9T, c9G, c9K, c9F, b_come, b_leave, b_fill, awB, b_settle, b_wake, b_take, f_take, b_gather, f_gather, b_ask, a_ask, b_tell, c_close, d_close, k_add, k_rem, sco, k_clrF, k_mem, k_rebind, k_bnd, k_beg0, k_beg1, b_giveN, b_giveR, f_open, b_hand, k_op, b_turn, wlB, b_beat, f_anew, b_wipe, b_off, k_sadd, fits, frP, cntB, b_trace, b_child, k_lat, cond_true, cond_false, Option.elim_none, Option.elim_some, Option.getD_none, Option.getD_some] at hX | rw [eo_1] at hX | rw [eo_92] at hX | rw [if_pos (by first | with_reducible assumption | omega)] at hX | rw [if_neg (by first | with_reducible assumption | omega)] at hX | rw [jx_of (by omega)] at hX)); first | exact hX | (exfalso; omega) | exact hX) hQ ⟨i1_15, i2_16, i3_17, i4_18, i5_19, i6_87, i7_88, i8_89, i9_90, i10_85, i11_86⟩ hP hD hS (lv_sub hl [0, 1, 2, 3] rfl)
                  · refine W.eq (g2 := F0 m 90 ls [.ref (ad (50 + 16 * j_93))]) (by first | rfl | (rw [eo_92]; rfl)) ?_
                    have hj_93 : j_93 < M := i3_17 _ _ _ hj_27 eo_92
                    refine lv_astore_n (lv' := [(3, .ref (ad (50 + 16 * j_93))), (2, .int x_3), (1, .null), (0, .ref (ad (50 + 16 * i)))]) hx hb dX9_takeAnswers_90 rfl hl (by decide) rfl (fun ls hl => ?_)
                    exact by
                     refine lv_goto (tgt := 12) hx hb dX9_takeAnswers_91 (by decide) ?_
                     exact ih_13 x_3 none (some j_93)  ws_84 G_83  H locs ls (by have := i4_18 _ _ hj_27 eo_92; simp only [chM] at *; omega) (fun _ h => by cases h) (fun _ h => by cases h; exact hj_93) (by show cit K (b_take i) (f_take i) 201 (some j_93) ((C9.mk n f T G_83 K F), none, x_3) = k_take i (C9.mk n f T G K F); subst eG_83; subst ez_82; have hX := v_11; (first | rw [cit_none] at hX | rw [cit_go i3_17 i4_18 (by omega) (by first | with_reducible assumption | omega)] at hX); (repeat (first | dsimp +instances only [c9n, c9f, c9T, c9G, c9K, c9F, b_come, b_leave, b_fill, awB, b_settle, b_wake, b_take, f_take, b_gather, f_gather, b_ask, a_ask, b_tell, c_close, d_close, k_add, k_rem, sco, k_clrF, k_mem, k_rebind, k_bnd, k_beg0, k_beg1, b_giveN, b_giveR, f_open, b_hand, k_op, b_turn, wlB, b_beat, f_anew, b_wipe, b_off, k_sadd, fits, frP, cntB, b_trace, b_child, k_lat, cond_true, cond_false, Option.elim_none, Option.elim_some, Option.getD_none, Option.getD_some] at hX | rw [eo_1] at hX | rw [eo_92] at hX | rw [if_pos (by first | with_reducible assumption | omega)] at hX | rw [if_neg (by first | with_reducible assumption | omega)] at hX | rw [jx_of (by omega)] at hX)); first | exact hX | (exfalso; omega) | exact hX) hQ ⟨i1_15, i2_16, i3_17, i4_18, i5_19, i6_87, i7_88, i8_89, i9_90, i10_85, i11_86⟩ hP hD hS (lv_sub hl [0, 1, 2, 3] rfl)
         · have hl : lv_has ls 4 [(3, va_rf (rA9 ad o_5)), (2, .int x_3), (1, .ref (ad (50 + 16 * j_26))), (0, .ref (ad (50 + 16 * i)))] := hl
           have hj_26 : j_26 < M := v_9 _ rfl
           rcases o_5 with _ | j_94
           · have hl : lv_has ls 4 [(3, .null), (2, .int x_3), (1, .ref (ad (50 + 16 * j_26))), (0, .ref (ad (50 + 16 * i)))] := hl
             refine lv_aload_nN hx hb dX9_takeAnswers_12 rfl (lv_at hl 0 rfl) ?_
             refine lv_ifnullN (tgt := 94) hx hb dX9_takeAnswers_13 (by decide) ?_
             refine lv_aload_n hx hb dX9_takeAnswers_94 rfl (lv_at hl 3 rfl) ?_
             have hFc := free_all hD hS hA
             refine va_callv (va_runS (As := [.ref (ad (50 + 16 * i))]) (rest := []) ⟨hx, hb, hml, hown, hg⟩ (c_X9_settleAwaited l dC dI kc ws_7 ad ga gc M n f T G_6 K F R i H.size (hpS H) hQ ⟨i1_15, i2_16, i3_17, i4_18, i5_19, i6_20, i7_21, i8_22, i9_23, i10_24, i11_25⟩ (by show i < M; omega)) (va_cwS 1 hg (gw_S gm_methodLink_RX9_382_yX9_settleAwaited gm_static_yX9_settleAwaited gm_initialized_RX9 gm_code_yX9_settleAwaited_cX9_settleAwaited_2_none) rfl rfl rfl (by decide +kernel) ⟨Nat.le_of_ble_eq_true rfl, Nat.le_of_ble_eq_true rfl⟩) ⟨fun a U g mk q => by obtain ⟨q0, q1, q2, qP, qK, qD, qN⟩ := q; exact ⟨q0, q1, q2, qP, va_K.moved (u := U) (U := U.calling g mk a) (Vm.Alike.refl U.vm) qK, qD, nx_same (u := U) (U := U.calling g mk a) rfl qN⟩, fun U hU hW => ⟨rfl, by rw [hU], by rw [hU], by rw [hU]; exact hP, va_K.moved hW.alike hK, hD.weaken (fun _ _ _ _ => trivial), nx_warm hW hN⟩⟩ rfl rfl hl.1 rfl (lv_room (Nat.le_of_ble_eq_true rfl)) dX9_takeAnswers_95 ⟨Nat.le_of_ble_eq_true rfl, Nat.le_of_ble_eq_true rfl⟩) hS (fun q _ h => hFc q h) hFc (fun u_96 t H1 locs ht hvm hw hB hz1 hk1 hS => ?_)
             obtain ⟨ad_97, ga_98, gc_99, M_100, n_101, f_102, T_103, G_104, K_105, F_106⟩ := u_96
             have hB : ∃ w : va_W, va_P (dC, dI) vwCl w t.heap ∧ va_D (va_A ws_7 H.size) w ∧ Pic9 kc w ad ga gc M n f T G_104 K F ∧ I9 M n f T gc G_104 K F R ∧ hpS t.heap + (260 * M + 2 * S9 M gc) ≤ hpS H + (260 * M + 2 * S9 M gc) ∧ 16 * t.heap.size + (256 * M + S9 M gc) ≤ 16 * H.size + (256 * M + S9 M gc) := hB
             rw [ht] at hB
             obtain ⟨ws_107, hP, hD, hQ, hI_108, hy1, hy2⟩ := hB
             have hD := hD.weaken (fun k q _ h => hFc _ h)
             obtain ⟨i1_109, i2_110, i3_111, i4_112, i5_113, i6_114, i7_115, i8_116, i9_117, i10_118, i11_119⟩ := id hI_108
             have q1_ := i1_109
             unfold i1 at q1_
             generalize H1 = H at hP hS ⊢
             have hc_121 : (C9.mk n f T G_104 K F) = k_settle i (C9.mk n f T G_6 K F) := hw
             exact by
              refine lv_aload_n hx hb dX9_takeAnswers_98 rfl (lv_at hl 3 rfl) ?_
              refine lv_iconst (v := 0) hx hb dX9_takeAnswers_99 (by decide) ?_
              refine va_put (D := (dC, dI)) (ci := 7) (v := .int (0)) (ty := .boolean) (C := RX7) (T := TX7) (N := 15) hx hb hg gb_7 tyX7 tyX7_ok nmX7 hown hK hP hD hS (50 + 16 * i) (hQ.b0 hi) rfl 9 (by decide) (hg _ gm_fieldLink_RX9_289_ErrandGuild_Run_returning_Z_) (fun _ h9 => h9) rfl (by decide +kernel) rfl rfl (Nat.le_of_ble_eq_true rfl) dX9_takeAnswers_100 (fun H locs hP hD hS => ?_)
              obtain ⟨ws_123, G_122, eG_122, hP, hD, hQ⟩ : ∃ (ws_123 : va_W) (G_122 : Nat → Nat → Int32), G_122 = u2 G_104 i 9 0 ∧ va_P (dC, dI) vwCl ws_123 H ∧ va_D A ws_123 ∧ Pic9 kc ws_123 ad ga gc M n f T G_122 K F := ⟨_, _, rfl, hP, hD, hQ.run hi 9 (by decide) 0⟩
              have i10_124 : i10 M G_122 K F := by rw [eG_122]; exact (i10.pG i10_118 hi _ (by decide))
              have i11_125 : i11 M n gc f G_122 F := by rw [eG_122]; exact (i11.pG i11_119 i _ (by decide))
              have i6_126 : i6 n T G_122 := by rw [eG_122]; exact (i6.pG i6_114 i _ (by decide))
              have i7_127 : i7 n G_122 := by rw [eG_122]; exact (i7.pG i7_115 i _ (by decide))
              have i8_128 : i8 M n gc G_122 := by rw [eG_122]; exact (i8.pG i8_116 i _ (by decide))
              have i9_129 : i9 M gc G_122 R := by rw [eG_122]; exact (i9.pG i9_117 i _ (by decide))
              have eg_130 : G_122 i 9 = 0 := by rw [eG_122, u2_eq]
              refine lv_aload_n hx hb dX9_takeAnswers_103 rfl (lv_at hl 2 rfl) ?_
              exact by
               refine lv_ifnonnull (tgt := 109) hx hb dX9_takeAnswers_104 (by decide) ?_
               refine lv_aload_n hx hb dX9_takeAnswers_109 rfl (lv_at hl 3 rfl) ?_
               refine va_get (D := (dC, dI)) (ci := 7) (v := .ref (ad (50 + 16 * i + 13))) (C := RX7) (T := TX7) (N := 15) hx hb hg gb_7 hown hK hP (50 + 16 * i) (hQ.b0 hi) rfl 13 (by decide) (hg _ gm_fieldLink_RX9_201_ErrandGuild_Run_fault_LErrandGuild_Fault_) (fun _ h9 => h9) rfl dX9_takeAnswers_110 ?_
               refine lv_aload_n hx hb dX9_takeAnswers_113 rfl (lv_at hl 2 rfl) ?_
               refine va_get (D := (dC, dI)) (ci := 7) (v := .int (G_122 j_26 0)) (C := RX7) (T := TX7) (N := 15) hx hb hg gb_7 hown hK hP (50 + 16 * j_26) (hQ.b0 hj_26) rfl 0 (by decide) (hg _ gm_fieldLink_RX9_118_ErrandGuild_Run_number_I_) (fun _ h9 => h9) rfl dX9_takeAnswers_114 ?_
               refine va_put (D := (dC, dI)) (ci := 2) (v := .int (G_122 j_26 0)) (ty := .int) (C := RX2) (T := TX2) (N := 5) hx hb hg gb_2 tyX2 tyX2_ok nmX2 hown hK hP hD hS (50 + 16 * i + 13) (hQ.b13 hi) rfl 2 (by decide) (hg _ gm_fieldLink_RX9_213_ErrandGuild_Fault_cause_I_) (fun _ h9 => h9) rfl (by decide +kernel) rfl rfl (Nat.le_of_ble_eq_true rfl) dX9_takeAnswers_117 (fun H locs hP hD hS => ?_)
               obtain ⟨ws_132, G_131, eG_131, hP, hD, hQ⟩ : ∃ (ws_132 : va_W) (G_131 : Nat → Nat → Int32), G_131 = u2 G_122 i 19 (G_122 j_26 0) ∧ va_P (dC, dI) vwCl ws_132 H ∧ va_D A ws_132 ∧ Pic9 kc ws_132 ad ga gc M n f T G_131 K F := ⟨_, _, rfl, hP, hD, hQ.fltI hi 2 (by decide) (G_122 j_26 0)⟩
               have i10_133 : i10 M G_131 K F := by rw [eG_131]; exact (i10.pG i10_124 hi _ (by decide))
               have i11_134 : i11 M n gc f G_131 F := by rw [eG_131]; exact (i11.pG i11_125 i _ (by decide))
               have i6_135 : i6 n T G_131 := by rw [eG_131]; exact (i6.pG i6_126 i _ (by decide))
               have i7_136 : i7 n G_131 := by rw [eG_131]; exact (i7.pG i7_127 i _ (by decide))
               have i8_137 : i8 M n gc G_131 := by rw [eG_131]; exact (i8.pG i8_128 i _ (by decide))
               have i9_138 : i9 M gc G_131 R := by rw [eG_131]; exact (i9.pG i9_129 i _ (by decide))
               have eg_139 : G_131 i 19 = (G_122 j_26 0) := by rw [eG_131, u2_eq]
               exact by
                refine lv_aload_n hx hb dX9_takeAnswers_120 rfl (lv_at hl 3 rfl) ?_
                refine va_get (D := (dC, dI)) (ci := 7) (v := .ref (ad (50 + 16 * i + 13))) (C := RX7) (T := TX7) (N := 15) hx hb hg gb_7 hown hK hP (50 + 16 * i) (hQ.b0 hi) rfl 13 (by decide) (hg _ gm_fieldLink_RX9_201_ErrandGuild_Run_fault_LErrandGuild_Fault_) (fun _ h9 => h9) rfl dX9_takeAnswers_121 ?_
                refine lv_iload_n hx hb dX9_takeAnswers_124 rfl (lv_at hl 1 rfl) ?_
                refine lv_iconst (v := 1) hx hb dX9_takeAnswers_125 (by decide) ?_
                refine lv_isub hx hb dX9_takeAnswers_126 ?_
                refine lv_topi (fun z_140 ez_140 => ?_)
                refine va_put (D := (dC, dI)) (ci := 2) (v := .int (z_140)) (ty := .int) (C := RX2) (T := TX2) (N := 5) hx hb hg gb_2 tyX2 tyX2_ok nmX2 hown hK hP hD hS (50 + 16 * i + 13) (hQ.b13 hi) rfl 3 (by decide) (hg _ gm_fieldLink_RX9_216_ErrandGuild_Fault_suppressed_I_) (fun _ h9 => h9) rfl (by decide +kernel) rfl rfl (Nat.le_of_ble_eq_true rfl) dX9_takeAnswers_127 (fun H locs hP hD hS => ?_)
                obtain ⟨ws_142, G_141, eG_141, hP, hD, hQ⟩ : ∃ (ws_142 : va_W) (G_141 : Nat → Nat → Int32), G_141 = u2 G_131 i 20 z_140 ∧ va_P (dC, dI) vwCl ws_142 H ∧ va_D A ws_142 ∧ Pic9 kc ws_142 ad ga gc M n f T G_141 K F := ⟨_, _, rfl, hP, hD, hQ.fltI hi 3 (by decide) z_140⟩
                have i10_143 : i10 M G_141 K F := by rw [eG_141]; exact (i10.pG i10_133 hi _ (by decide))
                have i11_144 : i11 M n gc f G_141 F := by rw [eG_141]; exact (i11.pG i11_134 i _ (by decide))
                have i6_145 : i6 n T G_141 := by rw [eG_141]; exact (i6.pG i6_135 i _ (by decide))
                have i7_146 : i7 n G_141 := by rw [eG_141]; exact (i7.pG i7_136 i _ (by decide))
                have i8_147 : i8 M n gc G_141 := by rw [eG_141]; exact (i8.pG i8_137 i _ (by decide))
                have i9_148 : i9 M gc G_141 R := by rw [eG_141]; exact (i9.pG i9_138 i _ (by decide))
                have eg_149 : G_141 i 20 = z_140 := by rw [eG_141, u2_eq]
                exact by
                 refine lv_aload_n hx hb dX9_takeAnswers_130 rfl (lv_at hl 2 rfl) ?_
                 refine va_get (D := (dC, dI)) (ci := 7) (v := .ref (ad (50 + 16 * j_26 + 13))) (C := RX7) (T := TX7) (N := 15) hx hb hg gb_7 hown hK hP (50 + 16 * j_26) (hQ.b0 hj_26) rfl 13 (by decide) (hg _ gm_fieldLink_RX9_201_ErrandGuild_Run_fault_LErrandGuild_Fault_) (fun _ h9 => h9) rfl dX9_takeAnswers_131 ?_
                 refine va_get (D := (dC, dI)) (ci := 2) (v := .int (G_141 j_26 17)) (C := RX2) (T := TX2) (N := 5) hx hb hg gb_2 hown hK hP (50 + 16 * j_26 + 13) (hQ.b13 hj_26) rfl 0 (by decide) (hg _ gm_fieldLink_RX9_205_ErrandGuild_Fault_kind_I_) (fun _ h9 => h9) rfl dX9_takeAnswers_134 ?_
                 refine W_msr2 (fun hm1 hm2 hm3 => ?_)
                 exact W.iret (v := G_141 j_26 17) hx hb hr (fun t ht hW => ⟨⟨G_141 j_26 17, (ad, ga, gc, M, n, f, T, G_141, K, F), rfl, (by show ((C9.mk n f T G_141 K F), G_141 j_26 17) = k_take i (C9.mk n f T G K F); subst eG_122; subst eG_131; subst eG_141; subst ez_140; have hX := v_11; (first | rw [cit_none] at hX | rw [cit_go i3_111 i4_112 (by omega) (by first | with_reducible assumption | omega)] at hX); (repeat (first | dsimp +instances only [c9n, c9f, c9T, c9G, c9K, c9F, b_come, b_leave, b_fill, awB, b_settle, b_wake, b_take, f_take, b_gather, f_gather, b_ask, a_ask, b_tell, c_close, d_close, k_add, k_rem, sco, k_clrF, k_mem, k_rebind, k_bnd, k_beg0, k_beg1, b_giveN, b_giveR, f_open, b_hand, k_op, b_turn, wlB, b_beat, f_anew, b_wipe, b_off, k_sadd, fits, frP, cntB, b_trace, b_child, k_lat, cond_true, cond_false, Option.elim_none, Option.elim_some, Option.getD_none, Option.getD_some] at hX | rw [eo_1] at hX | rw [← hc_121] at hX | rw [if_pos (by first | with_reducible assumption | omega)] at hX | rw [if_neg (by first | with_reducible assumption | omega)] at hX | rw [jx_of (by omega)] at hX)); first | exact hX | (exfalso; omega) | exact hX), ws_142, by rw [ht]; exact hP, hD, hQ, ⟨i1_109, i2_110, i3_111, i4_112, i5_113, i6_145, i7_146, i8_147, i9_148, i10_143, i11_144⟩, by rw [ht]; show hpS H + (260 * M + 2 * S9 M gc) ≤ hpS s.heap + (260 * M + 2 * S9 M gc); omega, by rw [ht]; show 16 * H.size + (256 * M + S9 M gc) ≤ 16 * s.heap.size + (256 * M + S9 M gc); omega⟩, hS.F ht⟩) hS.2.2 dX9_takeAnswers_137
           · have hl : lv_has ls 4 [(3, .ref (ad (50 + 16 * j_94))), (2, .int x_3), (1, .ref (ad (50 + 16 * j_26))), (0, .ref (ad (50 + 16 * i)))] := hl
             have hj_94 : j_94 < M := v_10 _ rfl
             refine lv_aload_n hx hb dX9_takeAnswers_12 rfl (lv_at hl 0 rfl) ?_
             refine lv_ifnull hx hb dX9_takeAnswers_13 ?_
             refine lv_aload_n hx hb dX9_takeAnswers_16 rfl (lv_at hl 0 rfl) ?_
             refine va_get (D := (dC, dI)) (ci := 7) (v := .ref (ad (50 + 16 * j_94 + 1))) (C := RX7) (T := TX7) (N := 15) hx hb hg gb_7 hown hK hP (50 + 16 * j_94) (hQ.b0 hj_94) rfl 10 (by decide) (hg _ gm_fieldLink_RX9_151_ErrandGuild_Run_kin_LErrandGuild_Kin_) (fun _ h9 => h9) rfl dX9_takeAnswers_17 ?_
             refine va_get (D := (dC, dI)) (ci := 4) (v := .int (G_6 j_94 12)) (C := RX4) (T := TX4) (N := 9) hx hb hg gb_4 hown hK hP (50 + 16 * j_94 + 1) (hQ.b1 hj_94) rfl 4 (by decide) (hg _ gm_fieldLink_RX9_379_ErrandGuild_Kin_claim_I_) (fun _ h9 => h9) rfl dX9_takeAnswers_20 ?_
             refine lv_iconst (v := 1) hx hb dX9_takeAnswers_23 (by decide) ?_
             refine lv_icmp_ne (tgt := 51) hx hb dX9_takeAnswers_24 (by decide) (fun c_150 => ?_) (fun c_150 => ?_)
             · simp only [i_lt, i_le, i_eq, ti_1] at c_150
               refine lv_aload_n hx hb dX9_takeAnswers_51 rfl (lv_at hl 0 rfl) ?_
               refine va_get (D := (dC, dI)) (ci := 7) (v := .ref (ad (50 + 16 * j_94 + 1))) (C := RX7) (T := TX7) (N := 15) hx hb hg gb_7 hown hK hP (50 + 16 * j_94) (hQ.b0 hj_94) rfl 10 (by decide) (hg _ gm_fieldLink_RX9_151_ErrandGuild_Run_kin_LErrandGuild_Kin_) (fun _ h9 => h9) rfl dX9_takeAnswers_52 ?_
               exact by
                refine va_get (D := (dC, dI)) (ci := 4) (v := .int (G_6 j_94 12)) (C := RX4) (T := TX4) (N := 9) hx hb hg gb_4 hown hK hP (50 + 16 * j_94 + 1) (hQ.b1 hj_94) rfl 4 (by decide) (hg _ gm_fieldLink_RX9_379_ErrandGuild_Kin_claim_I_) (fun _ h9 => h9) rfl dX9_takeAnswers_55 ?_
                refine lv_iconst (v := 1) hx hb dX9_takeAnswers_58 (by decide) ?_
                refine lv_icmp_ne (tgt := 83) hx hb dX9_takeAnswers_59 (by decide) (fun c_151 => ?_) (fun c_151 => ?_)
                · simp only [i_lt, i_le, i_eq, ti_1] at c_151
                  refine lv_aload_n hx hb dX9_takeAnswers_83 rfl (lv_at hl 0 rfl) ?_
                  refine va_get (D := (dC, dI)) (ci := 7) (v := .ref (ad (50 + 16 * j_94 + 1))) (C := RX7) (T := TX7) (N := 15) hx hb hg gb_7 hown hK hP (50 + 16 * j_94) (hQ.b0 hj_94) rfl 10 (by decide) (hg _ gm_fieldLink_RX9_151_ErrandGuild_Run_kin_LErrandGuild_Kin_) (fun _ h9 => h9) rfl dX9_takeAnswers_84 ?_
                  refine va_get (D := (dC, dI)) (ci := 4) (v := va_rf (rA9 ad (K j_94 4))) (C := RX4) (T := TX4) (N := 9) hx hb hg gb_4 hown hK hP (50 + 16 * j_94 + 1) (hQ.b1 hj_94) rfl 7 (by decide) (hg _ gm_fieldLink_RX9_228_ErrandGuild_Kin_nextSibling_LErrandGuild_Run_) (fun _ h9 => h9) rfl dX9_takeAnswers_87 ?_
                  rcases eo_152 : K j_94 4 with _ | j_153
                  · refine W.eq (g2 := F0 m 90 ls [.null]) (by first | rfl | (rw [eo_152]; rfl)) ?_
                    refine lv_astore_nN (lv' := [(3, .null), (2, .int x_3), (1, .ref (ad (50 + 16 * j_26))), (0, .ref (ad (50 + 16 * i)))]) hx hb dX9_takeAnswers_90 rfl hl (by decide) rfl (fun ls hl => ?_)
                    refine lv_goto (tgt := 12) hx hb dX9_takeAnswers_91 (by decide) ?_
                    exact ih_13 x_3 (some j_26) none  ws_7 G_6  H locs ls (by simp only [chM] at *; omega) (fun _ h => by cases h; exact hj_26) (fun _ h => by cases h) (by show cit K (b_take i) (f_take i) 201 none ((C9.mk n f T G_6 K F), (some j_26), x_3) = k_take i (C9.mk n f T G K F); have hX := v_11; (first | rw [cit_none] at hX | rw [cit_go i3_17 i4_18 (by omega) (by first | with_reducible assumption | omega)] at hX); (repeat (first | dsimp +instances only [c9n, c9f, c9T, c9G, c9K, c9F, b_come, b_leave, b_fill, awB, b_settle, b_wake, b_take, f_take, b_gather, f_gather, b_ask, a_ask, b_tell, c_close, d_close, k_add, k_rem, sco, k_clrF, k_mem, k_rebind, k_bnd, k_beg0, k_beg1, b_giveN, b_giveR, f_open, b_hand, k_op, b_turn, wlB, b_beat, f_anew, b_wipe, b_off, k_sadd, fits, frP, cntB, b_trace, b_child, k_lat, cond_true, cond_false, Option.elim_none, Option.elim_some, Option.getD_none, Option.getD_some] at hX | rw [eo_1] at hX | rw [eo_152] at hX | rw [if_pos (by first | with_reducible assumption | omega)] at hX | rw [if_neg (by first | with_reducible assumption | omega)] at hX | rw [jx_of (by omega)] at hX)); first | exact hX | (exfalso; omega) | exact hX) hQ ⟨i1_15, i2_16, i3_17, i4_18, i5_19, i6_20, i7_21, i8_22, i9_23, i10_24, i11_25⟩ hP hD hS (lv_sub hl [0, 1, 2, 3] rfl)
                  · refine W.eq (g2 := F0 m 90 ls [.ref (ad (50 + 16 * j_153))]) (by first | rfl | (rw [eo_152]; rfl)) ?_
                    have hj_153 : j_153 < M := i3_17 _ _ _ hj_94 eo_152
                    exact by
                     refine lv_astore_n (lv' := [(3, .ref (ad (50 + 16 * j_153))), (2, .int x_3), (1, .ref (ad (50 + 16 * j_26))), (0, .ref (ad (50 + 16 * i)))]) hx hb dX9_takeAnswers_90 rfl hl (by decide) rfl (fun ls hl => ?_)
                     refine lv_goto (tgt := 12) hx hb dX9_takeAnswers_91 (by decide) ?_
                     exact ih_13 x_3 (some j_26) (some j_153)  ws_7 G_6  H locs ls (by have := i4_18 _ _ hj_94 eo_152; simp only [chM] at *; omega) (fun _ h => by cases h; exact hj_26) (fun _ h => by cases h; exact hj_153) (by show cit K (b_take i) (f_take i) 201 (some j_153) ((C9.mk n f T G_6 K F), (some j_26), x_3) = k_take i (C9.mk n f T G K F); have hX := v_11; (first | rw [cit_none] at hX | rw [cit_go i3_17 i4_18 (by omega) (by first | with_reducible assumption | omega)] at hX); (repeat (first | dsimp +instances only [c9n, c9f, c9T, c9G, c9K, c9F, b_come, b_leave, b_fill, awB, b_settle, b_wake, b_take, f_take, b_gather, f_gather, b_ask, a_ask, b_tell, c_close, d_close, k_add, k_rem, sco, k_clrF, k_mem, k_rebind, k_bnd, k_beg0, k_beg1, b_giveN, b_giveR, f_open, b_hand, k_op, b_turn, wlB, b_beat, f_anew, b_wipe, b_off, k_sadd, fits, frP, cntB, b_trace, b_child, k_lat, cond_true, cond_false, Option.elim_none, Option.elim_some, Option.getD_none, Option.getD_some] at hX | rw [eo_1] at hX | rw [eo_152] at hX | rw [if_pos (by first | with_reducible assumption | omega)] at hX | rw [if_neg (by first | with_reducible assumption | omega)] at hX | rw [jx_of (by omega)] at hX)); first | exact hX | (exfalso; omega) | exact hX) hQ ⟨i1_15, i2_16, i3_17, i4_18, i5_19, i6_20, i7_21, i8_22, i9_23, i10_24, i11_25⟩ hP hD hS (lv_sub hl [0, 1, 2, 3] rfl)
                · simp only [i_lt, i_le, i_eq, ti_1] at c_151
                  refine lv_aload_n hx hb dX9_takeAnswers_62 rfl (lv_at hl 0 rfl) ?_
                  refine va_get (D := (dC, dI)) (ci := 7) (v := .int (G_6 j_94 2)) (C := RX7) (T := TX7) (N := 15) hx hb hg gb_7 hown hK hP (50 + 16 * j_94) (hQ.b0 hj_94) rfl 2 (by decide) (hg _ gm_fieldLink_RX9_145_ErrandGuild_Run_state_I_) (fun _ h9 => h9) rfl dX9_takeAnswers_63 ?_
                  refine lv_iconst (v := 4) hx hb dX9_takeAnswers_66 (by decide) ?_
                  refine lv_icmp_ne (tgt := 83) hx hb dX9_takeAnswers_67 (by decide) (fun c_154 => ?_) (fun c_154 => ?_)
                  · simp only [i_lt, i_le, i_eq, ti_4] at c_154
                    refine lv_aload_n hx hb dX9_takeAnswers_83 rfl (lv_at hl 0 rfl) ?_
                    refine va_get (D := (dC, dI)) (ci := 7) (v := .ref (ad (50 + 16 * j_94 + 1))) (C := RX7) (T := TX7) (N := 15) hx hb hg gb_7 hown hK hP (50 + 16 * j_94) (hQ.b0 hj_94) rfl 10 (by decide) (hg _ gm_fieldLink_RX9_151_ErrandGuild_Run_kin_LErrandGuild_Kin_) (fun _ h9 => h9) rfl dX9_takeAnswers_84 ?_
                    refine va_get (D := (dC, dI)) (ci := 4) (v := va_rf (rA9 ad (K j_94 4))) (C := RX4) (T := TX4) (N := 9) hx hb hg gb_4 hown hK hP (50 + 16 * j_94 + 1) (hQ.b1 hj_94) rfl 7 (by decide) (hg _ gm_fieldLink_RX9_228_ErrandGuild_Kin_nextSibling_LErrandGuild_Run_) (fun _ h9 => h9) rfl dX9_takeAnswers_87 ?_
                    rcases eo_155 : K j_94 4 with _ | j_156
                    · refine W.eq (g2 := F0 m 90 ls [.null]) (by first | rfl | (rw [eo_155]; rfl)) ?_
                      refine lv_astore_nN (lv' := [(3, .null), (2, .int x_3), (1, .ref (ad (50 + 16 * j_26))), (0, .ref (ad (50 + 16 * i)))]) hx hb dX9_takeAnswers_90 rfl hl (by decide) rfl (fun ls hl => ?_)
                      exact by
                       refine lv_goto (tgt := 12) hx hb dX9_takeAnswers_91 (by decide) ?_
                       exact ih_13 x_3 (some j_26) none  ws_7 G_6  H locs ls (by simp only [chM] at *; omega) (fun _ h => by cases h; exact hj_26) (fun _ h => by cases h) (by show cit K (b_take i) (f_take i) 201 none ((C9.mk n f T G_6 K F), (some j_26), x_3) = k_take i (C9.mk n f T G K F); have hX := v_11; (first | rw [cit_none] at hX | rw [cit_go i3_17 i4_18 (by omega) (by first | with_reducible assumption | omega)] at hX); (repeat (first | dsimp +instances only [c9n, c9f, c9T, c9G, c9K, c9F, b_come, b_leave, b_fill, awB, b_settle, b_wake, b_take, f_take, b_gather, f_gather, b_ask, a_ask, b_tell, c_close, d_close, k_add, k_rem, sco, k_clrF, k_mem, k_rebind, k_bnd, k_beg0, k_beg1, b_giveN, b_giveR, f_open, b_hand, k_op, b_turn, wlB, b_beat, f_anew, b_wipe, b_off, k_sadd, fits, frP, cntB, b_trace, b_child, k_lat, cond_true, cond_false, Option.elim_none, Option.elim_some, Option.getD_none, Option.getD_some] at hX | rw [eo_1] at hX | rw [eo_155] at hX | rw [if_pos (by first | with_reducible assumption | omega)] at hX | rw [if_neg (by first | with_reducible assumption | omega)] at hX | rw [jx_of (by omega)] at hX)); first | exact hX | (exfalso; omega) | exact hX) hQ ⟨i1_15, i2_16, i3_17, i4_18, i5_19, i6_20, i7_21, i8_22, i9_23, i10_24, i11_25⟩ hP hD hS (lv_sub hl [0, 1, 2, 3] rfl)
                    · refine W.eq (g2 := F0 m 90 ls [.ref (ad (50 + 16 * j_156))]) (by first | rfl | (rw [eo_155]; rfl)) ?_
                      have hj_156 : j_156 < M := i3_17 _ _ _ hj_94 eo_155
                      refine lv_astore_n (lv' := [(3, .ref (ad (50 + 16 * j_156))), (2, .int x_3), (1, .ref (ad (50 + 16 * j_26))), (0, .ref (ad (50 + 16 * i)))]) hx hb dX9_takeAnswers_90 rfl hl (by decide) rfl (fun ls hl => ?_)
                      refine lv_goto (tgt := 12) hx hb dX9_takeAnswers_91 (by decide) ?_
                      exact ih_13 x_3 (some j_26) (some j_156)  ws_7 G_6  H locs ls (by have := i4_18 _ _ hj_94 eo_155; simp only [chM] at *; omega) (fun _ h => by cases h; exact hj_26) (fun _ h => by cases h; exact hj_156) (by show cit K (b_take i) (f_take i) 201 (some j_156) ((C9.mk n f T G_6 K F), (some j_26), x_3) = k_take i (C9.mk n f T G K F); have hX := v_11; (first | rw [cit_none] at hX | rw [cit_go i3_17 i4_18 (by omega) (by first | with_reducible assumption | omega)] at hX); (repeat (first | dsimp +instances only [c9n, c9f, c9T, c9G, c9K, c9F, b_come, b_leave, b_fill, awB, b_settle, b_wake, b_take, f_take, b_gather, f_gather, b_ask, a_ask, b_tell, c_close, d_close, k_add, k_rem, sco, k_clrF, k_mem, k_rebind, k_bnd, k_beg0, k_beg1, b_giveN, b_giveR, f_open, b_hand, k_op, b_turn, wlB, b_beat, f_anew, b_wipe, b_off, k_sadd, fits, frP, cntB, b_trace, b_child, k_lat, cond_true, cond_false, Option.elim_none, Option.elim_some, Option.getD_none, Option.getD_some] at hX | rw [eo_1] at hX | rw [eo_155] at hX | rw [if_pos (by first | with_reducible assumption | omega)] at hX | rw [if_neg (by first | with_reducible assumption | omega)] at hX | rw [jx_of (by omega)] at hX)); first | exact hX | (exfalso; omega) | exact hX) hQ ⟨i1_15, i2_16, i3_17, i4_18, i5_19, i6_20, i7_21, i8_22, i9_23, i10_24, i11_25⟩ hP hD hS (lv_sub hl [0, 1, 2, 3] rfl)
                  · simp only [i_lt, i_le, i_eq, ti_4] at c_154
                    obtain ⟨y_157, ey_157⟩ : ∃ q : Int32, q = x_3 + (1) := ⟨_, rfl⟩
                    refine lv_iinc (v := y_157) (lv' := [(2, .int y_157), (3, .ref (ad (50 + 16 * j_94))), (1, .ref (ad (50 + 16 * j_26))), (0, .ref (ad (50 + 16 * i)))]) hx hb dX9_takeAnswers_70 hl (k := 1) rfl (by rw [ey_157]; rfl) (by decide) rfl (fun ls hl => ?_)
                    refine lv_aload_n hx hb dX9_takeAnswers_73 rfl (lv_at hl 2 rfl) ?_
                    refine lv_ifnonnull (tgt := 81) hx hb dX9_takeAnswers_74 (by decide) ?_
                    refine lv_aload_n hx hb dX9_takeAnswers_81 rfl (lv_at hl 2 rfl) ?_
                    refine lv_astore_n (lv' := [(1, .ref (ad (50 + 16 * j_26))), (2, .int y_157), (3, .ref (ad (50 + 16 * j_94))), (0, .ref (ad (50 + 16 * i)))]) hx hb dX9_takeAnswers_82 rfl hl (by decide) rfl (fun ls hl => ?_)
                    exact by
                     refine lv_aload_n hx hb dX9_takeAnswers_83 rfl (lv_at hl 2 rfl) ?_
                     refine va_get (D := (dC, dI)) (ci := 7) (v := .ref (ad (50 + 16 * j_94 + 1))) (C := RX7) (T := TX7) (N := 15) hx hb hg gb_7 hown hK hP (50 + 16 * j_94) (hQ.b0 hj_94) rfl 10 (by decide) (hg _ gm_fieldLink_RX9_151_ErrandGuild_Run_kin_LErrandGuild_Kin_) (fun _ h9 => h9) rfl dX9_takeAnswers_84 ?_
                     refine va_get (D := (dC, dI)) (ci := 4) (v := va_rf (rA9 ad (K j_94 4))) (C := RX4) (T := TX4) (N := 9) hx hb hg gb_4 hown hK hP (50 + 16 * j_94 + 1) (hQ.b1 hj_94) rfl 7 (by decide) (hg _ gm_fieldLink_RX9_228_ErrandGuild_Kin_nextSibling_LErrandGuild_Run_) (fun _ h9 => h9) rfl dX9_takeAnswers_87 ?_
                     rcases eo_158 : K j_94 4 with _ | j_159
                     · refine W.eq (g2 := F0 m 90 ls [.null]) (by first | rfl | (rw [eo_158]; rfl)) ?_
                       refine lv_astore_nN (lv' := [(3, .null), (1, .ref (ad (50 + 16 * j_26))), (2, .int y_157), (0, .ref (ad (50 + 16 * i)))]) hx hb dX9_takeAnswers_90 rfl hl (by decide) rfl (fun ls hl => ?_)
                       refine lv_goto (tgt := 12) hx hb dX9_takeAnswers_91 (by decide) ?_
                       exact ih_13 y_157 (some j_26) none  ws_7 G_6  H locs ls (by simp only [chM] at *; omega) (fun _ h => by cases h; exact hj_26) (fun _ h => by cases h) (by show cit K (b_take i) (f_take i) 201 none ((C9.mk n f T G_6 K F), (some j_26), y_157) = k_take i (C9.mk n f T G K F); subst ey_157; have hX := v_11; (first | rw [cit_none] at hX | rw [cit_go i3_17 i4_18 (by omega) (by first | with_reducible assumption | omega)] at hX); (repeat (first | dsimp +instances only [c9n, c9f, c9T, c9G, c9K, c9F, b_come, b_leave, b_fill, awB, b_settle, b_wake, b_take, f_take, b_gather, f_gather, b_ask, a_ask, b_tell, c_close, d_close, k_add, k_rem, sco, k_clrF, k_mem, k_rebind, k_bnd, k_beg0, k_beg1, b_giveN, b_giveR, f_open, b_hand, k_op, b_turn, wlB, b_beat, f_anew, b_wipe, b_off, k_sadd, fits, frP, cntB, b_trace, b_child, k_lat, cond_true, cond_false, Option.elim_none, Option.elim_some, Option.getD_none, Option.getD_some] at hX | rw [eo_1] at hX | rw [eo_158] at hX | rw [if_pos (by first | with_reducible assumption | omega)] at hX | rw [if_neg (by first | with_reducible assumption | omega)] at hX | rw [jx_of (by omega)] at hX)); first | exact hX | (exfalso; omega) | exact hX) hQ ⟨i1_15, i2_16, i3_17, i4_18, i5_19, i6_20, i7_21, i8_22, i9_23, i10_24, i11_25⟩ hP hD hS (lv_sub hl [0, 2, 1, 3] rfl)
                     · refine W.eq (g2 := F0 m 90 ls [.ref (ad (50 + 16 * j_159))]) (by first | rfl | (rw [eo_158]; rfl)) ?_
                       have hj_159 : j_159 < M := i3_17 _ _ _ hj_94 eo_158
                       refine lv_astore_n (lv' := [(3, .ref (ad (50 + 16 * j_159))), (1, .ref (ad (50 + 16 * j_26))), (2, .int y_157), (0, .ref (ad (50 + 16 * i)))]) hx hb dX9_takeAnswers_90 rfl hl (by decide) rfl (fun ls hl => ?_)
                       refine lv_goto (tgt := 12) hx hb dX9_takeAnswers_91 (by decide) ?_
                       exact ih_13 y_157 (some j_26) (some j_159)  ws_7 G_6  H locs ls (by have := i4_18 _ _ hj_94 eo_158; simp only [chM] at *; omega) (fun _ h => by cases h; exact hj_26) (fun _ h => by cases h; exact hj_159) (by show cit K (b_take i) (f_take i) 201 (some j_159) ((C9.mk n f T G_6 K F), (some j_26), y_157) = k_take i (C9.mk n f T G K F); subst ey_157; have hX := v_11; (first | rw [cit_none] at hX | rw [cit_go i3_17 i4_18 (by omega) (by first | with_reducible assumption | omega)] at hX); (repeat (first | dsimp +instances only [c9n, c9f, c9T, c9G, c9K, c9F, b_come, b_leave, b_fill, awB, b_settle, b_wake, b_take, f_take, b_gather, f_gather, b_ask, a_ask, b_tell, c_close, d_close, k_add, k_rem, sco, k_clrF, k_mem, k_rebind, k_bnd, k_beg0, k_beg1, b_giveN, b_giveR, f_open, b_hand, k_op, b_turn, wlB, b_beat, f_anew, b_wipe, b_off, k_sadd, fits, frP, cntB, b_trace, b_child, k_lat, cond_true, cond_false, Option.elim_none, Option.elim_some, Option.getD_none, Option.getD_some] at hX | rw [eo_1] at hX | rw [eo_158] at hX | rw [if_pos (by first | with_reducible assumption | omega)] at hX | rw [if_neg (by first | with_reducible assumption | omega)] at hX | rw [jx_of (by omega)] at hX)); first | exact hX | (exfalso; omega) | exact hX) hQ ⟨i1_15, i2_16, i3_17, i4_18, i5_19, i6_20, i7_21, i8_22, i9_23, i10_24, i11_25⟩ hP hD hS (lv_sub hl [0, 2, 1, 3] rfl)
             · simp only [i_lt, i_le, i_eq, ti_1] at c_150
               refine lv_aload_n hx hb dX9_takeAnswers_27 rfl (lv_at hl 0 rfl) ?_
               refine va_get (D := (dC, dI)) (ci := 7) (v := .int (G_6 j_94 2)) (C := RX7) (T := TX7) (N := 15) hx hb hg gb_7 hown hK hP (50 + 16 * j_94) (hQ.b0 hj_94) rfl 2 (by decide) (hg _ gm_fieldLink_RX9_145_ErrandGuild_Run_state_I_) (fun _ h9 => h9) rfl dX9_takeAnswers_28 ?_
               refine lv_iconst (v := 3) hx hb dX9_takeAnswers_31 (by decide) ?_
               refine lv_icmp_ne (tgt := 51) hx hb dX9_takeAnswers_32 (by decide) (fun c_160 => ?_) (fun c_160 => ?_)
               · simp only [i_lt, i_le, i_eq, ti_3] at c_160
                 refine lv_aload_n hx hb dX9_takeAnswers_51 rfl (lv_at hl 0 rfl) ?_
                 refine va_get (D := (dC, dI)) (ci := 7) (v := .ref (ad (50 + 16 * j_94 + 1))) (C := RX7) (T := TX7) (N := 15) hx hb hg gb_7 hown hK hP (50 + 16 * j_94) (hQ.b0 hj_94) rfl 10 (by decide) (hg _ gm_fieldLink_RX9_151_ErrandGuild_Run_kin_LErrandGuild_Kin_) (fun _ h9 => h9) rfl dX9_takeAnswers_52 ?_
                 refine va_get (D := (dC, dI)) (ci := 4) (v := .int (G_6 j_94 12)) (C := RX4) (T := TX4) (N := 9) hx hb hg gb_4 hown hK hP (50 + 16 * j_94 + 1) (hQ.b1 hj_94) rfl 4 (by decide) (hg _ gm_fieldLink_RX9_379_ErrandGuild_Kin_claim_I_) (fun _ h9 => h9) rfl dX9_takeAnswers_55 ?_
                 refine lv_iconst (v := 1) hx hb dX9_takeAnswers_58 (by decide) ?_
                 refine lv_icmp_ne (tgt := 83) hx hb dX9_takeAnswers_59 (by decide) (fun c_161 => ?_) (fun c_161 => ?_)
                 · simp only [i_lt, i_le, i_eq, ti_1] at c_161
                   exfalso
                   omega
                 · simp only [i_lt, i_le, i_eq, ti_1] at c_161
                   exact by
                    refine lv_aload_n hx hb dX9_takeAnswers_62 rfl (lv_at hl 0 rfl) ?_
                    refine va_get (D := (dC, dI)) (ci := 7) (v := .int (G_6 j_94 2)) (C := RX7) (T := TX7) (N := 15) hx hb hg gb_7 hown hK hP (50 + 16 * j_94) (hQ.b0 hj_94) rfl 2 (by decide) (hg _ gm_fieldLink_RX9_145_ErrandGuild_Run_state_I_) (fun _ h9 => h9) rfl dX9_takeAnswers_63 ?_
                    refine lv_iconst (v := 4) hx hb dX9_takeAnswers_66 (by decide) ?_
                    refine lv_icmp_ne (tgt := 83) hx hb dX9_takeAnswers_67 (by decide) (fun c_162 => ?_) (fun c_162 => ?_)
                    · simp only [i_lt, i_le, i_eq, ti_4] at c_162
                      refine lv_aload_n hx hb dX9_takeAnswers_83 rfl (lv_at hl 0 rfl) ?_
                      refine va_get (D := (dC, dI)) (ci := 7) (v := .ref (ad (50 + 16 * j_94 + 1))) (C := RX7) (T := TX7) (N := 15) hx hb hg gb_7 hown hK hP (50 + 16 * j_94) (hQ.b0 hj_94) rfl 10 (by decide) (hg _ gm_fieldLink_RX9_151_ErrandGuild_Run_kin_LErrandGuild_Kin_) (fun _ h9 => h9) rfl dX9_takeAnswers_84 ?_
                      refine va_get (D := (dC, dI)) (ci := 4) (v := va_rf (rA9 ad (K j_94 4))) (C := RX4) (T := TX4) (N := 9) hx hb hg gb_4 hown hK hP (50 + 16 * j_94 + 1) (hQ.b1 hj_94) rfl 7 (by decide) (hg _ gm_fieldLink_RX9_228_ErrandGuild_Kin_nextSibling_LErrandGuild_Run_) (fun _ h9 => h9) rfl dX9_takeAnswers_87 ?_
                      rcases eo_163 : K j_94 4 with _ | j_164
                      · refine W.eq (g2 := F0 m 90 ls [.null]) (by first | rfl | (rw [eo_163]; rfl)) ?_
                        refine lv_astore_nN (lv' := [(3, .null), (2, .int x_3), (1, .ref (ad (50 + 16 * j_26))), (0, .ref (ad (50 + 16 * i)))]) hx hb dX9_takeAnswers_90 rfl hl (by decide) rfl (fun ls hl => ?_)
                        refine lv_goto (tgt := 12) hx hb dX9_takeAnswers_91 (by decide) ?_
                        exact ih_13 x_3 (some j_26) none  ws_7 G_6  H locs ls (by simp only [chM] at *; omega) (fun _ h => by cases h; exact hj_26) (fun _ h => by cases h) (by show cit K (b_take i) (f_take i) 201 none ((C9.mk n f T G_6 K F), (some j_26), x_3) = k_take i (C9.mk n f T G K F); have hX := v_11; (first | rw [cit_none] at hX | rw [cit_go i3_17 i4_18 (by omega) (by first | with_reducible assumption | omega)] at hX); (repeat (first | dsimp +instances only [c9n, c9f, c9T, c9G, c9K, c9F, b_come, b_leave, b_fill, awB, b_settle, b_wake, b_take, f_take, b_gather, f_gather, b_ask, a_ask, b_tell, c_close, d_close, k_add, k_rem, sco, k_clrF, k_mem, k_rebind, k_bnd, k_beg0, k_beg1, b_giveN, b_giveR, f_open, b_hand, k_op, b_turn, wlB, b_beat, f_anew, b_wipe, b_off, k_sadd, fits, frP, cntB, b_trace, b_child, k_lat, cond_true, cond_false, Option.elim_none, Option.elim_some, Option.getD_none, Option.getD_some] at hX | rw [eo_1] at hX | rw [eo_163] at hX | rw [if_pos (by first | with_reducible assumption | omega)] at hX | rw [if_neg (by first | with_reducible assumption | omega)] at hX | rw [jx_of (by omega)] at hX)); first | exact hX | (exfalso; omega) | exact hX) hQ ⟨i1_15, i2_16, i3_17, i4_18, i5_19, i6_20, i7_21, i8_22, i9_23, i10_24, i11_25⟩ hP hD hS (lv_sub hl [0, 1, 2, 3] rfl)
                      · refine W.eq (g2 := F0 m 90 ls [.ref (ad (50 + 16 * j_164))]) (by first | rfl | (rw [eo_163]; rfl)) ?_
                        have hj_164 : j_164 < M := i3_17 _ _ _ hj_94 eo_163
                        exact by
                         refine lv_astore_n (lv' := [(3, .ref (ad (50 + 16 * j_164))), (2, .int x_3), (1, .ref (ad (50 + 16 * j_26))), (0, .ref (ad (50 + 16 * i)))]) hx hb dX9_takeAnswers_90 rfl hl (by decide) rfl (fun ls hl => ?_)
                         refine lv_goto (tgt := 12) hx hb dX9_takeAnswers_91 (by decide) ?_
                         exact ih_13 x_3 (some j_26) (some j_164)  ws_7 G_6  H locs ls (by have := i4_18 _ _ hj_94 eo_163; simp only [chM] at *; omega) (fun _ h => by cases h; exact hj_26) (fun _ h => by cases h; exact hj_164) (by show cit K (b_take i) (f_take i) 201 (some j_164) ((C9.mk n f T G_6 K F), (some j_26), x_3) = k_take i (C9.mk n f T G K F); have hX := v_11; (first | rw [cit_none] at hX | rw [cit_go i3_17 i4_18 (by omega) (by first | with_reducible assumption | omega)] at hX); (repeat (first | dsimp +instances only [c9n, c9f, c9T, c9G, c9K, c9F, b_come, b_leave, b_fill, awB, b_settle, b_wake, b_take, f_take, b_gather, f_gather, b_ask, a_ask, b_tell, c_close, d_close, k_add, k_rem, sco, k_clrF, k_mem, k_rebind, k_bnd, k_beg0, k_beg1, b_giveN, b_giveR, f_open, b_hand, k_op, b_turn, wlB, b_beat, f_anew, b_wipe, b_off, k_sadd, fits, frP, cntB, b_trace, b_child, k_lat, cond_true, cond_false, Option.elim_none, Option.elim_some, Option.getD_none, Option.getD_some] at hX | rw [eo_1] at hX | rw [eo_163] at hX | rw [if_pos (by first | with_reducible assumption | omega)] at hX | rw [if_neg (by first | with_reducible assumption | omega)] at hX | rw [jx_of (by omega)] at hX)); first | exact hX | (exfalso; omega) | exact hX) hQ ⟨i1_15, i2_16, i3_17, i4_18, i5_19, i6_20, i7_21, i8_22, i9_23, i10_24, i11_25⟩ hP hD hS (lv_sub hl [0, 1, 2, 3] rfl)
                    · simp only [i_lt, i_le, i_eq, ti_4] at c_162
                      obtain ⟨y_165, ey_165⟩ : ∃ q : Int32, q = x_3 + (1) := ⟨_, rfl⟩
                      refine lv_iinc (v := y_165) (lv' := [(2, .int y_165), (3, .ref (ad (50 + 16 * j_94))), (1, .ref (ad (50 + 16 * j_26))), (0, .ref (ad (50 + 16 * i)))]) hx hb dX9_takeAnswers_70 hl (k := 1) rfl (by rw [ey_165]; rfl) (by decide) rfl (fun ls hl => ?_)
                      refine lv_aload_n hx hb dX9_takeAnswers_73 rfl (lv_at hl 2 rfl) ?_
                      refine lv_ifnonnull (tgt := 81) hx hb dX9_takeAnswers_74 (by decide) ?_
                      refine lv_aload_n hx hb dX9_takeAnswers_81 rfl (lv_at hl 2 rfl) ?_
                      refine lv_astore_n (lv' := [(1, .ref (ad (50 + 16 * j_26))), (2, .int y_165), (3, .ref (ad (50 + 16 * j_94))), (0, .ref (ad (50 + 16 * i)))]) hx hb dX9_takeAnswers_82 rfl hl (by decide) rfl (fun ls hl => ?_)
                      refine lv_aload_n hx hb dX9_takeAnswers_83 rfl (lv_at hl 2 rfl) ?_
                      refine va_get (D := (dC, dI)) (ci := 7) (v := .ref (ad (50 + 16 * j_94 + 1))) (C := RX7) (T := TX7) (N := 15) hx hb hg gb_7 hown hK hP (50 + 16 * j_94) (hQ.b0 hj_94) rfl 10 (by decide) (hg _ gm_fieldLink_RX9_151_ErrandGuild_Run_kin_LErrandGuild_Kin_) (fun _ h9 => h9) rfl dX9_takeAnswers_84 ?_
                      refine va_get (D := (dC, dI)) (ci := 4) (v := va_rf (rA9 ad (K j_94 4))) (C := RX4) (T := TX4) (N := 9) hx hb hg gb_4 hown hK hP (50 + 16 * j_94 + 1) (hQ.b1 hj_94) rfl 7 (by decide) (hg _ gm_fieldLink_RX9_228_ErrandGuild_Kin_nextSibling_LErrandGuild_Run_) (fun _ h9 => h9) rfl dX9_takeAnswers_87 ?_
                      rcases eo_166 : K j_94 4 with _ | j_167
                      · refine W.eq (g2 := F0 m 90 ls [.null]) (by first | rfl | (rw [eo_166]; rfl)) ?_
                        exact by
                         refine lv_astore_nN (lv' := [(3, .null), (1, .ref (ad (50 + 16 * j_26))), (2, .int y_165), (0, .ref (ad (50 + 16 * i)))]) hx hb dX9_takeAnswers_90 rfl hl (by decide) rfl (fun ls hl => ?_)
                         refine lv_goto (tgt := 12) hx hb dX9_takeAnswers_91 (by decide) ?_
                         exact ih_13 y_165 (some j_26) none  ws_7 G_6  H locs ls (by simp only [chM] at *; omega) (fun _ h => by cases h; exact hj_26) (fun _ h => by cases h) (by show cit K (b_take i) (f_take i) 201 none ((C9.mk n f T G_6 K F), (some j_26), y_165) = k_take i (C9.mk n f T G K F); subst ey_165; have hX := v_11; (first | rw [cit_none] at hX | rw [cit_go i3_17 i4_18 (by omega) (by first | with_reducible assumption | omega)] at hX); (repeat (first | dsimp +instances only [c9n, c9f, c9T, c9G, c9K, c9F, b_come, b_leave, b_fill, awB, b_settle, b_wake, b_take, f_take, b_gather, f_gather, b_ask, a_ask, b_tell, c_close, d_close, k_add, k_rem, sco, k_clrF, k_mem, k_rebind, k_bnd, k_beg0, k_beg1, b_giveN, b_giveR, f_open, b_hand, k_op, b_turn, wlB, b_beat, f_anew, b_wipe, b_off, k_sadd, fits, frP, cntB, b_trace, b_child, k_lat, cond_true, cond_false, Option.elim_none, Option.elim_some, Option.getD_none, Option.getD_some] at hX | rw [eo_1] at hX | rw [eo_166] at hX | rw [if_pos (by first | with_reducible assumption | omega)] at hX | rw [if_neg (by first | with_reducible assumption | omega)] at hX | rw [jx_of (by omega)] at hX)); first | exact hX | (exfalso; omega) | exact hX) hQ ⟨i1_15, i2_16, i3_17, i4_18, i5_19, i6_20, i7_21, i8_22, i9_23, i10_24, i11_25⟩ hP hD hS (lv_sub hl [0, 2, 1, 3] rfl)
                      · refine W.eq (g2 := F0 m 90 ls [.ref (ad (50 + 16 * j_167))]) (by first | rfl | (rw [eo_166]; rfl)) ?_
                        have hj_167 : j_167 < M := i3_17 _ _ _ hj_94 eo_166
                        refine lv_astore_n (lv' := [(3, .ref (ad (50 + 16 * j_167))), (1, .ref (ad (50 + 16 * j_26))), (2, .int y_165), (0, .ref (ad (50 + 16 * i)))]) hx hb dX9_takeAnswers_90 rfl hl (by decide) rfl (fun ls hl => ?_)
                        refine lv_goto (tgt := 12) hx hb dX9_takeAnswers_91 (by decide) ?_
                        exact ih_13 y_165 (some j_26) (some j_167)  ws_7 G_6  H locs ls (by have := i4_18 _ _ hj_94 eo_166; simp only [chM] at *; omega) (fun _ h => by cases h; exact hj_26) (fun _ h => by cases h; exact hj_167) (by show cit K (b_take i) (f_take i) 201 (some j_167) ((C9.mk n f T G_6 K F), (some j_26), y_165) = k_take i (C9.mk n f T G K F); subst ey_165; have hX := v_11; (first | rw [cit_none] at hX | rw [cit_go i3_17 i4_18 (by omega) (by first | with_reducible assumption | omega)] at hX); (repeat (first | dsimp +instances only [c9n, c9f, c9T, c9G, c9K, c9F, b_come, b_leave, b_fill, awB, b_settle, b_wake, b_take, f_take, b_gather, f_gather, b_ask, a_ask, b_tell, c_close, d_close, k_add, k_rem, sco, k_clrF, k_mem, k_rebind, k_bnd, k_beg0, k_beg1, b_giveN, b_giveR, f_open, b_hand, k_op, b_turn, wlB, b_beat, f_anew, b_wipe, b_off, k_sadd, fits, frP, cntB, b_trace, b_child, k_lat, cond_true, cond_false, Option.elim_none, Option.elim_some, Option.getD_none, Option.getD_some] at hX | rw [eo_1] at hX | rw [eo_166] at hX | rw [if_pos (by first | with_reducible assumption | omega)] at hX | rw [if_neg (by first | with_reducible assumption | omega)] at hX | rw [jx_of (by omega)] at hX)); first | exact hX | (exfalso; omega) | exact hX) hQ ⟨i1_15, i2_16, i3_17, i4_18, i5_19, i6_20, i7_21, i8_22, i9_23, i10_24, i11_25⟩ hP hD hS (lv_sub hl [0, 2, 1, 3] rfl)
               · simp only [i_lt, i_le, i_eq, ti_3] at c_160
                 refine lv_aload_n hx hb dX9_takeAnswers_35 rfl (lv_at hl 3 rfl) ?_
                 refine lv_dup hx hb dX9_takeAnswers_36 rfl ?_
                 refine va_get (D := (dC, dI)) (ci := 7) (v := .int (G_6 i 5)) (C := RX7) (T := TX7) (N := 15) hx hb hg gb_7 hown hK hP (50 + 16 * i) (hQ.b0 hi) rfl 5 (by decide) (hg _ gm_fieldLink_RX9_171_ErrandGuild_Run_sum_I_) (fun _ h9 => h9) rfl dX9_takeAnswers_37 ?_
                 refine lv_aload_n hx hb dX9_takeAnswers_40 rfl (lv_at hl 0 rfl) ?_
                 refine va_get (D := (dC, dI)) (ci := 7) (v := .int (G_6 j_94 5)) (C := RX7) (T := TX7) (N := 15) hx hb hg gb_7 hown hK hP (50 + 16 * j_94) (hQ.b0 hj_94) rfl 5 (by decide) (hg _ gm_fieldLink_RX9_171_ErrandGuild_Run_sum_I_) (fun _ h9 => h9) rfl dX9_takeAnswers_41 ?_
                 refine lv_iadd hx hb dX9_takeAnswers_44 ?_
                 refine lv_topi (fun z_168 ez_168 => ?_)
                 refine va_put (D := (dC, dI)) (ci := 7) (v := .int (z_168)) (ty := .int) (C := RX7) (T := TX7) (N := 15) hx hb hg gb_7 tyX7 tyX7_ok nmX7 hown hK hP hD hS (50 + 16 * i) (hQ.b0 hi) rfl 5 (by decide) (hg _ gm_fieldLink_RX9_171_ErrandGuild_Run_sum_I_) (fun _ h9 => h9) rfl (by decide +kernel) rfl rfl (Nat.le_of_ble_eq_true rfl) dX9_takeAnswers_45 (fun H locs hP hD hS => ?_)
                 obtain ⟨ws_170, G_169, eG_169, hP, hD, hQ⟩ : ∃ (ws_170 : va_W) (G_169 : Nat → Nat → Int32), G_169 = u2 G_6 i 5 z_168 ∧ va_P (dC, dI) vwCl ws_170 H ∧ va_D A ws_170 ∧ Pic9 kc ws_170 ad ga gc M n f T G_169 K F := ⟨_, _, rfl, hP, hD, hQ.run hi 5 (by decide) z_168⟩
                 have i10_171 : i10 M G_169 K F := by rw [eG_169]; exact (i10.pG i10_24 hi _ (by decide))
                 have i11_172 : i11 M n gc f G_169 F := by rw [eG_169]; exact (i11.pG i11_25 i _ (by decide))
                 have i6_173 : i6 n T G_169 := by rw [eG_169]; exact (i6.pG i6_20 i _ (by decide))
                 have i7_174 : i7 n G_169 := by rw [eG_169]; exact (i7.pG i7_21 i _ (by decide))
                 have i8_175 : i8 M n gc G_169 := by rw [eG_169]; exact (i8.pG i8_22 i _ (by decide))
                 have i9_176 : i9 M gc G_169 R := by rw [eG_169]; exact (i9.pG i9_23 i _ (by decide))
                 have eg_177 : G_169 i 5 = z_168 := by rw [eG_169, u2_eq]
                 exact by
                  refine lv_goto (tgt := 83) hx hb dX9_takeAnswers_48 (by decide) ?_
                  refine lv_aload_n hx hb dX9_takeAnswers_83 rfl (lv_at hl 0 rfl) ?_
                  refine va_get (D := (dC, dI)) (ci := 7) (v := .ref (ad (50 + 16 * j_94 + 1))) (C := RX7) (T := TX7) (N := 15) hx hb hg gb_7 hown hK hP (50 + 16 * j_94) (hQ.b0 hj_94) rfl 10 (by decide) (hg _ gm_fieldLink_RX9_151_ErrandGuild_Run_kin_LErrandGuild_Kin_) (fun _ h9 => h9) rfl dX9_takeAnswers_84 ?_
                  refine va_get (D := (dC, dI)) (ci := 4) (v := va_rf (rA9 ad (K j_94 4))) (C := RX4) (T := TX4) (N := 9) hx hb hg gb_4 hown hK hP (50 + 16 * j_94 + 1) (hQ.b1 hj_94) rfl 7 (by decide) (hg _ gm_fieldLink_RX9_228_ErrandGuild_Kin_nextSibling_LErrandGuild_Run_) (fun _ h9 => h9) rfl dX9_takeAnswers_87 ?_
                  rcases eo_178 : K j_94 4 with _ | j_179
                  · refine W.eq (g2 := F0 m 90 ls [.null]) (by first | rfl | (rw [eo_178]; rfl)) ?_
                    refine lv_astore_nN (lv' := [(3, .null), (2, .int x_3), (1, .ref (ad (50 + 16 * j_26))), (0, .ref (ad (50 + 16 * i)))]) hx hb dX9_takeAnswers_90 rfl hl (by decide) rfl (fun ls hl => ?_)
                    refine lv_goto (tgt := 12) hx hb dX9_takeAnswers_91 (by decide) ?_
                    exact ih_13 x_3 (some j_26) none  ws_170 G_169  H locs ls (by simp only [chM] at *; omega) (fun _ h => by cases h; exact hj_26) (fun _ h => by cases h) (by show cit K (b_take i) (f_take i) 201 none ((C9.mk n f T G_169 K F), (some j_26), x_3) = k_take i (C9.mk n f T G K F); subst eG_169; subst ez_168; have hX := v_11; (first | rw [cit_none] at hX | rw [cit_go i3_17 i4_18 (by omega) (by first | with_reducible assumption | omega)] at hX); (repeat (first | dsimp +instances only [c9n, c9f, c9T, c9G, c9K, c9F, b_come, b_leave, b_fill, awB, b_settle, b_wake, b_take, f_take, b_gather, f_gather, b_ask, a_ask, b_tell, c_close, d_close, k_add, k_rem, sco, k_clrF, k_mem, k_rebind, k_bnd, k_beg0, k_beg1, b_giveN, b_giveR, f_open, b_hand, k_op, b_turn, wlB, b_beat, f_anew, b_wipe, b_off, k_sadd, fits, frP, cntB, b_trace, b_child, k_lat, cond_true, cond_false, Option.elim_none, Option.elim_some, Option.getD_none, Option.getD_some] at hX | rw [eo_1] at hX | rw [eo_178] at hX | rw [if_pos (by first | with_reducible assumption | omega)] at hX | rw [if_neg (by first | with_reducible assumption | omega)] at hX | rw [jx_of (by omega)] at hX)); first | exact hX | (exfalso; omega) | exact hX) hQ ⟨i1_15, i2_16, i3_17, i4_18, i5_19, i6_173, i7_174, i8_175, i9_176, i10_171, i11_172⟩ hP hD hS (lv_sub hl [0, 1, 2, 3] rfl)
                  · refine W.eq (g2 := F0 m 90 ls [.ref (ad (50 + 16 * j_179))]) (by first | rfl | (rw [eo_178]; rfl)) ?_
                    have hj_179 : j_179 < M := i3_17 _ _ _ hj_94 eo_178
                    refine lv_astore_n (lv' := [(3, .ref (ad (50 + 16 * j_179))), (2, .int x_3), (1, .ref (ad (50 + 16 * j_26))), (0, .ref (ad (50 + 16 * i)))]) hx hb dX9_takeAnswers_90 rfl hl (by decide) rfl (fun ls hl => ?_)
                    exact by
                     refine lv_goto (tgt := 12) hx hb dX9_takeAnswers_91 (by decide) ?_
                     exact ih_13 x_3 (some j_26) (some j_179)  ws_170 G_169  H locs ls (by have := i4_18 _ _ hj_94 eo_178; simp only [chM] at *; omega) (fun _ h => by cases h; exact hj_26) (fun _ h => by cases h; exact hj_179) (by show cit K (b_take i) (f_take i) 201 (some j_179) ((C9.mk n f T G_169 K F), (some j_26), x_3) = k_take i (C9.mk n f T G K F); subst eG_169; subst ez_168; have hX := v_11; (first | rw [cit_none] at hX | rw [cit_go i3_17 i4_18 (by omega) (by first | with_reducible assumption | omega)] at hX); (repeat (first | dsimp +instances only [c9n, c9f, c9T, c9G, c9K, c9F, b_come, b_leave, b_fill, awB, b_settle, b_wake, b_take, f_take, b_gather, f_gather, b_ask, a_ask, b_tell, c_close, d_close, k_add, k_rem, sco, k_clrF, k_mem, k_rebind, k_bnd, k_beg0, k_beg1, b_giveN, b_giveR, f_open, b_hand, k_op, b_turn, wlB, b_beat, f_anew, b_wipe, b_off, k_sadd, fits, frP, cntB, b_trace, b_child, k_lat, cond_true, cond_false, Option.elim_none, Option.elim_some, Option.getD_none, Option.getD_some] at hX | rw [eo_1] at hX | rw [eo_178] at hX | rw [if_pos (by first | with_reducible assumption | omega)] at hX | rw [if_neg (by first | with_reducible assumption | omega)] at hX | rw [jx_of (by omega)] at hX)); first | exact hX | (exfalso; omega) | exact hX) hQ ⟨i1_15, i2_16, i3_17, i4_18, i5_19, i6_173, i7_174, i8_175, i9_176, i10_171, i11_172⟩ hP hD hS (lv_sub hl [0, 1, 2, 3] rfl)
     exact L12 _ (0 : Int32) none none  ws G  _ _ _ (Nat.lt_succ_self _) (fun _ h => by cases h) (fun _ h => by cases h) (by show cit K (b_take i) (f_take i) 201 none ((C9.mk n f T G K F), none, (0 : Int32)) = k_take i (C9.mk n f T G K F); have hX := (k_take.eq_1 i (C9.mk n f T G K F)).symm; (repeat (first | dsimp +instances only [c9n, c9f, c9T, c9G, c9K, c9F, b_come, b_leave, b_fill, awB, b_settle, b_wake, b_take, f_take, b_gather, f_gather, b_ask, a_ask, b_tell, c_close, d_close, k_add, k_rem, sco, k_clrF, k_mem, k_rebind, k_bnd, k_beg0, k_beg1, b_giveN, b_giveR, f_open, b_hand, k_op, b_turn, wlB, b_beat, f_anew, b_wipe, b_off, k_sadd, fits, frP, cntB, b_trace, b_child, k_lat, cond_true, cond_false, Option.elim_none, Option.elim_some, Option.getD_none, Option.getD_some] at hX | rw [eo_1] at hX | rw [if_pos (by first | with_reducible assumption | omega)] at hX | rw [if_neg (by first | with_reducible assumption | omega)] at hX | rw [jx_of (by omega)] at hX)); first | exact hX | (exfalso; omega) | exact hX) hQ ⟨h_i1, h_i2, h_i3, h_i4, h_i5, h_i6, h_i7, h_i8, h_i9, h_i10, h_i11⟩ hP hD hS (lv_sub hl [0, 1, 2, 3] rfl)
   · refine W.eq (g2 := F0 m 11 ls [.ref (ad (50 + 16 * j_2))]) (by first | rfl | (rw [eo_1]; rfl)) ?_
     have hj_2 : j_2 < M := h_i3 _ _ _ hi eo_1
     refine lv_astore_n (lv' := [(3, .ref (ad (50 + 16 * j_2))), (2, .int 0), (1, .null), (0, .ref (ad (50 + 16 * i)))]) hx hb dX9_takeAnswers_11 rfl hl (by decide) rfl (fun ls hl => ?_)
     have L12 : ∀ (fuel : Nat) (x_180 : Int32) (o_181 : Option Nat) (o_182 : Option Nat)  (ws_184 : va_W) (G_183 : Nat → Nat → Int32)  (H : Heap) (locs : List Loc) (ls : Array Slot), chM M o_182 < fuel → (∀ j : Nat, o_181 = some j → j < M) → (∀ j : Nat, o_182 = some j → j < M) → (cit K (b_take i) (f_take i) 201 o_182 ((C9.mk n f T G_183 K F), o_181, x_180) = k_take i (C9.mk n f T G K F)) → Pic9 kc ws_184 ad ga gc M n f T G_183 K F → I9 M n f T gc G_183 K F R → va_P (dC, dI) vwCl ws_184 H → va_D A ws_184 → va_S A s.heap H locs → lv_has ls 4 [(3, va_rf (rA9 ad o_182)), (2, .int x_180), (1, va_rf (rA9 ad o_181)), (0, .ref (ad (50 + 16 * i)))] → W p l e (headSpec (.code yX9_takeAnswers cX9_takeAnswers 4 (some .int) :: gw) ({ frames := 1, cells := 0, slots := 0, locals := 21 })).room s m ([.ref (ad (50 + 16 * i))] : List Value).toArray below meth c H locs 0 0 (MQ below (va_Qi (fun (r : Int32) (u : (Nat → Nat) × (Nat → Nat) × (Nat → Nat) × Nat × (Nat → Int32) × (Nat → Nat → Int32) × (Nat → Option Nat) × (Nat → Nat → Int32) × (Nat → Nat → Option Nat) × (Nat → Nat → Nat → Int32)) => ((C9.mk n f T u.2.2.2.2.2.2.2.1 K F), r) = k_take i (C9.mk n f T G K F)) (fun u t => ∃ w : va_W, va_P (dC, dI) vwCl w t.heap ∧ va_D A w ∧ Pic9 kc w ad ga gc M n f T u.2.2.2.2.2.2.2.1 K F ∧ I9 M n f T gc u.2.2.2.2.2.2.2.1 K F R ∧ hpS t.heap + (260 * M + 2 * S9 M gc) ≤ (hpS s.heap) + (260 * M + 2 * S9 M gc) ∧ 16 * t.heap.size + (256 * M + S9 M gc) ≤ 16 * s.heap.size + (256 * M + S9 M gc)) A) ([.ref (ad (50 + 16 * i))] : List Value).toArray s 0 0 A) (F0 m 12 ls []) := by
       intro fuel
       induction fuel with
       | zero => intro x_180 o_181 o_182 ws_184 G_183 H locs ls hm; exact absurd hm (Nat.not_lt_zero _)
       | succ fuel_191 ih_190 =>
         intro x_180 o_181 o_182 ws_184 G_183 H locs ls hm_185 v_186 v_187 v_188 hQ hI_189 hP hD hS hl
         obtain ⟨i1_192, i2_193, i3_194, i4_195, i5_196, i6_197, i7_198, i8_199, i9_200, i10_201, i11_202⟩ := id hI_189
         have q1_ := i1_192
         unfold i1 at q1_
         rcases o_181 with _ | j_203
         · have hl : lv_has ls 4 [(3, va_rf (rA9 ad o_182)), (2, .int x_180), (1, .null), (0, .ref (ad (50 + 16 * i)))] := hl
           rcases o_182 with _ | j_204
           · have hl : lv_has ls 4 [(3, .null), (2, .int x_180), (1, .null), (0, .ref (ad (50 + 16 * i)))] := hl
             exact by
              refine lv_aload_nN hx hb dX9_takeAnswers_12 rfl (lv_at hl 0 rfl) ?_
              refine lv_ifnullN (tgt := 94) hx hb dX9_takeAnswers_13 (by decide) ?_
              refine lv_aload_n hx hb dX9_takeAnswers_94 rfl (lv_at hl 3 rfl) ?_
              have hFc := free_all hD hS hA
              refine va_callv (va_runS (As := [.ref (ad (50 + 16 * i))]) (rest := []) ⟨hx, hb, hml, hown, hg⟩ (c_X9_settleAwaited l dC dI kc ws_184 ad ga gc M n f T G_183 K F R i H.size (hpS H) hQ ⟨i1_192, i2_193, i3_194, i4_195, i5_196, i6_197, i7_198, i8_199, i9_200, i10_201, i11_202⟩ (by show i < M; omega)) (va_cwS 1 hg (gw_S gm_methodLink_RX9_382_yX9_settleAwaited gm_static_yX9_settleAwaited gm_initialized_RX9 gm_code_yX9_settleAwaited_cX9_settleAwaited_2_none) rfl rfl rfl (by decide +kernel) ⟨Nat.le_of_ble_eq_true rfl, Nat.le_of_ble_eq_true rfl⟩) ⟨fun a U g mk q => by obtain ⟨q0, q1, q2, qP, qK, qD, qN⟩ := q; exact ⟨q0, q1, q2, qP, va_K.moved (u := U) (U := U.calling g mk a) (Vm.Alike.refl U.vm) qK, qD, nx_same (u := U) (U := U.calling g mk a) rfl qN⟩, fun U hU hW => ⟨rfl, by rw [hU], by rw [hU], by rw [hU]; exact hP, va_K.moved hW.alike hK, hD.weaken (fun _ _ _ _ => trivial), nx_warm hW hN⟩⟩ rfl rfl hl.1 rfl (lv_room (Nat.le_of_ble_eq_true rfl)) dX9_takeAnswers_95 ⟨Nat.le_of_ble_eq_true rfl, Nat.le_of_ble_eq_true rfl⟩) hS (fun q _ h => hFc q h) hFc (fun u_206 t H1 locs ht hvm hw hB hz1 hk1 hS => ?_)
              obtain ⟨ad_207, ga_208, gc_209, M_210, n_211, f_212, T_213, G_214, K_215, F_216⟩ := u_206
              have hB : ∃ w : va_W, va_P (dC, dI) vwCl w t.heap ∧ va_D (va_A ws_184 H.size) w ∧ Pic9 kc w ad ga gc M n f T G_214 K F ∧ I9 M n f T gc G_214 K F R ∧ hpS t.heap + (260 * M + 2 * S9 M gc) ≤ hpS H + (260 * M + 2 * S9 M gc) ∧ 16 * t.heap.size + (256 * M + S9 M gc) ≤ 16 * H.size + (256 * M + S9 M gc) := hB
              rw [ht] at hB
              obtain ⟨ws_217, hP, hD, hQ, hI_218, hy1, hy2⟩ := hB
              have hD := hD.weaken (fun k q _ h => hFc _ h)
              obtain ⟨i1_219, i2_220, i3_221, i4_222, i5_223, i6_224, i7_225, i8_226, i9_227, i10_228, i11_229⟩ := id hI_218
              have q1_ := i1_219
              unfold i1 at q1_
              generalize H1 = H at hP hS ⊢
              have hc_231 : (C9.mk n f T G_214 K F) = k_settle i (C9.mk n f T G_183 K F) := hw
              exact by
               refine lv_aload_n hx hb dX9_takeAnswers_98 rfl (lv_at hl 3 rfl) ?_
               refine lv_iconst (v := 0) hx hb dX9_takeAnswers_99 (by decide) ?_
               refine va_put (D := (dC, dI)) (ci := 7) (v := .int (0)) (ty := .boolean) (C := RX7) (T := TX7) (N := 15) hx hb hg gb_7 tyX7 tyX7_ok nmX7 hown hK hP hD hS (50 + 16 * i) (hQ.b0 hi) rfl 9 (by decide) (hg _ gm_fieldLink_RX9_289_ErrandGuild_Run_returning_Z_) (fun _ h9 => h9) rfl (by decide +kernel) rfl rfl (Nat.le_of_ble_eq_true rfl) dX9_takeAnswers_100 (fun H locs hP hD hS => ?_)
               obtain ⟨ws_233, G_232, eG_232, hP, hD, hQ⟩ : ∃ (ws_233 : va_W) (G_232 : Nat → Nat → Int32), G_232 = u2 G_214 i 9 0 ∧ va_P (dC, dI) vwCl ws_233 H ∧ va_D A ws_233 ∧ Pic9 kc ws_233 ad ga gc M n f T G_232 K F := ⟨_, _, rfl, hP, hD, hQ.run hi 9 (by decide) 0⟩
               have i10_234 : i10 M G_232 K F := by rw [eG_232]; exact (i10.pG i10_228 hi _ (by decide))
               have i11_235 : i11 M n gc f G_232 F := by rw [eG_232]; exact (i11.pG i11_229 i _ (by decide))
               have i6_236 : i6 n T G_232 := by rw [eG_232]; exact (i6.pG i6_224 i _ (by decide))
               have i7_237 : i7 n G_232 := by rw [eG_232]; exact (i7.pG i7_225 i _ (by decide))
               have i8_238 : i8 M n gc G_232 := by rw [eG_232]; exact (i8.pG i8_226 i _ (by decide))
               have i9_239 : i9 M gc G_232 R := by rw [eG_232]; exact (i9.pG i9_227 i _ (by decide))
               have eg_240 : G_232 i 9 = 0 := by rw [eG_232, u2_eq]
               refine lv_aload_nN hx hb dX9_takeAnswers_103 rfl (lv_at hl 2 rfl) ?_
               exact by
                refine lv_ifnonnullN hx hb dX9_takeAnswers_104 ?_
                refine lv_iconst (v := -1) hx hb dX9_takeAnswers_107 (by decide) ?_
                refine W_msr2 (fun hm1 hm2 hm3 => ?_)
                exact W.iret (v := -1) hx hb hr (fun t ht hW => ⟨⟨-1, (ad, ga, gc, M, n, f, T, G_232, K, F), rfl, (by show ((C9.mk n f T G_232 K F), (-1 : Int32)) = k_take i (C9.mk n f T G K F); subst eG_232; have hX := v_188; (first | rw [cit_none] at hX | rw [cit_go i3_221 i4_222 (by omega) (by first | with_reducible assumption | omega)] at hX); (repeat (first | dsimp +instances only [c9n, c9f, c9T, c9G, c9K, c9F, b_come, b_leave, b_fill, awB, b_settle, b_wake, b_take, f_take, b_gather, f_gather, b_ask, a_ask, b_tell, c_close, d_close, k_add, k_rem, sco, k_clrF, k_mem, k_rebind, k_bnd, k_beg0, k_beg1, b_giveN, b_giveR, f_open, b_hand, k_op, b_turn, wlB, b_beat, f_anew, b_wipe, b_off, k_sadd, fits, frP, cntB, b_trace, b_child, k_lat, cond_true, cond_false, Option.elim_none, Option.elim_some, Option.getD_none, Option.getD_some] at hX | rw [eo_1] at hX | rw [← hc_231] at hX | rw [if_pos (by first | with_reducible assumption | omega)] at hX | rw [if_neg (by first | with_reducible assumption | omega)] at hX | rw [jx_of (by omega)] at hX)); first | exact hX | (exfalso; omega) | exact hX), ws_233, by rw [ht]; exact hP, hD, hQ, ⟨i1_219, i2_220, i3_221, i4_222, i5_223, i6_236, i7_237, i8_238, i9_239, i10_234, i11_235⟩, by rw [ht]; show hpS H + (260 * M + 2 * S9 M gc) ≤ hpS s.heap + (260 * M + 2 * S9 M gc); omega, by rw [ht]; show 16 * H.size + (256 * M + S9 M gc) ≤ 16 * s.heap.size + (256 * M + S9 M gc); omega⟩, hS.F ht⟩) hS.2.2 dX9_takeAnswers_108
           · have hl : lv_has ls 4 [(3, .ref (ad (50 + 16 * j_204))), (2, .int x_180), (1, .null), (0, .ref (ad (50 + 16 * i)))] := hl
             have hj_204 : j_204 < M := v_187 _ rfl
             refine lv_aload_n hx hb dX9_takeAnswers_12 rfl (lv_at hl 0 rfl) ?_
             refine lv_ifnull hx hb dX9_takeAnswers_13 ?_
             refine lv_aload_n hx hb dX9_takeAnswers_16 rfl (lv_at hl 0 rfl) ?_
             refine va_get (D := (dC, dI)) (ci := 7) (v := .ref (ad (50 + 16 * j_204 + 1))) (C := RX7) (T := TX7) (N := 15) hx hb hg gb_7 hown hK hP (50 + 16 * j_204) (hQ.b0 hj_204) rfl 10 (by decide) (hg _ gm_fieldLink_RX9_151_ErrandGuild_Run_kin_LErrandGuild_Kin_) (fun _ h9 => h9) rfl dX9_takeAnswers_17 ?_
             refine va_get (D := (dC, dI)) (ci := 4) (v := .int (G_183 j_204 12)) (C := RX4) (T := TX4) (N := 9) hx hb hg gb_4 hown hK hP (50 + 16 * j_204 + 1) (hQ.b1 hj_204) rfl 4 (by decide) (hg _ gm_fieldLink_RX9_379_ErrandGuild_Kin_claim_I_) (fun _ h9 => h9) rfl dX9_takeAnswers_20 ?_
             refine lv_iconst (v := 1) hx hb dX9_takeAnswers_23 (by decide) ?_
             refine lv_icmp_ne (tgt := 51) hx hb dX9_takeAnswers_24 (by decide) (fun c_241 => ?_) (fun c_241 => ?_)
             · simp only [i_lt, i_le, i_eq, ti_1] at c_241
               refine lv_aload_n hx hb dX9_takeAnswers_51 rfl (lv_at hl 0 rfl) ?_
               refine va_get (D := (dC, dI)) (ci := 7) (v := .ref (ad (50 + 16 * j_204 + 1))) (C := RX7) (T := TX7) (N := 15) hx hb hg gb_7 hown hK hP (50 + 16 * j_204) (hQ.b0 hj_204) rfl 10 (by decide) (hg _ gm_fieldLink_RX9_151_ErrandGuild_Run_kin_LErrandGuild_Kin_) (fun _ h9 => h9) rfl dX9_takeAnswers_52 ?_
               exact by
                refine va_get (D := (dC, dI)) (ci := 4) (v := .int (G_183 j_204 12)) (C := RX4) (T := TX4) (N := 9) hx hb hg gb_4 hown hK hP (50 + 16 * j_204 + 1) (hQ.b1 hj_204) rfl 4 (by decide) (hg _ gm_fieldLink_RX9_379_ErrandGuild_Kin_claim_I_) (fun _ h9 => h9) rfl dX9_takeAnswers_55 ?_
                refine lv_iconst (v := 1) hx hb dX9_takeAnswers_58 (by decide) ?_
                refine lv_icmp_ne (tgt := 83) hx hb dX9_takeAnswers_59 (by decide) (fun c_242 => ?_) (fun c_242 => ?_)
                · simp only [i_lt, i_le, i_eq, ti_1] at c_242
                  refine lv_aload_n hx hb dX9_takeAnswers_83 rfl (lv_at hl 0 rfl) ?_
                  refine va_get (D := (dC, dI)) (ci := 7) (v := .ref (ad (50 + 16 * j_204 + 1))) (C := RX7) (T := TX7) (N := 15) hx hb hg gb_7 hown hK hP (50 + 16 * j_204) (hQ.b0 hj_204) rfl 10 (by decide) (hg _ gm_fieldLink_RX9_151_ErrandGuild_Run_kin_LErrandGuild_Kin_) (fun _ h9 => h9) rfl dX9_takeAnswers_84 ?_
                  refine va_get (D := (dC, dI)) (ci := 4) (v := va_rf (rA9 ad (K j_204 4))) (C := RX4) (T := TX4) (N := 9) hx hb hg gb_4 hown hK hP (50 + 16 * j_204 + 1) (hQ.b1 hj_204) rfl 7 (by decide) (hg _ gm_fieldLink_RX9_228_ErrandGuild_Kin_nextSibling_LErrandGuild_Run_) (fun _ h9 => h9) rfl dX9_takeAnswers_87 ?_
                  rcases eo_243 : K j_204 4 with _ | j_244
                  · refine W.eq (g2 := F0 m 90 ls [.null]) (by first | rfl | (rw [eo_243]; rfl)) ?_
                    refine lv_astore_nN (lv' := [(3, .null), (2, .int x_180), (1, .null), (0, .ref (ad (50 + 16 * i)))]) hx hb dX9_takeAnswers_90 rfl hl (by decide) rfl (fun ls hl => ?_)
                    refine lv_goto (tgt := 12) hx hb dX9_takeAnswers_91 (by decide) ?_
                    exact ih_190 x_180 none none  ws_184 G_183  H locs ls (by simp only [chM] at *; omega) (fun _ h => by cases h) (fun _ h => by cases h) (by show cit K (b_take i) (f_take i) 201 none ((C9.mk n f T G_183 K F), none, x_180) = k_take i (C9.mk n f T G K F); have hX := v_188; (first | rw [cit_none] at hX | rw [cit_go i3_194 i4_195 (by omega) (by first | with_reducible assumption | omega)] at hX); (repeat (first | dsimp +instances only [c9n, c9f, c9T, c9G, c9K, c9F, b_come, b_leave, b_fill, awB, b_settle, b_wake, b_take, f_take, b_gather, f_gather, b_ask, a_ask, b_tell, c_close, d_close, k_add, k_rem, sco, k_clrF, k_mem, k_rebind, k_bnd, k_beg0, k_beg1, b_giveN, b_giveR, f_open, b_hand, k_op, b_turn, wlB, b_beat, f_anew, b_wipe, b_off, k_sadd, fits, frP, cntB, b_trace, b_child, k_lat, cond_true, cond_false, Option.elim_none, Option.elim_some, Option.getD_none, Option.getD_some] at hX | rw [eo_1] at hX | rw [eo_243] at hX | rw [if_pos (by first | with_reducible assumption | omega)] at hX | rw [if_neg (by first | with_reducible assumption | omega)] at hX | rw [jx_of (by omega)] at hX)); first | exact hX | (exfalso; omega) | exact hX) hQ ⟨i1_192, i2_193, i3_194, i4_195, i5_196, i6_197, i7_198, i8_199, i9_200, i10_201, i11_202⟩ hP hD hS (lv_sub hl [0, 1, 2, 3] rfl)
                  · refine W.eq (g2 := F0 m 90 ls [.ref (ad (50 + 16 * j_244))]) (by first | rfl | (rw [eo_243]; rfl)) ?_
                    have hj_244 : j_244 < M := i3_194 _ _ _ hj_204 eo_243
                    exact by
                     refine lv_astore_n (lv' := [(3, .ref (ad (50 + 16 * j_244))), (2, .int x_180), (1, .null), (0, .ref (ad (50 + 16 * i)))]) hx hb dX9_takeAnswers_90 rfl hl (by decide) rfl (fun ls hl => ?_)
                     refine lv_goto (tgt := 12) hx hb dX9_takeAnswers_91 (by decide) ?_
                     exact ih_190 x_180 none (some j_244)  ws_184 G_183  H locs ls (by have := i4_195 _ _ hj_204 eo_243; simp only [chM] at *; omega) (fun _ h => by cases h) (fun _ h => by cases h; exact hj_244) (by show cit K (b_take i) (f_take i) 201 (some j_244) ((C9.mk n f T G_183 K F), none, x_180) = k_take i (C9.mk n f T G K F); have hX := v_188; (first | rw [cit_none] at hX | rw [cit_go i3_194 i4_195 (by omega) (by first | with_reducible assumption | omega)] at hX); (repeat (first | dsimp +instances only [c9n, c9f, c9T, c9G, c9K, c9F, b_come, b_leave, b_fill, awB, b_settle, b_wake, b_take, f_take, b_gather, f_gather, b_ask, a_ask, b_tell, c_close, d_close, k_add, k_rem, sco, k_clrF, k_mem, k_rebind, k_bnd, k_beg0, k_beg1, b_giveN, b_giveR, f_open, b_hand, k_op, b_turn, wlB, b_beat, f_anew, b_wipe, b_off, k_sadd, fits, frP, cntB, b_trace, b_child, k_lat, cond_true, cond_false, Option.elim_none, Option.elim_some, Option.getD_none, Option.getD_some] at hX | rw [eo_1] at hX | rw [eo_243] at hX | rw [if_pos (by first | with_reducible assumption | omega)] at hX | rw [if_neg (by first | with_reducible assumption | omega)] at hX | rw [jx_of (by omega)] at hX)); first | exact hX | (exfalso; omega) | exact hX) hQ ⟨i1_192, i2_193, i3_194, i4_195, i5_196, i6_197, i7_198, i8_199, i9_200, i10_201, i11_202⟩ hP hD hS (lv_sub hl [0, 1, 2, 3] rfl)
                · simp only [i_lt, i_le, i_eq, ti_1] at c_242
                  refine lv_aload_n hx hb dX9_takeAnswers_62 rfl (lv_at hl 0 rfl) ?_
                  refine va_get (D := (dC, dI)) (ci := 7) (v := .int (G_183 j_204 2)) (C := RX7) (T := TX7) (N := 15) hx hb hg gb_7 hown hK hP (50 + 16 * j_204) (hQ.b0 hj_204) rfl 2 (by decide) (hg _ gm_fieldLink_RX9_145_ErrandGuild_Run_state_I_) (fun _ h9 => h9) rfl dX9_takeAnswers_63 ?_
                  refine lv_iconst (v := 4) hx hb dX9_takeAnswers_66 (by decide) ?_
                  refine lv_icmp_ne (tgt := 83) hx hb dX9_takeAnswers_67 (by decide) (fun c_245 => ?_) (fun c_245 => ?_)
                  · simp only [i_lt, i_le, i_eq, ti_4] at c_245
                    refine lv_aload_n hx hb dX9_takeAnswers_83 rfl (lv_at hl 0 rfl) ?_
                    refine va_get (D := (dC, dI)) (ci := 7) (v := .ref (ad (50 + 16 * j_204 + 1))) (C := RX7) (T := TX7) (N := 15) hx hb hg gb_7 hown hK hP (50 + 16 * j_204) (hQ.b0 hj_204) rfl 10 (by decide) (hg _ gm_fieldLink_RX9_151_ErrandGuild_Run_kin_LErrandGuild_Kin_) (fun _ h9 => h9) rfl dX9_takeAnswers_84 ?_
                    refine va_get (D := (dC, dI)) (ci := 4) (v := va_rf (rA9 ad (K j_204 4))) (C := RX4) (T := TX4) (N := 9) hx hb hg gb_4 hown hK hP (50 + 16 * j_204 + 1) (hQ.b1 hj_204) rfl 7 (by decide) (hg _ gm_fieldLink_RX9_228_ErrandGuild_Kin_nextSibling_LErrandGuild_Run_) (fun _ h9 => h9) rfl dX9_takeAnswers_87 ?_
                    rcases eo_246 : K j_204 4 with _ | j_247
                    · refine W.eq (g2 := F0 m 90 ls [.null]) (by first | rfl | (rw [eo_246]; rfl)) ?_
                      refine lv_astore_nN (lv' := [(3, .null), (2, .int x_180), (1, .null), (0, .ref (ad (50 + 16 * i)))]) hx hb dX9_takeAnswers_90 rfl hl (by decide) rfl (fun ls hl => ?_)
                      exact by
                       refine lv_goto (tgt := 12) hx hb dX9_takeAnswers_91 (by decide) ?_
                       exact ih_190 x_180 none none  ws_184 G_183  H locs ls (by simp only [chM] at *; omega) (fun _ h => by cases h) (fun _ h => by cases h) (by show cit K (b_take i) (f_take i) 201 none ((C9.mk n f T G_183 K F), none, x_180) = k_take i (C9.mk n f T G K F); have hX := v_188; (first | rw [cit_none] at hX | rw [cit_go i3_194 i4_195 (by omega) (by first | with_reducible assumption | omega)] at hX); (repeat (first | dsimp +instances only [c9n, c9f, c9T, c9G, c9K, c9F, b_come, b_leave, b_fill, awB, b_settle, b_wake, b_take, f_take, b_gather, f_gather, b_ask, a_ask, b_tell, c_close, d_close, k_add, k_rem, sco, k_clrF, k_mem, k_rebind, k_bnd, k_beg0, k_beg1, b_giveN, b_giveR, f_open, b_hand, k_op, b_turn, wlB, b_beat, f_anew, b_wipe, b_off, k_sadd, fits, frP, cntB, b_trace, b_child, k_lat, cond_true, cond_false, Option.elim_none, Option.elim_some, Option.getD_none, Option.getD_some] at hX | rw [eo_1] at hX | rw [eo_246] at hX | rw [if_pos (by first | with_reducible assumption | omega)] at hX | rw [if_neg (by first | with_reducible assumption | omega)] at hX | rw [jx_of (by omega)] at hX)); first | exact hX | (exfalso; omega) | exact hX) hQ ⟨i1_192, i2_193, i3_194, i4_195, i5_196, i6_197, i7_198, i8_199, i9_200, i10_201, i11_202⟩ hP hD hS (lv_sub hl [0, 1, 2, 3] rfl)
                    · refine W.eq (g2 := F0 m 90 ls [.ref (ad (50 + 16 * j_247))]) (by first | rfl | (rw [eo_246]; rfl)) ?_
                      have hj_247 : j_247 < M := i3_194 _ _ _ hj_204 eo_246
                      refine lv_astore_n (lv' := [(3, .ref (ad (50 + 16 * j_247))), (2, .int x_180), (1, .null), (0, .ref (ad (50 + 16 * i)))]) hx hb dX9_takeAnswers_90 rfl hl (by decide) rfl (fun ls hl => ?_)
                      refine lv_goto (tgt := 12) hx hb dX9_takeAnswers_91 (by decide) ?_
                      exact ih_190 x_180 none (some j_247)  ws_184 G_183  H locs ls (by have := i4_195 _ _ hj_204 eo_246; simp only [chM] at *; omega) (fun _ h => by cases h) (fun _ h => by cases h; exact hj_247) (by show cit K (b_take i) (f_take i) 201 (some j_247) ((C9.mk n f T G_183 K F), none, x_180) = k_take i (C9.mk n f T G K F); have hX := v_188; (first | rw [cit_none] at hX | rw [cit_go i3_194 i4_195 (by omega) (by first | with_reducible assumption | omega)] at hX); (repeat (first | dsimp +instances only [c9n, c9f, c9T, c9G, c9K, c9F, b_come, b_leave, b_fill, awB, b_settle, b_wake, b_take, f_take, b_gather, f_gather, b_ask, a_ask, b_tell, c_close, d_close, k_add, k_rem, sco, k_clrF, k_mem, k_rebind, k_bnd, k_beg0, k_beg1, b_giveN, b_giveR, f_open, b_hand, k_op, b_turn, wlB, b_beat, f_anew, b_wipe, b_off, k_sadd, fits, frP, cntB, b_trace, b_child, k_lat, cond_true, cond_false, Option.elim_none, Option.elim_some, Option.getD_none, Option.getD_some] at hX | rw [eo_1] at hX | rw [eo_246] at hX | rw [if_pos (by first | with_reducible assumption | omega)] at hX | rw [if_neg (by first | with_reducible assumption | omega)] at hX | rw [jx_of (by omega)] at hX)); first | exact hX | (exfalso; omega) | exact hX) hQ ⟨i1_192, i2_193, i3_194, i4_195, i5_196, i6_197, i7_198, i8_199, i9_200, i10_201, i11_202⟩ hP hD hS (lv_sub hl [0, 1, 2, 3] rfl)
                  · simp only [i_lt, i_le, i_eq, ti_4] at c_245
                    obtain ⟨y_248, ey_248⟩ : ∃ q : Int32, q = x_180 + (1) := ⟨_, rfl⟩
                    refine lv_iinc (v := y_248) (lv' := [(2, .int y_248), (3, .ref (ad (50 + 16 * j_204))), (1, .null), (0, .ref (ad (50 + 16 * i)))]) hx hb dX9_takeAnswers_70 hl (k := 1) rfl (by rw [ey_248]; rfl) (by decide) rfl (fun ls hl => ?_)
                    refine lv_aload_nN hx hb dX9_takeAnswers_73 rfl (lv_at hl 2 rfl) ?_
                    refine lv_ifnonnullN hx hb dX9_takeAnswers_74 ?_
                    refine lv_aload_n hx hb dX9_takeAnswers_77 rfl (lv_at hl 1 rfl) ?_
                    refine lv_goto (tgt := 82) hx hb dX9_takeAnswers_78 (by decide) ?_
                    exact by
                     refine lv_astore_n (lv' := [(1, .ref (ad (50 + 16 * j_204))), (2, .int y_248), (3, .ref (ad (50 + 16 * j_204))), (0, .ref (ad (50 + 16 * i)))]) hx hb dX9_takeAnswers_82 rfl hl (by decide) rfl (fun ls hl => ?_)
                     refine lv_aload_n hx hb dX9_takeAnswers_83 rfl (lv_at hl 2 rfl) ?_
                     refine va_get (D := (dC, dI)) (ci := 7) (v := .ref (ad (50 + 16 * j_204 + 1))) (C := RX7) (T := TX7) (N := 15) hx hb hg gb_7 hown hK hP (50 + 16 * j_204) (hQ.b0 hj_204) rfl 10 (by decide) (hg _ gm_fieldLink_RX9_151_ErrandGuild_Run_kin_LErrandGuild_Kin_) (fun _ h9 => h9) rfl dX9_takeAnswers_84 ?_
                     refine va_get (D := (dC, dI)) (ci := 4) (v := va_rf (rA9 ad (K j_204 4))) (C := RX4) (T := TX4) (N := 9) hx hb hg gb_4 hown hK hP (50 + 16 * j_204 + 1) (hQ.b1 hj_204) rfl 7 (by decide) (hg _ gm_fieldLink_RX9_228_ErrandGuild_Kin_nextSibling_LErrandGuild_Run_) (fun _ h9 => h9) rfl dX9_takeAnswers_87 ?_
                     rcases eo_249 : K j_204 4 with _ | j_250
                     · refine W.eq (g2 := F0 m 90 ls [.null]) (by first | rfl | (rw [eo_249]; rfl)) ?_
                       refine lv_astore_nN (lv' := [(3, .null), (1, .ref (ad (50 + 16 * j_204))), (2, .int y_248), (0, .ref (ad (50 + 16 * i)))]) hx hb dX9_takeAnswers_90 rfl hl (by decide) rfl (fun ls hl => ?_)
                       refine lv_goto (tgt := 12) hx hb dX9_takeAnswers_91 (by decide) ?_
                       exact ih_190 y_248 (some j_204) none  ws_184 G_183  H locs ls (by simp only [chM] at *; omega) (fun _ h => by cases h; exact hj_204) (fun _ h => by cases h) (by show cit K (b_take i) (f_take i) 201 none ((C9.mk n f T G_183 K F), (some j_204), y_248) = k_take i (C9.mk n f T G K F); subst ey_248; have hX := v_188; (first | rw [cit_none] at hX | rw [cit_go i3_194 i4_195 (by omega) (by first | with_reducible assumption | omega)] at hX); (repeat (first | dsimp +instances only [c9n, c9f, c9T, c9G, c9K, c9F, b_come, b_leave, b_fill, awB, b_settle, b_wake, b_take, f_take, b_gather, f_gather, b_ask, a_ask, b_tell, c_close, d_close, k_add, k_rem, sco, k_clrF, k_mem, k_rebind, k_bnd, k_beg0, k_beg1, b_giveN, b_giveR, f_open, b_hand, k_op, b_turn, wlB, b_beat, f_anew, b_wipe, b_off, k_sadd, fits, frP, cntB, b_trace, b_child, k_lat, cond_true, cond_false, Option.elim_none, Option.elim_some, Option.getD_none, Option.getD_some] at hX | rw [eo_1] at hX | rw [eo_249] at hX | rw [if_pos (by first | with_reducible assumption | omega)] at hX | rw [if_neg (by first | with_reducible assumption | omega)] at hX | rw [jx_of (by omega)] at hX)); first | exact hX | (exfalso; omega) | exact hX) hQ ⟨i1_192, i2_193, i3_194, i4_195, i5_196, i6_197, i7_198, i8_199, i9_200, i10_201, i11_202⟩ hP hD hS (lv_sub hl [0, 2, 1, 3] rfl)
                     · refine W.eq (g2 := F0 m 90 ls [.ref (ad (50 + 16 * j_250))]) (by first | rfl | (rw [eo_249]; rfl)) ?_
                       have hj_250 : j_250 < M := i3_194 _ _ _ hj_204 eo_249
                       refine lv_astore_n (lv' := [(3, .ref (ad (50 + 16 * j_250))), (1, .ref (ad (50 + 16 * j_204))), (2, .int y_248), (0, .ref (ad (50 + 16 * i)))]) hx hb dX9_takeAnswers_90 rfl hl (by decide) rfl (fun ls hl => ?_)
                       exact by
                        refine lv_goto (tgt := 12) hx hb dX9_takeAnswers_91 (by decide) ?_
                        exact ih_190 y_248 (some j_204) (some j_250)  ws_184 G_183  H locs ls (by have := i4_195 _ _ hj_204 eo_249; simp only [chM] at *; omega) (fun _ h => by cases h; exact hj_204) (fun _ h => by cases h; exact hj_250) (by show cit K (b_take i) (f_take i) 201 (some j_250) ((C9.mk n f T G_183 K F), (some j_204), y_248) = k_take i (C9.mk n f T G K F); subst ey_248; have hX := v_188; (first | rw [cit_none] at hX | rw [cit_go i3_194 i4_195 (by omega) (by first | with_reducible assumption | omega)] at hX); (repeat (first | dsimp +instances only [c9n, c9f, c9T, c9G, c9K, c9F, b_come, b_leave, b_fill, awB, b_settle, b_wake, b_take, f_take, b_gather, f_gather, b_ask, a_ask, b_tell, c_close, d_close, k_add, k_rem, sco, k_clrF, k_mem, k_rebind, k_bnd, k_beg0, k_beg1, b_giveN, b_giveR, f_open, b_hand, k_op, b_turn, wlB, b_beat, f_anew, b_wipe, b_off, k_sadd, fits, frP, cntB, b_trace, b_child, k_lat, cond_true, cond_false, Option.elim_none, Option.elim_some, Option.getD_none, Option.getD_some] at hX | rw [eo_1] at hX | rw [eo_249] at hX | rw [if_pos (by first | with_reducible assumption | omega)] at hX | rw [if_neg (by first | with_reducible assumption | omega)] at hX | rw [jx_of (by omega)] at hX)); first | exact hX | (exfalso; omega) | exact hX) hQ ⟨i1_192, i2_193, i3_194, i4_195, i5_196, i6_197, i7_198, i8_199, i9_200, i10_201, i11_202⟩ hP hD hS (lv_sub hl [0, 2, 1, 3] rfl)
             · simp only [i_lt, i_le, i_eq, ti_1] at c_241
               refine lv_aload_n hx hb dX9_takeAnswers_27 rfl (lv_at hl 0 rfl) ?_
               refine va_get (D := (dC, dI)) (ci := 7) (v := .int (G_183 j_204 2)) (C := RX7) (T := TX7) (N := 15) hx hb hg gb_7 hown hK hP (50 + 16 * j_204) (hQ.b0 hj_204) rfl 2 (by decide) (hg _ gm_fieldLink_RX9_145_ErrandGuild_Run_state_I_) (fun _ h9 => h9) rfl dX9_takeAnswers_28 ?_
               refine lv_iconst (v := 3) hx hb dX9_takeAnswers_31 (by decide) ?_
               refine lv_icmp_ne (tgt := 51) hx hb dX9_takeAnswers_32 (by decide) (fun c_251 => ?_) (fun c_251 => ?_)
               · simp only [i_lt, i_le, i_eq, ti_3] at c_251
                 refine lv_aload_n hx hb dX9_takeAnswers_51 rfl (lv_at hl 0 rfl) ?_
                 refine va_get (D := (dC, dI)) (ci := 7) (v := .ref (ad (50 + 16 * j_204 + 1))) (C := RX7) (T := TX7) (N := 15) hx hb hg gb_7 hown hK hP (50 + 16 * j_204) (hQ.b0 hj_204) rfl 10 (by decide) (hg _ gm_fieldLink_RX9_151_ErrandGuild_Run_kin_LErrandGuild_Kin_) (fun _ h9 => h9) rfl dX9_takeAnswers_52 ?_
                 refine va_get (D := (dC, dI)) (ci := 4) (v := .int (G_183 j_204 12)) (C := RX4) (T := TX4) (N := 9) hx hb hg gb_4 hown hK hP (50 + 16 * j_204 + 1) (hQ.b1 hj_204) rfl 4 (by decide) (hg _ gm_fieldLink_RX9_379_ErrandGuild_Kin_claim_I_) (fun _ h9 => h9) rfl dX9_takeAnswers_55 ?_
                 refine lv_iconst (v := 1) hx hb dX9_takeAnswers_58 (by decide) ?_
                 refine lv_icmp_ne (tgt := 83) hx hb dX9_takeAnswers_59 (by decide) (fun c_252 => ?_) (fun c_252 => ?_)
                 · simp only [i_lt, i_le, i_eq, ti_1] at c_252
                   exfalso
                   omega
                 · simp only [i_lt, i_le, i_eq, ti_1] at c_252
                   exact by
                    refine lv_aload_n hx hb dX9_takeAnswers_62 rfl (lv_at hl 0 rfl) ?_
                    refine va_get (D := (dC, dI)) (ci := 7) (v := .int (G_183 j_204 2)) (C := RX7) (T := TX7) (N := 15) hx hb hg gb_7 hown hK hP (50 + 16 * j_204) (hQ.b0 hj_204) rfl 2 (by decide) (hg _ gm_fieldLink_RX9_145_ErrandGuild_Run_state_I_) (fun _ h9 => h9) rfl dX9_takeAnswers_63 ?_
                    refine lv_iconst (v := 4) hx hb dX9_takeAnswers_66 (by decide) ?_
                    refine lv_icmp_ne (tgt := 83) hx hb dX9_takeAnswers_67 (by decide) (fun c_253 => ?_) (fun c_253 => ?_)
                    · simp only [i_lt, i_le, i_eq, ti_4] at c_253
                      refine lv_aload_n hx hb dX9_takeAnswers_83 rfl (lv_at hl 0 rfl) ?_
                      refine va_get (D := (dC, dI)) (ci := 7) (v := .ref (ad (50 + 16 * j_204 + 1))) (C := RX7) (T := TX7) (N := 15) hx hb hg gb_7 hown hK hP (50 + 16 * j_204) (hQ.b0 hj_204) rfl 10 (by decide) (hg _ gm_fieldLink_RX9_151_ErrandGuild_Run_kin_LErrandGuild_Kin_) (fun _ h9 => h9) rfl dX9_takeAnswers_84 ?_
                      refine va_get (D := (dC, dI)) (ci := 4) (v := va_rf (rA9 ad (K j_204 4))) (C := RX4) (T := TX4) (N := 9) hx hb hg gb_4 hown hK hP (50 + 16 * j_204 + 1) (hQ.b1 hj_204) rfl 7 (by decide) (hg _ gm_fieldLink_RX9_228_ErrandGuild_Kin_nextSibling_LErrandGuild_Run_) (fun _ h9 => h9) rfl dX9_takeAnswers_87 ?_
                      rcases eo_254 : K j_204 4 with _ | j_255
                      · refine W.eq (g2 := F0 m 90 ls [.null]) (by first | rfl | (rw [eo_254]; rfl)) ?_
                        refine lv_astore_nN (lv' := [(3, .null), (2, .int x_180), (1, .null), (0, .ref (ad (50 + 16 * i)))]) hx hb dX9_takeAnswers_90 rfl hl (by decide) rfl (fun ls hl => ?_)
                        refine lv_goto (tgt := 12) hx hb dX9_takeAnswers_91 (by decide) ?_
                        exact ih_190 x_180 none none  ws_184 G_183  H locs ls (by simp only [chM] at *; omega) (fun _ h => by cases h) (fun _ h => by cases h) (by show cit K (b_take i) (f_take i) 201 none ((C9.mk n f T G_183 K F), none, x_180) = k_take i (C9.mk n f T G K F); have hX := v_188; (first | rw [cit_none] at hX | rw [cit_go i3_194 i4_195 (by omega) (by first | with_reducible assumption | omega)] at hX); (repeat (first | dsimp +instances only [c9n, c9f, c9T, c9G, c9K, c9F, b_come, b_leave, b_fill, awB, b_settle, b_wake, b_take, f_take, b_gather, f_gather, b_ask, a_ask, b_tell, c_close, d_close, k_add, k_rem, sco, k_clrF, k_mem, k_rebind, k_bnd, k_beg0, k_beg1, b_giveN, b_giveR, f_open, b_hand, k_op, b_turn, wlB, b_beat, f_anew, b_wipe, b_off, k_sadd, fits, frP, cntB, b_trace, b_child, k_lat, cond_true, cond_false, Option.elim_none, Option.elim_some, Option.getD_none, Option.getD_some] at hX | rw [eo_1] at hX | rw [eo_254] at hX | rw [if_pos (by first | with_reducible assumption | omega)] at hX | rw [if_neg (by first | with_reducible assumption | omega)] at hX | rw [jx_of (by omega)] at hX)); first | exact hX | (exfalso; omega) | exact hX) hQ ⟨i1_192, i2_193, i3_194, i4_195, i5_196, i6_197, i7_198, i8_199, i9_200, i10_201, i11_202⟩ hP hD hS (lv_sub hl [0, 1, 2, 3] rfl)
                      · refine W.eq (g2 := F0 m 90 ls [.ref (ad (50 + 16 * j_255))]) (by first | rfl | (rw [eo_254]; rfl)) ?_
                        have hj_255 : j_255 < M := i3_194 _ _ _ hj_204 eo_254
                        exact by
                         refine lv_astore_n (lv' := [(3, .ref (ad (50 + 16 * j_255))), (2, .int x_180), (1, .null), (0, .ref (ad (50 + 16 * i)))]) hx hb dX9_takeAnswers_90 rfl hl (by decide) rfl (fun ls hl => ?_)
                         refine lv_goto (tgt := 12) hx hb dX9_takeAnswers_91 (by decide) ?_
                         exact ih_190 x_180 none (some j_255)  ws_184 G_183  H locs ls (by have := i4_195 _ _ hj_204 eo_254; simp only [chM] at *; omega) (fun _ h => by cases h) (fun _ h => by cases h; exact hj_255) (by show cit K (b_take i) (f_take i) 201 (some j_255) ((C9.mk n f T G_183 K F), none, x_180) = k_take i (C9.mk n f T G K F); have hX := v_188; (first | rw [cit_none] at hX | rw [cit_go i3_194 i4_195 (by omega) (by first | with_reducible assumption | omega)] at hX); (repeat (first | dsimp +instances only [c9n, c9f, c9T, c9G, c9K, c9F, b_come, b_leave, b_fill, awB, b_settle, b_wake, b_take, f_take, b_gather, f_gather, b_ask, a_ask, b_tell, c_close, d_close, k_add, k_rem, sco, k_clrF, k_mem, k_rebind, k_bnd, k_beg0, k_beg1, b_giveN, b_giveR, f_open, b_hand, k_op, b_turn, wlB, b_beat, f_anew, b_wipe, b_off, k_sadd, fits, frP, cntB, b_trace, b_child, k_lat, cond_true, cond_false, Option.elim_none, Option.elim_some, Option.getD_none, Option.getD_some] at hX | rw [eo_1] at hX | rw [eo_254] at hX | rw [if_pos (by first | with_reducible assumption | omega)] at hX | rw [if_neg (by first | with_reducible assumption | omega)] at hX | rw [jx_of (by omega)] at hX)); first | exact hX | (exfalso; omega) | exact hX) hQ ⟨i1_192, i2_193, i3_194, i4_195, i5_196, i6_197, i7_198, i8_199, i9_200, i10_201, i11_202⟩ hP hD hS (lv_sub hl [0, 1, 2, 3] rfl)
                    · simp only [i_lt, i_le, i_eq, ti_4] at c_253
                      obtain ⟨y_256, ey_256⟩ : ∃ q : Int32, q = x_180 + (1) := ⟨_, rfl⟩
                      refine lv_iinc (v := y_256) (lv' := [(2, .int y_256), (3, .ref (ad (50 + 16 * j_204))), (1, .null), (0, .ref (ad (50 + 16 * i)))]) hx hb dX9_takeAnswers_70 hl (k := 1) rfl (by rw [ey_256]; rfl) (by decide) rfl (fun ls hl => ?_)
                      refine lv_aload_nN hx hb dX9_takeAnswers_73 rfl (lv_at hl 2 rfl) ?_
                      refine lv_ifnonnullN hx hb dX9_takeAnswers_74 ?_
                      refine lv_aload_n hx hb dX9_takeAnswers_77 rfl (lv_at hl 1 rfl) ?_
                      refine lv_goto (tgt := 82) hx hb dX9_takeAnswers_78 (by decide) ?_
                      refine lv_astore_n (lv' := [(1, .ref (ad (50 + 16 * j_204))), (2, .int y_256), (3, .ref (ad (50 + 16 * j_204))), (0, .ref (ad (50 + 16 * i)))]) hx hb dX9_takeAnswers_82 rfl hl (by decide) rfl (fun ls hl => ?_)
                      refine lv_aload_n hx hb dX9_takeAnswers_83 rfl (lv_at hl 2 rfl) ?_
                      refine va_get (D := (dC, dI)) (ci := 7) (v := .ref (ad (50 + 16 * j_204 + 1))) (C := RX7) (T := TX7) (N := 15) hx hb hg gb_7 hown hK hP (50 + 16 * j_204) (hQ.b0 hj_204) rfl 10 (by decide) (hg _ gm_fieldLink_RX9_151_ErrandGuild_Run_kin_LErrandGuild_Kin_) (fun _ h9 => h9) rfl dX9_takeAnswers_84 ?_
                      refine va_get (D := (dC, dI)) (ci := 4) (v := va_rf (rA9 ad (K j_204 4))) (C := RX4) (T := TX4) (N := 9) hx hb hg gb_4 hown hK hP (50 + 16 * j_204 + 1) (hQ.b1 hj_204) rfl 7 (by decide) (hg _ gm_fieldLink_RX9_228_ErrandGuild_Kin_nextSibling_LErrandGuild_Run_) (fun _ h9 => h9) rfl dX9_takeAnswers_87 ?_
                      rcases eo_257 : K j_204 4 with _ | j_258
                      · refine W.eq (g2 := F0 m 90 ls [.null]) (by first | rfl | (rw [eo_257]; rfl)) ?_
                        exact by
                         refine lv_astore_nN (lv' := [(3, .null), (1, .ref (ad (50 + 16 * j_204))), (2, .int y_256), (0, .ref (ad (50 + 16 * i)))]) hx hb dX9_takeAnswers_90 rfl hl (by decide) rfl (fun ls hl => ?_)
                         refine lv_goto (tgt := 12) hx hb dX9_takeAnswers_91 (by decide) ?_
                         exact ih_190 y_256 (some j_204) none  ws_184 G_183  H locs ls (by simp only [chM] at *; omega) (fun _ h => by cases h; exact hj_204) (fun _ h => by cases h) (by show cit K (b_take i) (f_take i) 201 none ((C9.mk n f T G_183 K F), (some j_204), y_256) = k_take i (C9.mk n f T G K F); subst ey_256; have hX := v_188; (first | rw [cit_none] at hX | rw [cit_go i3_194 i4_195 (by omega) (by first | with_reducible assumption | omega)] at hX); (repeat (first | dsimp +instances only [c9n, c9f, c9T, c9G, c9K, c9F, b_come, b_leave, b_fill, awB, b_settle, b_wake, b_take, f_take, b_gather, f_gather, b_ask, a_ask, b_tell, c_close, d_close, k_add, k_rem, sco, k_clrF, k_mem, k_rebind, k_bnd, k_beg0, k_beg1, b_giveN, b_giveR, f_open, b_hand, k_op, b_turn, wlB, b_beat, f_anew, b_wipe, b_off, k_sadd, fits, frP, cntB, b_trace, b_child, k_lat, cond_true, cond_false, Option.elim_none, Option.elim_some, Option.getD_none, Option.getD_some] at hX | rw [eo_1] at hX | rw [eo_257] at hX | rw [if_pos (by first | with_reducible assumption | omega)] at hX | rw [if_neg (by first | with_reducible assumption | omega)] at hX | rw [jx_of (by omega)] at hX)); first | exact hX | (exfalso; omega) | exact hX) hQ ⟨i1_192, i2_193, i3_194, i4_195, i5_196, i6_197, i7_198, i8_199, i9_200, i10_201, i11_202⟩ hP hD hS (lv_sub hl [0, 2, 1, 3] rfl)
                      · refine W.eq (g2 := F0 m 90 ls [.ref (ad (50 + 16 * j_258))]) (by first | rfl | (rw [eo_257]; rfl)) ?_
                        have hj_258 : j_258 < M := i3_194 _ _ _ hj_204 eo_257
                        refine lv_astore_n (lv' := [(3, .ref (ad (50 + 16 * j_258))), (1, .ref (ad (50 + 16 * j_204))), (2, .int y_256), (0, .ref (ad (50 + 16 * i)))]) hx hb dX9_takeAnswers_90 rfl hl (by decide) rfl (fun ls hl => ?_)
                        refine lv_goto (tgt := 12) hx hb dX9_takeAnswers_91 (by decide) ?_
                        exact ih_190 y_256 (some j_204) (some j_258)  ws_184 G_183  H locs ls (by have := i4_195 _ _ hj_204 eo_257; simp only [chM] at *; omega) (fun _ h => by cases h; exact hj_204) (fun _ h => by cases h; exact hj_258) (by show cit K (b_take i) (f_take i) 201 (some j_258) ((C9.mk n f T G_183 K F), (some j_204), y_256) = k_take i (C9.mk n f T G K F); subst ey_256; have hX := v_188; (first | rw [cit_none] at hX | rw [cit_go i3_194 i4_195 (by omega) (by first | with_reducible assumption | omega)] at hX); (repeat (first | dsimp +instances only [c9n, c9f, c9T, c9G, c9K, c9F, b_come, b_leave, b_fill, awB, b_settle, b_wake, b_take, f_take, b_gather, f_gather, b_ask, a_ask, b_tell, c_close, d_close, k_add, k_rem, sco, k_clrF, k_mem, k_rebind, k_bnd, k_beg0, k_beg1, b_giveN, b_giveR, f_open, b_hand, k_op, b_turn, wlB, b_beat, f_anew, b_wipe, b_off, k_sadd, fits, frP, cntB, b_trace, b_child, k_lat, cond_true, cond_false, Option.elim_none, Option.elim_some, Option.getD_none, Option.getD_some] at hX | rw [eo_1] at hX | rw [eo_257] at hX | rw [if_pos (by first | with_reducible assumption | omega)] at hX | rw [if_neg (by first | with_reducible assumption | omega)] at hX | rw [jx_of (by omega)] at hX)); first | exact hX | (exfalso; omega) | exact hX) hQ ⟨i1_192, i2_193, i3_194, i4_195, i5_196, i6_197, i7_198, i8_199, i9_200, i10_201, i11_202⟩ hP hD hS (lv_sub hl [0, 2, 1, 3] rfl)
               · simp only [i_lt, i_le, i_eq, ti_3] at c_251
                 refine lv_aload_n hx hb dX9_takeAnswers_35 rfl (lv_at hl 3 rfl) ?_
                 refine lv_dup hx hb dX9_takeAnswers_36 rfl ?_
                 refine va_get (D := (dC, dI)) (ci := 7) (v := .int (G_183 i 5)) (C := RX7) (T := TX7) (N := 15) hx hb hg gb_7 hown hK hP (50 + 16 * i) (hQ.b0 hi) rfl 5 (by decide) (hg _ gm_fieldLink_RX9_171_ErrandGuild_Run_sum_I_) (fun _ h9 => h9) rfl dX9_takeAnswers_37 ?_
                 refine lv_aload_n hx hb dX9_takeAnswers_40 rfl (lv_at hl 0 rfl) ?_
                 refine va_get (D := (dC, dI)) (ci := 7) (v := .int (G_183 j_204 5)) (C := RX7) (T := TX7) (N := 15) hx hb hg gb_7 hown hK hP (50 + 16 * j_204) (hQ.b0 hj_204) rfl 5 (by decide) (hg _ gm_fieldLink_RX9_171_ErrandGuild_Run_sum_I_) (fun _ h9 => h9) rfl dX9_takeAnswers_41 ?_
                 refine lv_iadd hx hb dX9_takeAnswers_44 ?_
                 refine lv_topi (fun z_259 ez_259 => ?_)
                 refine va_put (D := (dC, dI)) (ci := 7) (v := .int (z_259)) (ty := .int) (C := RX7) (T := TX7) (N := 15) hx hb hg gb_7 tyX7 tyX7_ok nmX7 hown hK hP hD hS (50 + 16 * i) (hQ.b0 hi) rfl 5 (by decide) (hg _ gm_fieldLink_RX9_171_ErrandGuild_Run_sum_I_) (fun _ h9 => h9) rfl (by decide +kernel) rfl rfl (Nat.le_of_ble_eq_true rfl) dX9_takeAnswers_45 (fun H locs hP hD hS => ?_)
                 obtain ⟨ws_261, G_260, eG_260, hP, hD, hQ⟩ : ∃ (ws_261 : va_W) (G_260 : Nat → Nat → Int32), G_260 = u2 G_183 i 5 z_259 ∧ va_P (dC, dI) vwCl ws_261 H ∧ va_D A ws_261 ∧ Pic9 kc ws_261 ad ga gc M n f T G_260 K F := ⟨_, _, rfl, hP, hD, hQ.run hi 5 (by decide) z_259⟩
                 have i10_262 : i10 M G_260 K F := by rw [eG_260]; exact (i10.pG i10_201 hi _ (by decide))
                 have i11_263 : i11 M n gc f G_260 F := by rw [eG_260]; exact (i11.pG i11_202 i _ (by decide))
                 have i6_264 : i6 n T G_260 := by rw [eG_260]; exact (i6.pG i6_197 i _ (by decide))
                 have i7_265 : i7 n G_260 := by rw [eG_260]; exact (i7.pG i7_198 i _ (by decide))
                 have i8_266 : i8 M n gc G_260 := by rw [eG_260]; exact (i8.pG i8_199 i _ (by decide))
                 have i9_267 : i9 M gc G_260 R := by rw [eG_260]; exact (i9.pG i9_200 i _ (by decide))
                 have eg_268 : G_260 i 5 = z_259 := by rw [eG_260, u2_eq]
                 exact by
                  refine lv_goto (tgt := 83) hx hb dX9_takeAnswers_48 (by decide) ?_
                  refine lv_aload_n hx hb dX9_takeAnswers_83 rfl (lv_at hl 0 rfl) ?_
                  refine va_get (D := (dC, dI)) (ci := 7) (v := .ref (ad (50 + 16 * j_204 + 1))) (C := RX7) (T := TX7) (N := 15) hx hb hg gb_7 hown hK hP (50 + 16 * j_204) (hQ.b0 hj_204) rfl 10 (by decide) (hg _ gm_fieldLink_RX9_151_ErrandGuild_Run_kin_LErrandGuild_Kin_) (fun _ h9 => h9) rfl dX9_takeAnswers_84 ?_
                  refine va_get (D := (dC, dI)) (ci := 4) (v := va_rf (rA9 ad (K j_204 4))) (C := RX4) (T := TX4) (N := 9) hx hb hg gb_4 hown hK hP (50 + 16 * j_204 + 1) (hQ.b1 hj_204) rfl 7 (by decide) (hg _ gm_fieldLink_RX9_228_ErrandGuild_Kin_nextSibling_LErrandGuild_Run_) (fun _ h9 => h9) rfl dX9_takeAnswers_87 ?_
                  rcases eo_269 : K j_204 4 with _ | j_270
                  · refine W.eq (g2 := F0 m 90 ls [.null]) (by first | rfl | (rw [eo_269]; rfl)) ?_
                    refine lv_astore_nN (lv' := [(3, .null), (2, .int x_180), (1, .null), (0, .ref (ad (50 + 16 * i)))]) hx hb dX9_takeAnswers_90 rfl hl (by decide) rfl (fun ls hl => ?_)
                    refine lv_goto (tgt := 12) hx hb dX9_takeAnswers_91 (by decide) ?_
                    exact ih_190 x_180 none none  ws_261 G_260  H locs ls (by simp only [chM] at *; omega) (fun _ h => by cases h) (fun _ h => by cases h) (by show cit K (b_take i) (f_take i) 201 none ((C9.mk n f T G_260 K F), none, x_180) = k_take i (C9.mk n f T G K F); subst eG_260; subst ez_259; have hX := v_188; (first | rw [cit_none] at hX | rw [cit_go i3_194 i4_195 (by omega) (by first | with_reducible assumption | omega)] at hX); (repeat (first | dsimp +instances only [c9n, c9f, c9T, c9G, c9K, c9F, b_come, b_leave, b_fill, awB, b_settle, b_wake, b_take, f_take, b_gather, f_gather, b_ask, a_ask, b_tell, c_close, d_close, k_add, k_rem, sco, k_clrF, k_mem, k_rebind, k_bnd, k_beg0, k_beg1, b_giveN, b_giveR, f_open, b_hand, k_op, b_turn, wlB, b_beat, f_anew, b_wipe, b_off, k_sadd, fits, frP, cntB, b_trace, b_child, k_lat, cond_true, cond_false, Option.elim_none, Option.elim_some, Option.getD_none, Option.getD_some] at hX | rw [eo_1] at hX | rw [eo_269] at hX | rw [if_pos (by first | with_reducible assumption | omega)] at hX | rw [if_neg (by first | with_reducible assumption | omega)] at hX | rw [jx_of (by omega)] at hX)); first | exact hX | (exfalso; omega) | exact hX) hQ ⟨i1_192, i2_193, i3_194, i4_195, i5_196, i6_264, i7_265, i8_266, i9_267, i10_262, i11_263⟩ hP hD hS (lv_sub hl [0, 1, 2, 3] rfl)
                  · refine W.eq (g2 := F0 m 90 ls [.ref (ad (50 + 16 * j_270))]) (by first | rfl | (rw [eo_269]; rfl)) ?_
                    have hj_270 : j_270 < M := i3_194 _ _ _ hj_204 eo_269
                    refine lv_astore_n (lv' := [(3, .ref (ad (50 + 16 * j_270))), (2, .int x_180), (1, .null), (0, .ref (ad (50 + 16 * i)))]) hx hb dX9_takeAnswers_90 rfl hl (by decide) rfl (fun ls hl => ?_)
                    exact by
                     refine lv_goto (tgt := 12) hx hb dX9_takeAnswers_91 (by decide) ?_
                     exact ih_190 x_180 none (some j_270)  ws_261 G_260  H locs ls (by have := i4_195 _ _ hj_204 eo_269; simp only [chM] at *; omega) (fun _ h => by cases h) (fun _ h => by cases h; exact hj_270) (by show cit K (b_take i) (f_take i) 201 (some j_270) ((C9.mk n f T G_260 K F), none, x_180) = k_take i (C9.mk n f T G K F); subst eG_260; subst ez_259; have hX := v_188; (first | rw [cit_none] at hX | rw [cit_go i3_194 i4_195 (by omega) (by first | with_reducible assumption | omega)] at hX); (repeat (first | dsimp +instances only [c9n, c9f, c9T, c9G, c9K, c9F, b_come, b_leave, b_fill, awB, b_settle, b_wake, b_take, f_take, b_gather, f_gather, b_ask, a_ask, b_tell, c_close, d_close, k_add, k_rem, sco, k_clrF, k_mem, k_rebind, k_bnd, k_beg0, k_beg1, b_giveN, b_giveR, f_open, b_hand, k_op, b_turn, wlB, b_beat, f_anew, b_wipe, b_off, k_sadd, fits, frP, cntB, b_trace, b_child, k_lat, cond_true, cond_false, Option.elim_none, Option.elim_some, Option.getD_none, Option.getD_some] at hX | rw [eo_1] at hX | rw [eo_269] at hX | rw [if_pos (by first | with_reducible assumption | omega)] at hX | rw [if_neg (by first | with_reducible assumption | omega)] at hX | rw [jx_of (by omega)] at hX)); first | exact hX | (exfalso; omega) | exact hX) hQ ⟨i1_192, i2_193, i3_194, i4_195, i5_196, i6_264, i7_265, i8_266, i9_267, i10_262, i11_263⟩ hP hD hS (lv_sub hl [0, 1, 2, 3] rfl)
         · have hl : lv_has ls 4 [(3, va_rf (rA9 ad o_182)), (2, .int x_180), (1, .ref (ad (50 + 16 * j_203))), (0, .ref (ad (50 + 16 * i)))] := hl
           have hj_203 : j_203 < M := v_186 _ rfl
           rcases o_182 with _ | j_271
           · have hl : lv_has ls 4 [(3, .null), (2, .int x_180), (1, .ref (ad (50 + 16 * j_203))), (0, .ref (ad (50 + 16 * i)))] := hl
             refine lv_aload_nN hx hb dX9_takeAnswers_12 rfl (lv_at hl 0 rfl) ?_
             refine lv_ifnullN (tgt := 94) hx hb dX9_takeAnswers_13 (by decide) ?_
             refine lv_aload_n hx hb dX9_takeAnswers_94 rfl (lv_at hl 3 rfl) ?_
             have hFc := free_all hD hS hA
             refine va_callv (va_runS (As := [.ref (ad (50 + 16 * i))]) (rest := []) ⟨hx, hb, hml, hown, hg⟩ (c_X9_settleAwaited l dC dI kc ws_184 ad ga gc M n f T G_183 K F R i H.size (hpS H) hQ ⟨i1_192, i2_193, i3_194, i4_195, i5_196, i6_197, i7_198, i8_199, i9_200, i10_201, i11_202⟩ (by show i < M; omega)) (va_cwS 1 hg (gw_S gm_methodLink_RX9_382_yX9_settleAwaited gm_static_yX9_settleAwaited gm_initialized_RX9 gm_code_yX9_settleAwaited_cX9_settleAwaited_2_none) rfl rfl rfl (by decide +kernel) ⟨Nat.le_of_ble_eq_true rfl, Nat.le_of_ble_eq_true rfl⟩) ⟨fun a U g mk q => by obtain ⟨q0, q1, q2, qP, qK, qD, qN⟩ := q; exact ⟨q0, q1, q2, qP, va_K.moved (u := U) (U := U.calling g mk a) (Vm.Alike.refl U.vm) qK, qD, nx_same (u := U) (U := U.calling g mk a) rfl qN⟩, fun U hU hW => ⟨rfl, by rw [hU], by rw [hU], by rw [hU]; exact hP, va_K.moved hW.alike hK, hD.weaken (fun _ _ _ _ => trivial), nx_warm hW hN⟩⟩ rfl rfl hl.1 rfl (lv_room (Nat.le_of_ble_eq_true rfl)) dX9_takeAnswers_95 ⟨Nat.le_of_ble_eq_true rfl, Nat.le_of_ble_eq_true rfl⟩) hS (fun q _ h => hFc q h) hFc (fun u_273 t H1 locs ht hvm hw hB hz1 hk1 hS => ?_)
             obtain ⟨ad_274, ga_275, gc_276, M_277, n_278, f_279, T_280, G_281, K_282, F_283⟩ := u_273
             have hB : ∃ w : va_W, va_P (dC, dI) vwCl w t.heap ∧ va_D (va_A ws_184 H.size) w ∧ Pic9 kc w ad ga gc M n f T G_281 K F ∧ I9 M n f T gc G_281 K F R ∧ hpS t.heap + (260 * M + 2 * S9 M gc) ≤ hpS H + (260 * M + 2 * S9 M gc) ∧ 16 * t.heap.size + (256 * M + S9 M gc) ≤ 16 * H.size + (256 * M + S9 M gc) := hB
             rw [ht] at hB
             obtain ⟨ws_284, hP, hD, hQ, hI_285, hy1, hy2⟩ := hB
             have hD := hD.weaken (fun k q _ h => hFc _ h)
             obtain ⟨i1_286, i2_287, i3_288, i4_289, i5_290, i6_291, i7_292, i8_293, i9_294, i10_295, i11_296⟩ := id hI_285
             have q1_ := i1_286
             unfold i1 at q1_
             generalize H1 = H at hP hS ⊢
             have hc_298 : (C9.mk n f T G_281 K F) = k_settle i (C9.mk n f T G_183 K F) := hw
             exact by
              refine lv_aload_n hx hb dX9_takeAnswers_98 rfl (lv_at hl 3 rfl) ?_
              refine lv_iconst (v := 0) hx hb dX9_takeAnswers_99 (by decide) ?_
              refine va_put (D := (dC, dI)) (ci := 7) (v := .int (0)) (ty := .boolean) (C := RX7) (T := TX7) (N := 15) hx hb hg gb_7 tyX7 tyX7_ok nmX7 hown hK hP hD hS (50 + 16 * i) (hQ.b0 hi) rfl 9 (by decide) (hg _ gm_fieldLink_RX9_289_ErrandGuild_Run_returning_Z_) (fun _ h9 => h9) rfl (by decide +kernel) rfl rfl (Nat.le_of_ble_eq_true rfl) dX9_takeAnswers_100 (fun H locs hP hD hS => ?_)
              obtain ⟨ws_300, G_299, eG_299, hP, hD, hQ⟩ : ∃ (ws_300 : va_W) (G_299 : Nat → Nat → Int32), G_299 = u2 G_281 i 9 0 ∧ va_P (dC, dI) vwCl ws_300 H ∧ va_D A ws_300 ∧ Pic9 kc ws_300 ad ga gc M n f T G_299 K F := ⟨_, _, rfl, hP, hD, hQ.run hi 9 (by decide) 0⟩
              have i10_301 : i10 M G_299 K F := by rw [eG_299]; exact (i10.pG i10_295 hi _ (by decide))
              have i11_302 : i11 M n gc f G_299 F := by rw [eG_299]; exact (i11.pG i11_296 i _ (by decide))
              have i6_303 : i6 n T G_299 := by rw [eG_299]; exact (i6.pG i6_291 i _ (by decide))
              have i7_304 : i7 n G_299 := by rw [eG_299]; exact (i7.pG i7_292 i _ (by decide))
              have i8_305 : i8 M n gc G_299 := by rw [eG_299]; exact (i8.pG i8_293 i _ (by decide))
              have i9_306 : i9 M gc G_299 R := by rw [eG_299]; exact (i9.pG i9_294 i _ (by decide))
              have eg_307 : G_299 i 9 = 0 := by rw [eG_299, u2_eq]
              refine lv_aload_n hx hb dX9_takeAnswers_103 rfl (lv_at hl 2 rfl) ?_
              exact by
               refine lv_ifnonnull (tgt := 109) hx hb dX9_takeAnswers_104 (by decide) ?_
               refine lv_aload_n hx hb dX9_takeAnswers_109 rfl (lv_at hl 3 rfl) ?_
               refine va_get (D := (dC, dI)) (ci := 7) (v := .ref (ad (50 + 16 * i + 13))) (C := RX7) (T := TX7) (N := 15) hx hb hg gb_7 hown hK hP (50 + 16 * i) (hQ.b0 hi) rfl 13 (by decide) (hg _ gm_fieldLink_RX9_201_ErrandGuild_Run_fault_LErrandGuild_Fault_) (fun _ h9 => h9) rfl dX9_takeAnswers_110 ?_
               refine lv_aload_n hx hb dX9_takeAnswers_113 rfl (lv_at hl 2 rfl) ?_
               refine va_get (D := (dC, dI)) (ci := 7) (v := .int (G_299 j_203 0)) (C := RX7) (T := TX7) (N := 15) hx hb hg gb_7 hown hK hP (50 + 16 * j_203) (hQ.b0 hj_203) rfl 0 (by decide) (hg _ gm_fieldLink_RX9_118_ErrandGuild_Run_number_I_) (fun _ h9 => h9) rfl dX9_takeAnswers_114 ?_
               refine va_put (D := (dC, dI)) (ci := 2) (v := .int (G_299 j_203 0)) (ty := .int) (C := RX2) (T := TX2) (N := 5) hx hb hg gb_2 tyX2 tyX2_ok nmX2 hown hK hP hD hS (50 + 16 * i + 13) (hQ.b13 hi) rfl 2 (by decide) (hg _ gm_fieldLink_RX9_213_ErrandGuild_Fault_cause_I_) (fun _ h9 => h9) rfl (by decide +kernel) rfl rfl (Nat.le_of_ble_eq_true rfl) dX9_takeAnswers_117 (fun H locs hP hD hS => ?_)
               obtain ⟨ws_309, G_308, eG_308, hP, hD, hQ⟩ : ∃ (ws_309 : va_W) (G_308 : Nat → Nat → Int32), G_308 = u2 G_299 i 19 (G_299 j_203 0) ∧ va_P (dC, dI) vwCl ws_309 H ∧ va_D A ws_309 ∧ Pic9 kc ws_309 ad ga gc M n f T G_308 K F := ⟨_, _, rfl, hP, hD, hQ.fltI hi 2 (by decide) (G_299 j_203 0)⟩
               have i10_310 : i10 M G_308 K F := by rw [eG_308]; exact (i10.pG i10_301 hi _ (by decide))
               have i11_311 : i11 M n gc f G_308 F := by rw [eG_308]; exact (i11.pG i11_302 i _ (by decide))
               have i6_312 : i6 n T G_308 := by rw [eG_308]; exact (i6.pG i6_303 i _ (by decide))
               have i7_313 : i7 n G_308 := by rw [eG_308]; exact (i7.pG i7_304 i _ (by decide))
               have i8_314 : i8 M n gc G_308 := by rw [eG_308]; exact (i8.pG i8_305 i _ (by decide))
               have i9_315 : i9 M gc G_308 R := by rw [eG_308]; exact (i9.pG i9_306 i _ (by decide))
               have eg_316 : G_308 i 19 = (G_299 j_203 0) := by rw [eG_308, u2_eq]
               exact by
                refine lv_aload_n hx hb dX9_takeAnswers_120 rfl (lv_at hl 3 rfl) ?_
                refine va_get (D := (dC, dI)) (ci := 7) (v := .ref (ad (50 + 16 * i + 13))) (C := RX7) (T := TX7) (N := 15) hx hb hg gb_7 hown hK hP (50 + 16 * i) (hQ.b0 hi) rfl 13 (by decide) (hg _ gm_fieldLink_RX9_201_ErrandGuild_Run_fault_LErrandGuild_Fault_) (fun _ h9 => h9) rfl dX9_takeAnswers_121 ?_
                refine lv_iload_n hx hb dX9_takeAnswers_124 rfl (lv_at hl 1 rfl) ?_
                refine lv_iconst (v := 1) hx hb dX9_takeAnswers_125 (by decide) ?_
                refine lv_isub hx hb dX9_takeAnswers_126 ?_
                refine lv_topi (fun z_317 ez_317 => ?_)
                refine va_put (D := (dC, dI)) (ci := 2) (v := .int (z_317)) (ty := .int) (C := RX2) (T := TX2) (N := 5) hx hb hg gb_2 tyX2 tyX2_ok nmX2 hown hK hP hD hS (50 + 16 * i + 13) (hQ.b13 hi) rfl 3 (by decide) (hg _ gm_fieldLink_RX9_216_ErrandGuild_Fault_suppressed_I_) (fun _ h9 => h9) rfl (by decide +kernel) rfl rfl (Nat.le_of_ble_eq_true rfl) dX9_takeAnswers_127 (fun H locs hP hD hS => ?_)
                obtain ⟨ws_319, G_318, eG_318, hP, hD, hQ⟩ : ∃ (ws_319 : va_W) (G_318 : Nat → Nat → Int32), G_318 = u2 G_308 i 20 z_317 ∧ va_P (dC, dI) vwCl ws_319 H ∧ va_D A ws_319 ∧ Pic9 kc ws_319 ad ga gc M n f T G_318 K F := ⟨_, _, rfl, hP, hD, hQ.fltI hi 3 (by decide) z_317⟩
                have i10_320 : i10 M G_318 K F := by rw [eG_318]; exact (i10.pG i10_310 hi _ (by decide))
                have i11_321 : i11 M n gc f G_318 F := by rw [eG_318]; exact (i11.pG i11_311 i _ (by decide))
                have i6_322 : i6 n T G_318 := by rw [eG_318]; exact (i6.pG i6_312 i _ (by decide))
                have i7_323 : i7 n G_318 := by rw [eG_318]; exact (i7.pG i7_313 i _ (by decide))
                have i8_324 : i8 M n gc G_318 := by rw [eG_318]; exact (i8.pG i8_314 i _ (by decide))
                have i9_325 : i9 M gc G_318 R := by rw [eG_318]; exact (i9.pG i9_315 i _ (by decide))
                have eg_326 : G_318 i 20 = z_317 := by rw [eG_318, u2_eq]
                exact by
                 refine lv_aload_n hx hb dX9_takeAnswers_130 rfl (lv_at hl 2 rfl) ?_
                 refine va_get (D := (dC, dI)) (ci := 7) (v := .ref (ad (50 + 16 * j_203 + 13))) (C := RX7) (T := TX7) (N := 15) hx hb hg gb_7 hown hK hP (50 + 16 * j_203) (hQ.b0 hj_203) rfl 13 (by decide) (hg _ gm_fieldLink_RX9_201_ErrandGuild_Run_fault_LErrandGuild_Fault_) (fun _ h9 => h9) rfl dX9_takeAnswers_131 ?_
                 refine va_get (D := (dC, dI)) (ci := 2) (v := .int (G_318 j_203 17)) (C := RX2) (T := TX2) (N := 5) hx hb hg gb_2 hown hK hP (50 + 16 * j_203 + 13) (hQ.b13 hj_203) rfl 0 (by decide) (hg _ gm_fieldLink_RX9_205_ErrandGuild_Fault_kind_I_) (fun _ h9 => h9) rfl dX9_takeAnswers_134 ?_
                 refine W_msr2 (fun hm1 hm2 hm3 => ?_)
                 exact W.iret (v := G_318 j_203 17) hx hb hr (fun t ht hW => ⟨⟨G_318 j_203 17, (ad, ga, gc, M, n, f, T, G_318, K, F), rfl, (by show ((C9.mk n f T G_318 K F), G_318 j_203 17) = k_take i (C9.mk n f T G K F); subst eG_299; subst eG_308; subst eG_318; subst ez_317; have hX := v_188; (first | rw [cit_none] at hX | rw [cit_go i3_288 i4_289 (by omega) (by first | with_reducible assumption | omega)] at hX); (repeat (first | dsimp +instances only [c9n, c9f, c9T, c9G, c9K, c9F, b_come, b_leave, b_fill, awB, b_settle, b_wake, b_take, f_take, b_gather, f_gather, b_ask, a_ask, b_tell, c_close, d_close, k_add, k_rem, sco, k_clrF, k_mem, k_rebind, k_bnd, k_beg0, k_beg1, b_giveN, b_giveR, f_open, b_hand, k_op, b_turn, wlB, b_beat, f_anew, b_wipe, b_off, k_sadd, fits, frP, cntB, b_trace, b_child, k_lat, cond_true, cond_false, Option.elim_none, Option.elim_some, Option.getD_none, Option.getD_some] at hX | rw [eo_1] at hX | rw [← hc_298] at hX | rw [if_pos (by first | with_reducible assumption | omega)] at hX | rw [if_neg (by first | with_reducible assumption | omega)] at hX | rw [jx_of (by omega)] at hX)); first | exact hX | (exfalso; omega) | exact hX), ws_319, by rw [ht]; exact hP, hD, hQ, ⟨i1_286, i2_287, i3_288, i4_289, i5_290, i6_322, i7_323, i8_324, i9_325, i10_320, i11_321⟩, by rw [ht]; show hpS H + (260 * M + 2 * S9 M gc) ≤ hpS s.heap + (260 * M + 2 * S9 M gc); omega, by rw [ht]; show 16 * H.size + (256 * M + S9 M gc) ≤ 16 * s.heap.size + (256 * M + S9 M gc); omega⟩, hS.F ht⟩) hS.2.2 dX9_takeAnswers_137
           · have hl : lv_has ls 4 [(3, .ref (ad (50 + 16 * j_271))), (2, .int x_180), (1, .ref (ad (50 + 16 * j_203))), (0, .ref (ad (50 + 16 * i)))] := hl
             have hj_271 : j_271 < M := v_187 _ rfl
             refine lv_aload_n hx hb dX9_takeAnswers_12 rfl (lv_at hl 0 rfl) ?_
             refine lv_ifnull hx hb dX9_takeAnswers_13 ?_
             refine lv_aload_n hx hb dX9_takeAnswers_16 rfl (lv_at hl 0 rfl) ?_
             refine va_get (D := (dC, dI)) (ci := 7) (v := .ref (ad (50 + 16 * j_271 + 1))) (C := RX7) (T := TX7) (N := 15) hx hb hg gb_7 hown hK hP (50 + 16 * j_271) (hQ.b0 hj_271) rfl 10 (by decide) (hg _ gm_fieldLink_RX9_151_ErrandGuild_Run_kin_LErrandGuild_Kin_) (fun _ h9 => h9) rfl dX9_takeAnswers_17 ?_
             refine va_get (D := (dC, dI)) (ci := 4) (v := .int (G_183 j_271 12)) (C := RX4) (T := TX4) (N := 9) hx hb hg gb_4 hown hK hP (50 + 16 * j_271 + 1) (hQ.b1 hj_271) rfl 4 (by decide) (hg _ gm_fieldLink_RX9_379_ErrandGuild_Kin_claim_I_) (fun _ h9 => h9) rfl dX9_takeAnswers_20 ?_
             refine lv_iconst (v := 1) hx hb dX9_takeAnswers_23 (by decide) ?_
             refine lv_icmp_ne (tgt := 51) hx hb dX9_takeAnswers_24 (by decide) (fun c_327 => ?_) (fun c_327 => ?_)
             · simp only [i_lt, i_le, i_eq, ti_1] at c_327
               refine lv_aload_n hx hb dX9_takeAnswers_51 rfl (lv_at hl 0 rfl) ?_
               refine va_get (D := (dC, dI)) (ci := 7) (v := .ref (ad (50 + 16 * j_271 + 1))) (C := RX7) (T := TX7) (N := 15) hx hb hg gb_7 hown hK hP (50 + 16 * j_271) (hQ.b0 hj_271) rfl 10 (by decide) (hg _ gm_fieldLink_RX9_151_ErrandGuild_Run_kin_LErrandGuild_Kin_) (fun _ h9 => h9) rfl dX9_takeAnswers_52 ?_
               exact by
                refine va_get (D := (dC, dI)) (ci := 4) (v := .int (G_183 j_271 12)) (C := RX4) (T := TX4) (N := 9) hx hb hg gb_4 hown hK hP (50 + 16 * j_271 + 1) (hQ.b1 hj_271) rfl 4 (by decide) (hg _ gm_fieldLink_RX9_379_ErrandGuild_Kin_claim_I_) (fun _ h9 => h9) rfl dX9_takeAnswers_55 ?_
                refine lv_iconst (v := 1) hx hb dX9_takeAnswers_58 (by decide) ?_
                refine lv_icmp_ne (tgt := 83) hx hb dX9_takeAnswers_59 (by decide) (fun c_328 => ?_) (fun c_328 => ?_)
                · simp only [i_lt, i_le, i_eq, ti_1] at c_328
                  refine lv_aload_n hx hb dX9_takeAnswers_83 rfl (lv_at hl 0 rfl) ?_
                  refine va_get (D := (dC, dI)) (ci := 7) (v := .ref (ad (50 + 16 * j_271 + 1))) (C := RX7) (T := TX7) (N := 15) hx hb hg gb_7 hown hK hP (50 + 16 * j_271) (hQ.b0 hj_271) rfl 10 (by decide) (hg _ gm_fieldLink_RX9_151_ErrandGuild_Run_kin_LErrandGuild_Kin_) (fun _ h9 => h9) rfl dX9_takeAnswers_84 ?_
                  refine va_get (D := (dC, dI)) (ci := 4) (v := va_rf (rA9 ad (K j_271 4))) (C := RX4) (T := TX4) (N := 9) hx hb hg gb_4 hown hK hP (50 + 16 * j_271 + 1) (hQ.b1 hj_271) rfl 7 (by decide) (hg _ gm_fieldLink_RX9_228_ErrandGuild_Kin_nextSibling_LErrandGuild_Run_) (fun _ h9 => h9) rfl dX9_takeAnswers_87 ?_
                  rcases eo_329 : K j_271 4 with _ | j_330
                  · refine W.eq (g2 := F0 m 90 ls [.null]) (by first | rfl | (rw [eo_329]; rfl)) ?_
                    refine lv_astore_nN (lv' := [(3, .null), (2, .int x_180), (1, .ref (ad (50 + 16 * j_203))), (0, .ref (ad (50 + 16 * i)))]) hx hb dX9_takeAnswers_90 rfl hl (by decide) rfl (fun ls hl => ?_)
                    refine lv_goto (tgt := 12) hx hb dX9_takeAnswers_91 (by decide) ?_
                    exact ih_190 x_180 (some j_203) none  ws_184 G_183  H locs ls (by simp only [chM] at *; omega) (fun _ h => by cases h; exact hj_203) (fun _ h => by cases h) (by show cit K (b_take i) (f_take i) 201 none ((C9.mk n f T G_183 K F), (some j_203), x_180) = k_take i (C9.mk n f T G K F); have hX := v_188; (first | rw [cit_none] at hX | rw [cit_go i3_194 i4_195 (by omega) (by first | with_reducible assumption | omega)] at hX); (repeat (first | dsimp +instances only [c9n, c9f, c9T, c9G, c9K, c9F, b_come, b_leave, b_fill, awB, b_settle, b_wake, b_take, f_take, b_gather, f_gather, b_ask, a_ask, b_tell, c_close, d_close, k_add, k_rem, sco, k_clrF, k_mem, k_rebind, k_bnd, k_beg0, k_beg1, b_giveN, b_giveR, f_open, b_hand, k_op, b_turn, wlB, b_beat, f_anew, b_wipe, b_off, k_sadd, fits, frP, cntB, b_trace, b_child, k_lat, cond_true, cond_false, Option.elim_none, Option.elim_some, Option.getD_none, Option.getD_some] at hX | rw [eo_1] at hX | rw [eo_329] at hX | rw [if_pos (by first | with_reducible assumption | omega)] at hX | rw [if_neg (by first | with_reducible assumption | omega)] at hX | rw [jx_of (by omega)] at hX)); first | exact hX | (exfalso; omega) | exact hX) hQ ⟨i1_192, i2_193, i3_194, i4_195, i5_196, i6_197, i7_198, i8_199, i9_200, i10_201, i11_202⟩ hP hD hS (lv_sub hl [0, 1, 2, 3] rfl)
                  · refine W.eq (g2 := F0 m 90 ls [.ref (ad (50 + 16 * j_330))]) (by first | rfl | (rw [eo_329]; rfl)) ?_
                    have hj_330 : j_330 < M := i3_194 _ _ _ hj_271 eo_329
                    exact by
                     refine lv_astore_n (lv' := [(3, .ref (ad (50 + 16 * j_330))), (2, .int x_180), (1, .ref (ad (50 + 16 * j_203))), (0, .ref (ad (50 + 16 * i)))]) hx hb dX9_takeAnswers_90 rfl hl (by decide) rfl (fun ls hl => ?_)
                     refine lv_goto (tgt := 12) hx hb dX9_takeAnswers_91 (by decide) ?_
                     exact ih_190 x_180 (some j_203) (some j_330)  ws_184 G_183  H locs ls (by have := i4_195 _ _ hj_271 eo_329; simp only [chM] at *; omega) (fun _ h => by cases h; exact hj_203) (fun _ h => by cases h; exact hj_330) (by show cit K (b_take i) (f_take i) 201 (some j_330) ((C9.mk n f T G_183 K F), (some j_203), x_180) = k_take i (C9.mk n f T G K F); have hX := v_188; (first | rw [cit_none] at hX | rw [cit_go i3_194 i4_195 (by omega) (by first | with_reducible assumption | omega)] at hX); (repeat (first | dsimp +instances only [c9n, c9f, c9T, c9G, c9K, c9F, b_come, b_leave, b_fill, awB, b_settle, b_wake, b_take, f_take, b_gather, f_gather, b_ask, a_ask, b_tell, c_close, d_close, k_add, k_rem, sco, k_clrF, k_mem, k_rebind, k_bnd, k_beg0, k_beg1, b_giveN, b_giveR, f_open, b_hand, k_op, b_turn, wlB, b_beat, f_anew, b_wipe, b_off, k_sadd, fits, frP, cntB, b_trace, b_child, k_lat, cond_true, cond_false, Option.elim_none, Option.elim_some, Option.getD_none, Option.getD_some] at hX | rw [eo_1] at hX | rw [eo_329] at hX | rw [if_pos (by first | with_reducible assumption | omega)] at hX | rw [if_neg (by first | with_reducible assumption | omega)] at hX | rw [jx_of (by omega)] at hX)); first | exact hX | (exfalso; omega) | exact hX) hQ ⟨i1_192, i2_193, i3_194, i4_195, i5_196, i6_197, i7_198, i8_199, i9_200, i10_201, i11_202⟩ hP hD hS (lv_sub hl [0, 1, 2, 3] rfl)
                · simp only [i_lt, i_le, i_eq, ti_1] at c_328
                  refine lv_aload_n hx hb dX9_takeAnswers_62 rfl (lv_at hl 0 rfl) ?_
                  refine va_get (D := (dC, dI)) (ci := 7) (v := .int (G_183 j_271 2)) (C := RX7) (T := TX7) (N := 15) hx hb hg gb_7 hown hK hP (50 + 16 * j_271) (hQ.b0 hj_271) rfl 2 (by decide) (hg _ gm_fieldLink_RX9_145_ErrandGuild_Run_state_I_) (fun _ h9 => h9) rfl dX9_takeAnswers_63 ?_
                  refine lv_iconst (v := 4) hx hb dX9_takeAnswers_66 (by decide) ?_
                  refine lv_icmp_ne (tgt := 83) hx hb dX9_takeAnswers_67 (by decide) (fun c_331 => ?_) (fun c_331 => ?_)
                  · simp only [i_lt, i_le, i_eq, ti_4] at c_331
                    refine lv_aload_n hx hb dX9_takeAnswers_83 rfl (lv_at hl 0 rfl) ?_
                    refine va_get (D := (dC, dI)) (ci := 7) (v := .ref (ad (50 + 16 * j_271 + 1))) (C := RX7) (T := TX7) (N := 15) hx hb hg gb_7 hown hK hP (50 + 16 * j_271) (hQ.b0 hj_271) rfl 10 (by decide) (hg _ gm_fieldLink_RX9_151_ErrandGuild_Run_kin_LErrandGuild_Kin_) (fun _ h9 => h9) rfl dX9_takeAnswers_84 ?_
                    refine va_get (D := (dC, dI)) (ci := 4) (v := va_rf (rA9 ad (K j_271 4))) (C := RX4) (T := TX4) (N := 9) hx hb hg gb_4 hown hK hP (50 + 16 * j_271 + 1) (hQ.b1 hj_271) rfl 7 (by decide) (hg _ gm_fieldLink_RX9_228_ErrandGuild_Kin_nextSibling_LErrandGuild_Run_) (fun _ h9 => h9) rfl dX9_takeAnswers_87 ?_
                    rcases eo_332 : K j_271 4 with _ | j_333
                    · refine W.eq (g2 := F0 m 90 ls [.null]) (by first | rfl | (rw [eo_332]; rfl)) ?_
                      refine lv_astore_nN (lv' := [(3, .null), (2, .int x_180), (1, .ref (ad (50 + 16 * j_203))), (0, .ref (ad (50 + 16 * i)))]) hx hb dX9_takeAnswers_90 rfl hl (by decide) rfl (fun ls hl => ?_)
                      exact by
                       refine lv_goto (tgt := 12) hx hb dX9_takeAnswers_91 (by decide) ?_
                       exact ih_190 x_180 (some j_203) none  ws_184 G_183  H locs ls (by simp only [chM] at *; omega) (fun _ h => by cases h; exact hj_203) (fun _ h => by cases h) (by show cit K (b_take i) (f_take i) 201 none ((C9.mk n f T G_183 K F), (some j_203), x_180) = k_take i (C9.mk n f T G K F); have hX := v_188; (first | rw [cit_none] at hX | rw [cit_go i3_194 i4_195 (by omega) (by first | with_reducible assumption | omega)] at hX); (repeat (first | dsimp +instances only [c9n, c9f, c9T, c9G, c9K, c9F, b_come, b_leave, b_fill, awB, b_settle, b_wake, b_take, f_take, b_gather, f_gather, b_ask, a_ask, b_tell, c_close, d_close, k_add, k_rem, sco, k_clrF, k_mem, k_rebind, k_bnd, k_beg0, k_beg1, b_giveN, b_giveR, f_open, b_hand, k_op, b_turn, wlB, b_beat, f_anew, b_wipe, b_off, k_sadd, fits, frP, cntB, b_trace, b_child, k_lat, cond_true, cond_false, Option.elim_none, Option.elim_some, Option.getD_none, Option.getD_some] at hX | rw [eo_1] at hX | rw [eo_332] at hX | rw [if_pos (by first | with_reducible assumption | omega)] at hX | rw [if_neg (by first | with_reducible assumption | omega)] at hX | rw [jx_of (by omega)] at hX)); first | exact hX | (exfalso; omega) | exact hX) hQ ⟨i1_192, i2_193, i3_194, i4_195, i5_196, i6_197, i7_198, i8_199, i9_200, i10_201, i11_202⟩ hP hD hS (lv_sub hl [0, 1, 2, 3] rfl)
                    · refine W.eq (g2 := F0 m 90 ls [.ref (ad (50 + 16 * j_333))]) (by first | rfl | (rw [eo_332]; rfl)) ?_
                      have hj_333 : j_333 < M := i3_194 _ _ _ hj_271 eo_332
                      refine lv_astore_n (lv' := [(3, .ref (ad (50 + 16 * j_333))), (2, .int x_180), (1, .ref (ad (50 + 16 * j_203))), (0, .ref (ad (50 + 16 * i)))]) hx hb dX9_takeAnswers_90 rfl hl (by decide) rfl (fun ls hl => ?_)
                      refine lv_goto (tgt := 12) hx hb dX9_takeAnswers_91 (by decide) ?_
                      exact ih_190 x_180 (some j_203) (some j_333)  ws_184 G_183  H locs ls (by have := i4_195 _ _ hj_271 eo_332; simp only [chM] at *; omega) (fun _ h => by cases h; exact hj_203) (fun _ h => by cases h; exact hj_333) (by show cit K (b_take i) (f_take i) 201 (some j_333) ((C9.mk n f T G_183 K F), (some j_203), x_180) = k_take i (C9.mk n f T G K F); have hX := v_188; (first | rw [cit_none] at hX | rw [cit_go i3_194 i4_195 (by omega) (by first | with_reducible assumption | omega)] at hX); (repeat (first | dsimp +instances only [c9n, c9f, c9T, c9G, c9K, c9F, b_come, b_leave, b_fill, awB, b_settle, b_wake, b_take, f_take, b_gather, f_gather, b_ask, a_ask, b_tell, c_close, d_close, k_add, k_rem, sco, k_clrF, k_mem, k_rebind, k_bnd, k_beg0, k_beg1, b_giveN, b_giveR, f_open, b_hand, k_op, b_turn, wlB, b_beat, f_anew, b_wipe, b_off, k_sadd, fits, frP, cntB, b_trace, b_child, k_lat, cond_true, cond_false, Option.elim_none, Option.elim_some, Option.getD_none, Option.getD_some] at hX | rw [eo_1] at hX | rw [eo_332] at hX | rw [if_pos (by first | with_reducible assumption | omega)] at hX | rw [if_neg (by first | with_reducible assumption | omega)] at hX | rw [jx_of (by omega)] at hX)); first | exact hX | (exfalso; omega) | exact hX) hQ ⟨i1_192, i2_193, i3_194, i4_195, i5_196, i6_197, i7_198, i8_199, i9_200, i10_201, i11_202⟩ hP hD hS (lv_sub hl [0, 1, 2, 3] rfl)
                  · simp only [i_lt, i_le, i_eq, ti_4] at c_331
                    obtain ⟨y_334, ey_334⟩ : ∃ q : Int32, q = x_180 + (1) := ⟨_, rfl⟩
                    refine lv_iinc (v := y_334) (lv' := [(2, .int y_334), (3, .ref (ad (50 + 16 * j_271))), (1, .ref (ad (50 + 16 * j_203))), (0, .ref (ad (50 + 16 * i)))]) hx hb dX9_takeAnswers_70 hl (k := 1) rfl (by rw [ey_334]; rfl) (by decide) rfl (fun ls hl => ?_)
                    refine lv_aload_n hx hb dX9_takeAnswers_73 rfl (lv_at hl 2 rfl) ?_
                    refine lv_ifnonnull (tgt := 81) hx hb dX9_takeAnswers_74 (by decide) ?_
                    refine lv_aload_n hx hb dX9_takeAnswers_81 rfl (lv_at hl 2 rfl) ?_
                    refine lv_astore_n (lv' := [(1, .ref (ad (50 + 16 * j_203))), (2, .int y_334), (3, .ref (ad (50 + 16 * j_271))), (0, .ref (ad (50 + 16 * i)))]) hx hb dX9_takeAnswers_82 rfl hl (by decide) rfl (fun ls hl => ?_)
                    exact by
                     refine lv_aload_n hx hb dX9_takeAnswers_83 rfl (lv_at hl 2 rfl) ?_
                     refine va_get (D := (dC, dI)) (ci := 7) (v := .ref (ad (50 + 16 * j_271 + 1))) (C := RX7) (T := TX7) (N := 15) hx hb hg gb_7 hown hK hP (50 + 16 * j_271) (hQ.b0 hj_271) rfl 10 (by decide) (hg _ gm_fieldLink_RX9_151_ErrandGuild_Run_kin_LErrandGuild_Kin_) (fun _ h9 => h9) rfl dX9_takeAnswers_84 ?_
                     refine va_get (D := (dC, dI)) (ci := 4) (v := va_rf (rA9 ad (K j_271 4))) (C := RX4) (T := TX4) (N := 9) hx hb hg gb_4 hown hK hP (50 + 16 * j_271 + 1) (hQ.b1 hj_271) rfl 7 (by decide) (hg _ gm_fieldLink_RX9_228_ErrandGuild_Kin_nextSibling_LErrandGuild_Run_) (fun _ h9 => h9) rfl dX9_takeAnswers_87 ?_
                     rcases eo_335 : K j_271 4 with _ | j_336
                     · refine W.eq (g2 := F0 m 90 ls [.null]) (by first | rfl | (rw [eo_335]; rfl)) ?_
                       refine lv_astore_nN (lv' := [(3, .null), (1, .ref (ad (50 + 16 * j_203))), (2, .int y_334), (0, .ref (ad (50 + 16 * i)))]) hx hb dX9_takeAnswers_90 rfl hl (by decide) rfl (fun ls hl => ?_)
                       refine lv_goto (tgt := 12) hx hb dX9_takeAnswers_91 (by decide) ?_
                       exact ih_190 y_334 (some j_203) none  ws_184 G_183  H locs ls (by simp only [chM] at *; omega) (fun _ h => by cases h; exact hj_203) (fun _ h => by cases h) (by show cit K (b_take i) (f_take i) 201 none ((C9.mk n f T G_183 K F), (some j_203), y_334) = k_take i (C9.mk n f T G K F); subst ey_334; have hX := v_188; (first | rw [cit_none] at hX | rw [cit_go i3_194 i4_195 (by omega) (by first | with_reducible assumption | omega)] at hX); (repeat (first | dsimp +instances only [c9n, c9f, c9T, c9G, c9K, c9F, b_come, b_leave, b_fill, awB, b_settle, b_wake, b_take, f_take, b_gather, f_gather, b_ask, a_ask, b_tell, c_close, d_close, k_add, k_rem, sco, k_clrF, k_mem, k_rebind, k_bnd, k_beg0, k_beg1, b_giveN, b_giveR, f_open, b_hand, k_op, b_turn, wlB, b_beat, f_anew, b_wipe, b_off, k_sadd, fits, frP, cntB, b_trace, b_child, k_lat, cond_true, cond_false, Option.elim_none, Option.elim_some, Option.getD_none, Option.getD_some] at hX | rw [eo_1] at hX | rw [eo_335] at hX | rw [if_pos (by first | with_reducible assumption | omega)] at hX | rw [if_neg (by first | with_reducible assumption | omega)] at hX | rw [jx_of (by omega)] at hX)); first | exact hX | (exfalso; omega) | exact hX) hQ ⟨i1_192, i2_193, i3_194, i4_195, i5_196, i6_197, i7_198, i8_199, i9_200, i10_201, i11_202⟩ hP hD hS (lv_sub hl [0, 2, 1, 3] rfl)
                     · refine W.eq (g2 := F0 m 90 ls [.ref (ad (50 + 16 * j_336))]) (by first | rfl | (rw [eo_335]; rfl)) ?_
                       have hj_336 : j_336 < M := i3_194 _ _ _ hj_271 eo_335
                       refine lv_astore_n (lv' := [(3, .ref (ad (50 + 16 * j_336))), (1, .ref (ad (50 + 16 * j_203))), (2, .int y_334), (0, .ref (ad (50 + 16 * i)))]) hx hb dX9_takeAnswers_90 rfl hl (by decide) rfl (fun ls hl => ?_)
                       refine lv_goto (tgt := 12) hx hb dX9_takeAnswers_91 (by decide) ?_
                       exact ih_190 y_334 (some j_203) (some j_336)  ws_184 G_183  H locs ls (by have := i4_195 _ _ hj_271 eo_335; simp only [chM] at *; omega) (fun _ h => by cases h; exact hj_203) (fun _ h => by cases h; exact hj_336) (by show cit K (b_take i) (f_take i) 201 (some j_336) ((C9.mk n f T G_183 K F), (some j_203), y_334) = k_take i (C9.mk n f T G K F); subst ey_334; have hX := v_188; (first | rw [cit_none] at hX | rw [cit_go i3_194 i4_195 (by omega) (by first | with_reducible assumption | omega)] at hX); (repeat (first | dsimp +instances only [c9n, c9f, c9T, c9G, c9K, c9F, b_come, b_leave, b_fill, awB, b_settle, b_wake, b_take, f_take, b_gather, f_gather, b_ask, a_ask, b_tell, c_close, d_close, k_add, k_rem, sco, k_clrF, k_mem, k_rebind, k_bnd, k_beg0, k_beg1, b_giveN, b_giveR, f_open, b_hand, k_op, b_turn, wlB, b_beat, f_anew, b_wipe, b_off, k_sadd, fits, frP, cntB, b_trace, b_child, k_lat, cond_true, cond_false, Option.elim_none, Option.elim_some, Option.getD_none, Option.getD_some] at hX | rw [eo_1] at hX | rw [eo_335] at hX | rw [if_pos (by first | with_reducible assumption | omega)] at hX | rw [if_neg (by first | with_reducible assumption | omega)] at hX | rw [jx_of (by omega)] at hX)); first | exact hX | (exfalso; omega) | exact hX) hQ ⟨i1_192, i2_193, i3_194, i4_195, i5_196, i6_197, i7_198, i8_199, i9_200, i10_201, i11_202⟩ hP hD hS (lv_sub hl [0, 2, 1, 3] rfl)
             · simp only [i_lt, i_le, i_eq, ti_1] at c_327
               refine lv_aload_n hx hb dX9_takeAnswers_27 rfl (lv_at hl 0 rfl) ?_
               refine va_get (D := (dC, dI)) (ci := 7) (v := .int (G_183 j_271 2)) (C := RX7) (T := TX7) (N := 15) hx hb hg gb_7 hown hK hP (50 + 16 * j_271) (hQ.b0 hj_271) rfl 2 (by decide) (hg _ gm_fieldLink_RX9_145_ErrandGuild_Run_state_I_) (fun _ h9 => h9) rfl dX9_takeAnswers_28 ?_
               refine lv_iconst (v := 3) hx hb dX9_takeAnswers_31 (by decide) ?_
               refine lv_icmp_ne (tgt := 51) hx hb dX9_takeAnswers_32 (by decide) (fun c_337 => ?_) (fun c_337 => ?_)
               · simp only [i_lt, i_le, i_eq, ti_3] at c_337
                 refine lv_aload_n hx hb dX9_takeAnswers_51 rfl (lv_at hl 0 rfl) ?_
                 refine va_get (D := (dC, dI)) (ci := 7) (v := .ref (ad (50 + 16 * j_271 + 1))) (C := RX7) (T := TX7) (N := 15) hx hb hg gb_7 hown hK hP (50 + 16 * j_271) (hQ.b0 hj_271) rfl 10 (by decide) (hg _ gm_fieldLink_RX9_151_ErrandGuild_Run_kin_LErrandGuild_Kin_) (fun _ h9 => h9) rfl dX9_takeAnswers_52 ?_
                 refine va_get (D := (dC, dI)) (ci := 4) (v := .int (G_183 j_271 12)) (C := RX4) (T := TX4) (N := 9) hx hb hg gb_4 hown hK hP (50 + 16 * j_271 + 1) (hQ.b1 hj_271) rfl 4 (by decide) (hg _ gm_fieldLink_RX9_379_ErrandGuild_Kin_claim_I_) (fun _ h9 => h9) rfl dX9_takeAnswers_55 ?_
                 refine lv_iconst (v := 1) hx hb dX9_takeAnswers_58 (by decide) ?_
                 refine lv_icmp_ne (tgt := 83) hx hb dX9_takeAnswers_59 (by decide) (fun c_338 => ?_) (fun c_338 => ?_)
                 · simp only [i_lt, i_le, i_eq, ti_1] at c_338
                   exfalso
                   omega
                 · simp only [i_lt, i_le, i_eq, ti_1] at c_338
                   exact by
                    refine lv_aload_n hx hb dX9_takeAnswers_62 rfl (lv_at hl 0 rfl) ?_
                    refine va_get (D := (dC, dI)) (ci := 7) (v := .int (G_183 j_271 2)) (C := RX7) (T := TX7) (N := 15) hx hb hg gb_7 hown hK hP (50 + 16 * j_271) (hQ.b0 hj_271) rfl 2 (by decide) (hg _ gm_fieldLink_RX9_145_ErrandGuild_Run_state_I_) (fun _ h9 => h9) rfl dX9_takeAnswers_63 ?_
                    refine lv_iconst (v := 4) hx hb dX9_takeAnswers_66 (by decide) ?_
                    refine lv_icmp_ne (tgt := 83) hx hb dX9_takeAnswers_67 (by decide) (fun c_339 => ?_) (fun c_339 => ?_)
                    · simp only [i_lt, i_le, i_eq, ti_4] at c_339
                      refine lv_aload_n hx hb dX9_takeAnswers_83 rfl (lv_at hl 0 rfl) ?_
                      refine va_get (D := (dC, dI)) (ci := 7) (v := .ref (ad (50 + 16 * j_271 + 1))) (C := RX7) (T := TX7) (N := 15) hx hb hg gb_7 hown hK hP (50 + 16 * j_271) (hQ.b0 hj_271) rfl 10 (by decide) (hg _ gm_fieldLink_RX9_151_ErrandGuild_Run_kin_LErrandGuild_Kin_) (fun _ h9 => h9) rfl dX9_takeAnswers_84 ?_
                      refine va_get (D := (dC, dI)) (ci := 4) (v := va_rf (rA9 ad (K j_271 4))) (C := RX4) (T := TX4) (N := 9) hx hb hg gb_4 hown hK hP (50 + 16 * j_271 + 1) (hQ.b1 hj_271) rfl 7 (by decide) (hg _ gm_fieldLink_RX9_228_ErrandGuild_Kin_nextSibling_LErrandGuild_Run_) (fun _ h9 => h9) rfl dX9_takeAnswers_87 ?_
                      rcases eo_340 : K j_271 4 with _ | j_341
                      · refine W.eq (g2 := F0 m 90 ls [.null]) (by first | rfl | (rw [eo_340]; rfl)) ?_
                        refine lv_astore_nN (lv' := [(3, .null), (2, .int x_180), (1, .ref (ad (50 + 16 * j_203))), (0, .ref (ad (50 + 16 * i)))]) hx hb dX9_takeAnswers_90 rfl hl (by decide) rfl (fun ls hl => ?_)
                        refine lv_goto (tgt := 12) hx hb dX9_takeAnswers_91 (by decide) ?_
                        exact ih_190 x_180 (some j_203) none  ws_184 G_183  H locs ls (by simp only [chM] at *; omega) (fun _ h => by cases h; exact hj_203) (fun _ h => by cases h) (by show cit K (b_take i) (f_take i) 201 none ((C9.mk n f T G_183 K F), (some j_203), x_180) = k_take i (C9.mk n f T G K F); have hX := v_188; (first | rw [cit_none] at hX | rw [cit_go i3_194 i4_195 (by omega) (by first | with_reducible assumption | omega)] at hX); (repeat (first | dsimp +instances only [c9n, c9f, c9T, c9G, c9K, c9F, b_come, b_leave, b_fill, awB, b_settle, b_wake, b_take, f_take, b_gather, f_gather, b_ask, a_ask, b_tell, c_close, d_close, k_add, k_rem, sco, k_clrF, k_mem, k_rebind, k_bnd, k_beg0, k_beg1, b_giveN, b_giveR, f_open, b_hand, k_op, b_turn, wlB, b_beat, f_anew, b_wipe, b_off, k_sadd, fits, frP, cntB, b_trace, b_child, k_lat, cond_true, cond_false, Option.elim_none, Option.elim_some, Option.getD_none, Option.getD_some] at hX | rw [eo_1] at hX | rw [eo_340] at hX | rw [if_pos (by first | with_reducible assumption | omega)] at hX | rw [if_neg (by first | with_reducible assumption | omega)] at hX | rw [jx_of (by omega)] at hX)); first | exact hX | (exfalso; omega) | exact hX) hQ ⟨i1_192, i2_193, i3_194, i4_195, i5_196, i6_197, i7_198, i8_199, i9_200, i10_201, i11_202⟩ hP hD hS (lv_sub hl [0, 1, 2, 3] rfl)
                      · refine W.eq (g2 := F0 m 90 ls [.ref (ad (50 + 16 * j_341))]) (by first | rfl | (rw [eo_340]; rfl)) ?_
                        have hj_341 : j_341 < M := i3_194 _ _ _ hj_271 eo_340
                        exact by
                         refine lv_astore_n (lv' := [(3, .ref (ad (50 + 16 * j_341))), (2, .int x_180), (1, .ref (ad (50 + 16 * j_203))), (0, .ref (ad (50 + 16 * i)))]) hx hb dX9_takeAnswers_90 rfl hl (by decide) rfl (fun ls hl => ?_)
                         refine lv_goto (tgt := 12) hx hb dX9_takeAnswers_91 (by decide) ?_
                         exact ih_190 x_180 (some j_203) (some j_341)  ws_184 G_183  H locs ls (by have := i4_195 _ _ hj_271 eo_340; simp only [chM] at *; omega) (fun _ h => by cases h; exact hj_203) (fun _ h => by cases h; exact hj_341) (by show cit K (b_take i) (f_take i) 201 (some j_341) ((C9.mk n f T G_183 K F), (some j_203), x_180) = k_take i (C9.mk n f T G K F); have hX := v_188; (first | rw [cit_none] at hX | rw [cit_go i3_194 i4_195 (by omega) (by first | with_reducible assumption | omega)] at hX); (repeat (first | dsimp +instances only [c9n, c9f, c9T, c9G, c9K, c9F, b_come, b_leave, b_fill, awB, b_settle, b_wake, b_take, f_take, b_gather, f_gather, b_ask, a_ask, b_tell, c_close, d_close, k_add, k_rem, sco, k_clrF, k_mem, k_rebind, k_bnd, k_beg0, k_beg1, b_giveN, b_giveR, f_open, b_hand, k_op, b_turn, wlB, b_beat, f_anew, b_wipe, b_off, k_sadd, fits, frP, cntB, b_trace, b_child, k_lat, cond_true, cond_false, Option.elim_none, Option.elim_some, Option.getD_none, Option.getD_some] at hX | rw [eo_1] at hX | rw [eo_340] at hX | rw [if_pos (by first | with_reducible assumption | omega)] at hX | rw [if_neg (by first | with_reducible assumption | omega)] at hX | rw [jx_of (by omega)] at hX)); first | exact hX | (exfalso; omega) | exact hX) hQ ⟨i1_192, i2_193, i3_194, i4_195, i5_196, i6_197, i7_198, i8_199, i9_200, i10_201, i11_202⟩ hP hD hS (lv_sub hl [0, 1, 2, 3] rfl)
                    · simp only [i_lt, i_le, i_eq, ti_4] at c_339
                      obtain ⟨y_342, ey_342⟩ : ∃ q : Int32, q = x_180 + (1) := ⟨_, rfl⟩
                      refine lv_iinc (v := y_342) (lv' := [(2, .int y_342), (3, .ref (ad (50 + 16 * j_271))), (1, .ref (ad (50 + 16 * j_203))), (0, .ref (ad (50 + 16 * i)))]) hx hb dX9_takeAnswers_70 hl (k := 1) rfl (by rw [ey_342]; rfl) (by decide) rfl (fun ls hl => ?_)
                      refine lv_aload_n hx hb dX9_takeAnswers_73 rfl (lv_at hl 2 rfl) ?_
                      refine lv_ifnonnull (tgt := 81) hx hb dX9_takeAnswers_74 (by decide) ?_
                      refine lv_aload_n hx hb dX9_takeAnswers_81 rfl (lv_at hl 2 rfl) ?_
                      refine lv_astore_n (lv' := [(1, .ref (ad (50 + 16 * j_203))), (2, .int y_342), (3, .ref (ad (50 + 16 * j_271))), (0, .ref (ad (50 + 16 * i)))]) hx hb dX9_takeAnswers_82 rfl hl (by decide) rfl (fun ls hl => ?_)
                      refine lv_aload_n hx hb dX9_takeAnswers_83 rfl (lv_at hl 2 rfl) ?_
                      refine va_get (D := (dC, dI)) (ci := 7) (v := .ref (ad (50 + 16 * j_271 + 1))) (C := RX7) (T := TX7) (N := 15) hx hb hg gb_7 hown hK hP (50 + 16 * j_271) (hQ.b0 hj_271) rfl 10 (by decide) (hg _ gm_fieldLink_RX9_151_ErrandGuild_Run_kin_LErrandGuild_Kin_) (fun _ h9 => h9) rfl dX9_takeAnswers_84 ?_
                      refine va_get (D := (dC, dI)) (ci := 4) (v := va_rf (rA9 ad (K j_271 4))) (C := RX4) (T := TX4) (N := 9) hx hb hg gb_4 hown hK hP (50 + 16 * j_271 + 1) (hQ.b1 hj_271) rfl 7 (by decide) (hg _ gm_fieldLink_RX9_228_ErrandGuild_Kin_nextSibling_LErrandGuild_Run_) (fun _ h9 => h9) rfl dX9_takeAnswers_87 ?_
                      rcases eo_343 : K j_271 4 with _ | j_344
                      · refine W.eq (g2 := F0 m 90 ls [.null]) (by first | rfl | (rw [eo_343]; rfl)) ?_
                        exact by
                         refine lv_astore_nN (lv' := [(3, .null), (1, .ref (ad (50 + 16 * j_203))), (2, .int y_342), (0, .ref (ad (50 + 16 * i)))]) hx hb dX9_takeAnswers_90 rfl hl (by decide) rfl (fun ls hl => ?_)
                         refine lv_goto (tgt := 12) hx hb dX9_takeAnswers_91 (by decide) ?_
                         exact ih_190 y_342 (some j_203) none  ws_184 G_183  H locs ls (by simp only [chM] at *; omega) (fun _ h => by cases h; exact hj_203) (fun _ h => by cases h) (by show cit K (b_take i) (f_take i) 201 none ((C9.mk n f T G_183 K F), (some j_203), y_342) = k_take i (C9.mk n f T G K F); subst ey_342; have hX := v_188; (first | rw [cit_none] at hX | rw [cit_go i3_194 i4_195 (by omega) (by first | with_reducible assumption | omega)] at hX); (repeat (first | dsimp +instances only [c9n, c9f, c9T, c9G, c9K, c9F, b_come, b_leave, b_fill, awB, b_settle, b_wake, b_take, f_take, b_gather, f_gather, b_ask, a_ask, b_tell, c_close, d_close, k_add, k_rem, sco, k_clrF, k_mem, k_rebind, k_bnd, k_beg0, k_beg1, b_giveN, b_giveR, f_open, b_hand, k_op, b_turn, wlB, b_beat, f_anew, b_wipe, b_off, k_sadd, fits, frP, cntB, b_trace, b_child, k_lat, cond_true, cond_false, Option.elim_none, Option.elim_some, Option.getD_none, Option.getD_some] at hX | rw [eo_1] at hX | rw [eo_343] at hX | rw [if_pos (by first | with_reducible assumption | omega)] at hX | rw [if_neg (by first | with_reducible assumption | omega)] at hX | rw [jx_of (by omega)] at hX)); first | exact hX | (exfalso; omega) | exact hX) hQ ⟨i1_192, i2_193, i3_194, i4_195, i5_196, i6_197, i7_198, i8_199, i9_200, i10_201, i11_202⟩ hP hD hS (lv_sub hl [0, 2, 1, 3] rfl)
                      · refine W.eq (g2 := F0 m 90 ls [.ref (ad (50 + 16 * j_344))]) (by first | rfl | (rw [eo_343]; rfl)) ?_
                        have hj_344 : j_344 < M := i3_194 _ _ _ hj_271 eo_343
                        refine lv_astore_n (lv' := [(3, .ref (ad (50 + 16 * j_344))), (1, .ref (ad (50 + 16 * j_203))), (2, .int y_342), (0, .ref (ad (50 + 16 * i)))]) hx hb dX9_takeAnswers_90 rfl hl (by decide) rfl (fun ls hl => ?_)
                        refine lv_goto (tgt := 12) hx hb dX9_takeAnswers_91 (by decide) ?_
                        exact ih_190 y_342 (some j_203) (some j_344)  ws_184 G_183  H locs ls (by have := i4_195 _ _ hj_271 eo_343; simp only [chM] at *; omega) (fun _ h => by cases h; exact hj_203) (fun _ h => by cases h; exact hj_344) (by show cit K (b_take i) (f_take i) 201 (some j_344) ((C9.mk n f T G_183 K F), (some j_203), y_342) = k_take i (C9.mk n f T G K F); subst ey_342; have hX := v_188; (first | rw [cit_none] at hX | rw [cit_go i3_194 i4_195 (by omega) (by first | with_reducible assumption | omega)] at hX); (repeat (first | dsimp +instances only [c9n, c9f, c9T, c9G, c9K, c9F, b_come, b_leave, b_fill, awB, b_settle, b_wake, b_take, f_take, b_gather, f_gather, b_ask, a_ask, b_tell, c_close, d_close, k_add, k_rem, sco, k_clrF, k_mem, k_rebind, k_bnd, k_beg0, k_beg1, b_giveN, b_giveR, f_open, b_hand, k_op, b_turn, wlB, b_beat, f_anew, b_wipe, b_off, k_sadd, fits, frP, cntB, b_trace, b_child, k_lat, cond_true, cond_false, Option.elim_none, Option.elim_some, Option.getD_none, Option.getD_some] at hX | rw [eo_1] at hX | rw [eo_343] at hX | rw [if_pos (by first | with_reducible assumption | omega)] at hX | rw [if_neg (by first | with_reducible assumption | omega)] at hX | rw [jx_of (by omega)] at hX)); first | exact hX | (exfalso; omega) | exact hX) hQ ⟨i1_192, i2_193, i3_194, i4_195, i5_196, i6_197, i7_198, i8_199, i9_200, i10_201, i11_202⟩ hP hD hS (lv_sub hl [0, 2, 1, 3] rfl)
               · simp only [i_lt, i_le, i_eq, ti_3] at c_337
                 refine lv_aload_n hx hb dX9_takeAnswers_35 rfl (lv_at hl 3 rfl) ?_
                 refine lv_dup hx hb dX9_takeAnswers_36 rfl ?_
                 refine va_get (D := (dC, dI)) (ci := 7) (v := .int (G_183 i 5)) (C := RX7) (T := TX7) (N := 15) hx hb hg gb_7 hown hK hP (50 + 16 * i) (hQ.b0 hi) rfl 5 (by decide) (hg _ gm_fieldLink_RX9_171_ErrandGuild_Run_sum_I_) (fun _ h9 => h9) rfl dX9_takeAnswers_37 ?_
                 refine lv_aload_n hx hb dX9_takeAnswers_40 rfl (lv_at hl 0 rfl) ?_
                 refine va_get (D := (dC, dI)) (ci := 7) (v := .int (G_183 j_271 5)) (C := RX7) (T := TX7) (N := 15) hx hb hg gb_7 hown hK hP (50 + 16 * j_271) (hQ.b0 hj_271) rfl 5 (by decide) (hg _ gm_fieldLink_RX9_171_ErrandGuild_Run_sum_I_) (fun _ h9 => h9) rfl dX9_takeAnswers_41 ?_
                 refine lv_iadd hx hb dX9_takeAnswers_44 ?_
                 refine lv_topi (fun z_345 ez_345 => ?_)
                 refine va_put (D := (dC, dI)) (ci := 7) (v := .int (z_345)) (ty := .int) (C := RX7) (T := TX7) (N := 15) hx hb hg gb_7 tyX7 tyX7_ok nmX7 hown hK hP hD hS (50 + 16 * i) (hQ.b0 hi) rfl 5 (by decide) (hg _ gm_fieldLink_RX9_171_ErrandGuild_Run_sum_I_) (fun _ h9 => h9) rfl (by decide +kernel) rfl rfl (Nat.le_of_ble_eq_true rfl) dX9_takeAnswers_45 (fun H locs hP hD hS => ?_)
                 obtain ⟨ws_347, G_346, eG_346, hP, hD, hQ⟩ : ∃ (ws_347 : va_W) (G_346 : Nat → Nat → Int32), G_346 = u2 G_183 i 5 z_345 ∧ va_P (dC, dI) vwCl ws_347 H ∧ va_D A ws_347 ∧ Pic9 kc ws_347 ad ga gc M n f T G_346 K F := ⟨_, _, rfl, hP, hD, hQ.run hi 5 (by decide) z_345⟩
                 have i10_348 : i10 M G_346 K F := by rw [eG_346]; exact (i10.pG i10_201 hi _ (by decide))
                 have i11_349 : i11 M n gc f G_346 F := by rw [eG_346]; exact (i11.pG i11_202 i _ (by decide))
                 have i6_350 : i6 n T G_346 := by rw [eG_346]; exact (i6.pG i6_197 i _ (by decide))
                 have i7_351 : i7 n G_346 := by rw [eG_346]; exact (i7.pG i7_198 i _ (by decide))
                 have i8_352 : i8 M n gc G_346 := by rw [eG_346]; exact (i8.pG i8_199 i _ (by decide))
                 have i9_353 : i9 M gc G_346 R := by rw [eG_346]; exact (i9.pG i9_200 i _ (by decide))
                 have eg_354 : G_346 i 5 = z_345 := by rw [eG_346, u2_eq]
                 exact by
                  refine lv_goto (tgt := 83) hx hb dX9_takeAnswers_48 (by decide) ?_
                  refine lv_aload_n hx hb dX9_takeAnswers_83 rfl (lv_at hl 0 rfl) ?_
                  refine va_get (D := (dC, dI)) (ci := 7) (v := .ref (ad (50 + 16 * j_271 + 1))) (C := RX7) (T := TX7) (N := 15) hx hb hg gb_7 hown hK hP (50 + 16 * j_271) (hQ.b0 hj_271) rfl 10 (by decide) (hg _ gm_fieldLink_RX9_151_ErrandGuild_Run_kin_LErrandGuild_Kin_) (fun _ h9 => h9) rfl dX9_takeAnswers_84 ?_
                  refine va_get (D := (dC, dI)) (ci := 4) (v := va_rf (rA9 ad (K j_271 4))) (C := RX4) (T := TX4) (N := 9) hx hb hg gb_4 hown hK hP (50 + 16 * j_271 + 1) (hQ.b1 hj_271) rfl 7 (by decide) (hg _ gm_fieldLink_RX9_228_ErrandGuild_Kin_nextSibling_LErrandGuild_Run_) (fun _ h9 => h9) rfl dX9_takeAnswers_87 ?_
                  rcases eo_355 : K j_271 4 with _ | j_356
                  · refine W.eq (g2 := F0 m 90 ls [.null]) (by first | rfl | (rw [eo_355]; rfl)) ?_
                    refine lv_astore_nN (lv' := [(3, .null), (2, .int x_180), (1, .ref (ad (50 + 16 * j_203))), (0, .ref (ad (50 + 16 * i)))]) hx hb dX9_takeAnswers_90 rfl hl (by decide) rfl (fun ls hl => ?_)
                    refine lv_goto (tgt := 12) hx hb dX9_takeAnswers_91 (by decide) ?_
                    exact ih_190 x_180 (some j_203) none  ws_347 G_346  H locs ls (by simp only [chM] at *; omega) (fun _ h => by cases h; exact hj_203) (fun _ h => by cases h) (by show cit K (b_take i) (f_take i) 201 none ((C9.mk n f T G_346 K F), (some j_203), x_180) = k_take i (C9.mk n f T G K F); subst eG_346; subst ez_345; have hX := v_188; (first | rw [cit_none] at hX | rw [cit_go i3_194 i4_195 (by omega) (by first | with_reducible assumption | omega)] at hX); (repeat (first | dsimp +instances only [c9n, c9f, c9T, c9G, c9K, c9F, b_come, b_leave, b_fill, awB, b_settle, b_wake, b_take, f_take, b_gather, f_gather, b_ask, a_ask, b_tell, c_close, d_close, k_add, k_rem, sco, k_clrF, k_mem, k_rebind, k_bnd, k_beg0, k_beg1, b_giveN, b_giveR, f_open, b_hand, k_op, b_turn, wlB, b_beat, f_anew, b_wipe, b_off, k_sadd, fits, frP, cntB, b_trace, b_child, k_lat, cond_true, cond_false, Option.elim_none, Option.elim_some, Option.getD_none, Option.getD_some] at hX | rw [eo_1] at hX | rw [eo_355] at hX | rw [if_pos (by first | with_reducible assumption | omega)] at hX | rw [if_neg (by first | with_reducible assumption | omega)] at hX | rw [jx_of (by omega)] at hX)); first | exact hX | (exfalso; omega) | exact hX) hQ ⟨i1_192, i2_193, i3_194, i4_195, i5_196, i6_350, i7_351, i8_352, i9_353, i10_348, i11_349⟩ hP hD hS (lv_sub hl [0, 1, 2, 3] rfl)
                  · refine W.eq (g2 := F0 m 90 ls [.ref (ad (50 + 16 * j_356))]) (by first | rfl | (rw [eo_355]; rfl)) ?_
                    have hj_356 : j_356 < M := i3_194 _ _ _ hj_271 eo_355
                    refine lv_astore_n (lv' := [(3, .ref (ad (50 + 16 * j_356))), (2, .int x_180), (1, .ref (ad (50 + 16 * j_203))), (0, .ref (ad (50 + 16 * i)))]) hx hb dX9_takeAnswers_90 rfl hl (by decide) rfl (fun ls hl => ?_)
                    exact by
                     refine lv_goto (tgt := 12) hx hb dX9_takeAnswers_91 (by decide) ?_
                     exact ih_190 x_180 (some j_203) (some j_356)  ws_347 G_346  H locs ls (by have := i4_195 _ _ hj_271 eo_355; simp only [chM] at *; omega) (fun _ h => by cases h; exact hj_203) (fun _ h => by cases h; exact hj_356) (by show cit K (b_take i) (f_take i) 201 (some j_356) ((C9.mk n f T G_346 K F), (some j_203), x_180) = k_take i (C9.mk n f T G K F); subst eG_346; subst ez_345; have hX := v_188; (first | rw [cit_none] at hX | rw [cit_go i3_194 i4_195 (by omega) (by first | with_reducible assumption | omega)] at hX); (repeat (first | dsimp +instances only [c9n, c9f, c9T, c9G, c9K, c9F, b_come, b_leave, b_fill, awB, b_settle, b_wake, b_take, f_take, b_gather, f_gather, b_ask, a_ask, b_tell, c_close, d_close, k_add, k_rem, sco, k_clrF, k_mem, k_rebind, k_bnd, k_beg0, k_beg1, b_giveN, b_giveR, f_open, b_hand, k_op, b_turn, wlB, b_beat, f_anew, b_wipe, b_off, k_sadd, fits, frP, cntB, b_trace, b_child, k_lat, cond_true, cond_false, Option.elim_none, Option.elim_some, Option.getD_none, Option.getD_some] at hX | rw [eo_1] at hX | rw [eo_355] at hX | rw [if_pos (by first | with_reducible assumption | omega)] at hX | rw [if_neg (by first | with_reducible assumption | omega)] at hX | rw [jx_of (by omega)] at hX)); first | exact hX | (exfalso; omega) | exact hX) hQ ⟨i1_192, i2_193, i3_194, i4_195, i5_196, i6_350, i7_351, i8_352, i9_353, i10_348, i11_349⟩ hP hD hS (lv_sub hl [0, 1, 2, 3] rfl)
     exact L12 _ (0 : Int32) none (some j_2)  ws G  _ _ _ (Nat.lt_succ_self _) (fun _ h => by cases h) (fun _ h => by cases h; exact hj_2) (by show cit K (b_take i) (f_take i) 201 (some j_2) ((C9.mk n f T G K F), none, (0 : Int32)) = k_take i (C9.mk n f T G K F); have hX := (k_take.eq_1 i (C9.mk n f T G K F)).symm; (repeat (first | dsimp +instances only [c9n, c9f, c9T, c9G, c9K, c9F, b_come, b_leave, b_fill, awB, b_settle, b_wake, b_take, f_take, b_gather, f_gather, b_ask, a_ask, b_tell, c_close, d_close, k_add, k_rem, sco, k_clrF, k_mem, k_rebind, k_bnd, k_beg0, k_beg1, b_giveN, b_giveR, f_open, b_hand, k_op, b_turn, wlB, b_beat, f_anew, b_wipe, b_off, k_sadd, fits, frP, cntB, b_trace, b_child, k_lat, cond_true, cond_false, Option.elim_none, Option.elim_some, Option.getD_none, Option.getD_some] at hX | rw [eo_1] at hX | rw [if_pos (by first | with_reducible assumption | omega)] at hX | rw [if_neg (by first | with_reducible assumption | omega)] at hX | rw [jx_of (by omega)] at hX)); first | exact hX | (exfalso; omega) | exact hX) hQ ⟨h_i1, h_i2, h_i3, h_i4, h_i5, h_i6, h_i7, h_i8, h_i9, h_i10, h_i11⟩ hP hD hS (lv_sub hl [0, 1, 2, 3] rfl)

set_option maxHeartbeats 8000000 in
set_option maxRecDepth 100000 in
theorem c_X9_standIn (l : Launch) (dC : Nat → ClassId) (dI : Nat → Nat → Nat) (kc : Nat → ClassId) (ws : va_W) (ad : Nat → Nat) (ga : Nat → Nat) (gc : Nat → Nat) (M : Nat) (n : Nat → Int32) (f : Nat → Nat → Int32) (T : Nat → Option Nat) (G : Nat → Nat → Int32) (K : Nat → Nat → Option Nat) (F : Nat → Nat → Nat → Int32) (R : Nat) (i : Nat) (sz hz : Nat) (hQ : Pic9 kc ws ad ga gc M n f T G K F) (hI : I9 M n f T gc G K F R) (hi : i < M) : Met l yX9_standIn (.code yX9_standIn cX9_standIn 1 (some .int) :: gw) ({ frames := 2, cells := 0, slots := 0, locals := 44 }) (va_Pc [.ref (ad (50 + 16 * i))] (fun U => U.heap.size = sz ∧ hpS U.heap = hz ∧ va_P (dC, dI) vwCl ws U.heap ∧ va_K (dC, dI) vwCl (t9 kc) U ∧ va_D (fun _ => True) ws ∧ nx U)) (va_Qi (fun (r : Int32) (u : (Nat → Nat) × (Nat → Nat) × (Nat → Nat) × Nat × (Nat → Int32) × (Nat → Nat → Int32) × (Nat → Option Nat) × (Nat → Nat → Int32) × (Nat → Nat → Option Nat) × (Nat → Nat → Nat → Int32)) => ((C9.mk n f T u.2.2.2.2.2.2.2.1 K F), r) = k_stand i (C9.mk n f T G K F)) (fun u t => ∃ w : va_W, va_P (dC, dI) vwCl w t.heap ∧ va_D (va_A ws sz) w ∧ Pic9 kc w ad ga gc M n f T u.2.2.2.2.2.2.2.1 K F ∧ I9 M n f T gc u.2.2.2.2.2.2.2.1 K F R ∧ hpS t.heap + (260 * M + 2 * S9 M gc) ≤ hz + (260 * M + 2 * S9 M gc) ∧ 16 * t.heap.size + (256 * M + S9 M gc) ≤ 16 * sz + (256 * M + S9 M gc)) (va_A ws sz)) 0 0 (va_A ws sz) := by
  refine Met.ofW (cc := cX9_standIn) (maxL := 1) (ret := (some .int)) (by decide) rfl ?_
  intro p e s m args below meth c s₁ B hml hv
  obtain ⟨rfl, hsz, rfl, hP, hK, hD0, hN⟩ := hv
  have hx := B.exec
  have hb := B.bytes
  have hr := B.returns
  have hts := atoms_spec (ws := .code yX9_standIn cX9_standIn 1 (some .int) :: gw) B.pre
  have hg : ∀ w ∈ gw, w.before _ s = true := fun w h => hts w (List.mem_cons_of_mem _ h)
  have hown : s.vm.findClass RX9 = some m.cls := findClass_of_methodNamed B.named
  have hlocks := B.notSynchronized
  subst hsz
  have hD := hD0.self (sz := s.heap.size)
  generalize hAe : va_A ws s.heap.size = A at hD ⊢
  have hA : ∀ q : Nat, s.heap.size ≤ q → A q := fun q h => by rw [← hAe]; exact Or.inr h
  clear hAe
  have hS : va_S A s.heap s.heap [] := va_S.rf
  have hl := lv_entry ([.ref (ad (50 + 16 * i))]) (n := 1) (Nat.le_of_ble_eq_true rfl)
  rw [lg_entry_eq]
  generalize (lg_sl ([.ref (ad (50 + 16 * i))]) ++ List.replicate (1 - (lg_sl ([.ref (ad (50 + 16 * i))])).length) Slot.unset).toArray = ls at hl ⊢
  have hl : lv_has ls 1 [(0, .ref (ad (50 + 16 * i)))] := hl
  obtain ⟨h_i1, h_i2, h_i3, h_i4, h_i5, h_i6, h_i7, h_i8, h_i9, h_i10, h_i11⟩ := id hI
  have q1_ := h_i1
  unfold i1 at q1_
  exact by
   refine lv_aload_n hx hb dX9_standIn_0 rfl (lv_at hl 0 rfl) ?_
   refine va_get (D := (dC, dI)) (ci := 7) (v := .int (G i 8)) (C := RX7) (T := TX7) (N := 15) hx hb hg gb_7 hown hK hP (50 + 16 * i) (hQ.b0 hi) rfl 8 (by decide) (hg _ gm_fieldLink_RX9_141_ErrandGuild_Run_interrupted_Z_) (fun _ h9 => h9) rfl dX9_standIn_1 ?_
   refine lv_if_eq (tgt := 14) hx hb dX9_standIn_4 (by decide) (fun c_1 => ?_) (fun c_1 => ?_)
   · simp only [i_lt, i_le, i_eq, ti_0] at c_1
     refine lv_aload_n hx hb dX9_standIn_14 rfl (lv_at hl 0 rfl) ?_
     have hFc := free_all hD hS hA
     refine va_calli (va_runS (As := [.ref (ad (50 + 16 * i))]) (rest := []) ⟨hx, hb, hml, hown, hg⟩ (c_X9_takeAnswers l dC dI kc ws ad ga gc M n f T G K F R i s.heap.size (hpS s.heap) hQ ⟨h_i1, h_i2, h_i3, h_i4, h_i5, h_i6, h_i7, h_i8, h_i9, h_i10, h_i11⟩ (by show i < M; omega)) (va_cwS 1 hg (gw_S gm_methodLink_RX9_325_yX9_takeAnswers gm_static_yX9_takeAnswers gm_initialized_RX9 gm_code_yX9_takeAnswers_cX9_takeAnswers_4_some_int_) rfl rfl rfl (by decide +kernel) ⟨Nat.le_of_ble_eq_true rfl, Nat.le_of_ble_eq_true rfl⟩) ⟨fun a U g mk q => by obtain ⟨q0, q1, q2, qP, qK, qD, qN⟩ := q; exact ⟨q0, q1, q2, qP, va_K.moved (u := U) (U := U.calling g mk a) (Vm.Alike.refl U.vm) qK, qD, nx_same (u := U) (U := U.calling g mk a) rfl qN⟩, fun U hU hW => ⟨rfl, by rw [hU], by rw [hU], by rw [hU]; exact hP, va_K.moved hW.alike hK, hD.weaken (fun _ _ _ _ => trivial), nx_warm hW hN⟩⟩ rfl rfl hl.1 rfl (lv_room (Nat.le_of_ble_eq_true rfl)) dX9_standIn_15 ⟨Nat.le_of_ble_eq_true rfl, Nat.le_of_ble_eq_true rfl⟩) hS (fun q _ h => hFc q h) hFc (fun r_2 u_3 t H1 locs ht hvm hw hB hz1 hk1 hS => ?_)
     obtain ⟨ad_4, ga_5, gc_6, M_7, n_8, f_9, T_10, G_11, K_12, F_13⟩ := u_3
     have hB : ∃ w : va_W, va_P (dC, dI) vwCl w t.heap ∧ va_D (va_A ws s.heap.size) w ∧ Pic9 kc w ad ga gc M n f T G_11 K F ∧ I9 M n f T gc G_11 K F R ∧ hpS t.heap + (260 * M + 2 * S9 M gc) ≤ hpS s.heap + (260 * M + 2 * S9 M gc) ∧ 16 * t.heap.size + (256 * M + S9 M gc) ≤ 16 * s.heap.size + (256 * M + S9 M gc) := hB
     rw [ht] at hB
     obtain ⟨ws_14, hP, hD, hQ, hI_15, hy1, hy2⟩ := hB
     have hD := hD.weaken (fun k q _ h => hFc _ h)
     obtain ⟨i1_16, i2_17, i3_18, i4_19, i5_20, i6_21, i7_22, i8_23, i9_24, i10_25, i11_26⟩ := id hI_15
     have q1_ := i1_16
     unfold i1 at q1_
     generalize H1 = H at hP hS ⊢
     have hc_28 : ((C9.mk n f T G_11 K F), r_2) = k_take i (C9.mk n f T G K F) := hw
     refine W_msr2 (fun hm1 hm2 hm3 => ?_)
     exact W.iret (v := r_2) hx hb hr (fun t ht hW => ⟨⟨r_2, (ad, ga, gc, M, n, f, T, G_11, K, F), rfl, (by show ((C9.mk n f T G_11 K F), r_2) = k_stand i (C9.mk n f T G K F); have hX := (k_stand.eq_1 i (C9.mk n f T G K F)).symm; (repeat (first | dsimp +instances only [c9n, c9f, c9T, c9G, c9K, c9F, b_come, b_leave, b_fill, awB, b_settle, b_wake, b_take, f_take, b_gather, f_gather, b_ask, a_ask, b_tell, c_close, d_close, k_add, k_rem, sco, k_clrF, k_mem, k_rebind, k_bnd, k_beg0, k_beg1, b_giveN, b_giveR, f_open, b_hand, k_op, b_turn, wlB, b_beat, f_anew, b_wipe, b_off, k_sadd, fits, frP, cntB, b_trace, b_child, k_lat, cond_true, cond_false, Option.elim_none, Option.elim_some, Option.getD_none, Option.getD_some] at hX | rw [← hc_28] at hX | rw [if_pos (by first | with_reducible assumption | omega)] at hX | rw [if_neg (by first | with_reducible assumption | omega)] at hX | rw [jx_of (by omega)] at hX)); first | exact hX | (exfalso; omega) | exact hX), ws_14, by rw [ht]; exact hP, hD, hQ, ⟨i1_16, i2_17, i3_18, i4_19, i5_20, i6_21, i7_22, i8_23, i9_24, i10_25, i11_26⟩, by rw [ht]; show hpS H + (260 * M + 2 * S9 M gc) ≤ hpS s.heap + (260 * M + 2 * S9 M gc); omega, by rw [ht]; show 16 * H.size + (256 * M + S9 M gc) ≤ 16 * s.heap.size + (256 * M + S9 M gc); omega⟩, hS.F ht⟩) hS.2.2 dX9_standIn_18
   · simp only [i_lt, i_le, i_eq, ti_0] at c_1
     exact by
      refine lv_aload_n hx hb dX9_standIn_7 rfl (lv_at hl 0 rfl) ?_
      have hFc := free_all hD hS hA
      refine va_calli (va_runS (As := [.ref (ad (50 + 16 * i))]) (rest := []) ⟨hx, hb, hml, hown, hg⟩ (c_X9_noticeInterrupt l dC dI kc ws ad ga gc M n f T G K F R i s.heap.size (hpS s.heap) hQ ⟨h_i1, h_i2, h_i3, h_i4, h_i5, h_i6, h_i7, h_i8, h_i9, h_i10, h_i11⟩ (by show i < M; omega)) (va_cwS 1 hg (gw_S gm_methodLink_RX9_322_yX9_noticeInterrupt gm_static_yX9_noticeInterrupt gm_initialized_RX9 gm_code_yX9_noticeInterrupt_cX9_noticeInterrupt_1_some_int_) rfl rfl rfl (by decide +kernel) ⟨Nat.le_of_ble_eq_true rfl, Nat.le_of_ble_eq_true rfl⟩) ⟨fun a U g mk q => by obtain ⟨q0, q1, q2, qP, qK, qD, qN⟩ := q; exact ⟨q0, q1, q2, qP, va_K.moved (u := U) (U := U.calling g mk a) (Vm.Alike.refl U.vm) qK, qD, nx_same (u := U) (U := U.calling g mk a) rfl qN⟩, fun U hU hW => ⟨rfl, by rw [hU], by rw [hU], by rw [hU]; exact hP, va_K.moved hW.alike hK, hD.weaken (fun _ _ _ _ => trivial), nx_warm hW hN⟩⟩ rfl rfl hl.1 rfl (lv_room (Nat.le_of_ble_eq_true rfl)) dX9_standIn_8 ⟨Nat.le_of_ble_eq_true rfl, Nat.le_of_ble_eq_true rfl⟩) hS (fun q _ h => hFc q h) hFc (fun r_29 u_30 t H1 locs ht hvm hw hB hz1 hk1 hS => ?_)
      obtain ⟨ad_31, ga_32, gc_33, M_34, n_35, f_36, T_37, G_38, K_39, F_40⟩ := u_30
      have hB : ∃ w : va_W, va_P (dC, dI) vwCl w t.heap ∧ va_D (va_A ws s.heap.size) w ∧ Pic9 kc w ad ga gc M n f T G_38 K F ∧ I9 M n f T gc G_38 K F R ∧ hpS t.heap + (260 * M + 2 * S9 M gc) ≤ hpS s.heap + (260 * M + 2 * S9 M gc) ∧ 16 * t.heap.size + (256 * M + S9 M gc) ≤ 16 * s.heap.size + (256 * M + S9 M gc) := hB
      rw [ht] at hB
      obtain ⟨ws_41, hP, hD, hQ, hI_42, hy1, hy2⟩ := hB
      have hD := hD.weaken (fun k q _ h => hFc _ h)
      obtain ⟨i1_43, i2_44, i3_45, i4_46, i5_47, i6_48, i7_49, i8_50, i9_51, i10_52, i11_53⟩ := id hI_42
      have q1_ := i1_43
      unfold i1 at q1_
      generalize H1 = H at hP hS ⊢
      have hc_55 : ((C9.mk n f T G_38 K F), r_29) = k_notice i (C9.mk n f T G K F) := hw
      exact by
       refine lv_goto (tgt := 18) hx hb dX9_standIn_11 (by decide) ?_
       refine W_msr2 (fun hm1 hm2 hm3 => ?_)
       exact W.iret (v := r_29) hx hb hr (fun t ht hW => ⟨⟨r_29, (ad, ga, gc, M, n, f, T, G_38, K, F), rfl, (by show ((C9.mk n f T G_38 K F), r_29) = k_stand i (C9.mk n f T G K F); have hX := (k_stand.eq_1 i (C9.mk n f T G K F)).symm; (repeat (first | dsimp +instances only [c9n, c9f, c9T, c9G, c9K, c9F, b_come, b_leave, b_fill, awB, b_settle, b_wake, b_take, f_take, b_gather, f_gather, b_ask, a_ask, b_tell, c_close, d_close, k_add, k_rem, sco, k_clrF, k_mem, k_rebind, k_bnd, k_beg0, k_beg1, b_giveN, b_giveR, f_open, b_hand, k_op, b_turn, wlB, b_beat, f_anew, b_wipe, b_off, k_sadd, fits, frP, cntB, b_trace, b_child, k_lat, cond_true, cond_false, Option.elim_none, Option.elim_some, Option.getD_none, Option.getD_some] at hX | rw [← hc_55] at hX | rw [if_pos (by first | with_reducible assumption | omega)] at hX | rw [if_neg (by first | with_reducible assumption | omega)] at hX | rw [jx_of (by omega)] at hX)); first | exact hX | (exfalso; omega) | exact hX), ws_41, by rw [ht]; exact hP, hD, hQ, ⟨i1_43, i2_44, i3_45, i4_46, i5_47, i6_48, i7_49, i8_50, i9_51, i10_52, i11_53⟩, by rw [ht]; show hpS H + (260 * M + 2 * S9 M gc) ≤ hpS s.heap + (260 * M + 2 * S9 M gc); omega, by rw [ht]; show 16 * H.size + (256 * M + S9 M gc) ≤ 16 * s.heap.size + (256 * M + S9 M gc); omega⟩, hS.F ht⟩) hS.2.2 dX9_standIn_18

set_option maxHeartbeats 8000000 in
set_option maxRecDepth 100000 in
theorem c_X9_gather (l : Launch) (dC : Nat → ClassId) (dI : Nat → Nat → Nat) (kc : Nat → ClassId) (ws : va_W) (ad : Nat → Nat) (ga : Nat → Nat) (gc : Nat → Nat) (M : Nat) (n : Nat → Int32) (f : Nat → Nat → Int32) (T : Nat → Option Nat) (G : Nat → Nat → Int32) (K : Nat → Nat → Option Nat) (F : Nat → Nat → Nat → Int32) (R : Nat) (i : Nat) (sz hz : Nat) (hQ : Pic9 kc ws ad ga gc M n f T G K F) (hI : I9 M n f T gc G K F R) (hi : i < M) : Met l yX9_gather (.code yX9_gather cX9_gather 3 (some .int) :: gw) ({ frames := 2, cells := 0, slots := 0, locals := 44 }) (va_Pc [.ref (ad 0), .ref (ad (50 + 16 * i))] (fun U => U.heap.size = sz ∧ hpS U.heap = hz ∧ va_P (dC, dI) vwCl ws U.heap ∧ va_K (dC, dI) vwCl (t9 kc) U ∧ va_D (fun _ => True) ws ∧ nx U)) (va_Qi (fun (r : Int32) (u : (Nat → Nat) × (Nat → Nat) × (Nat → Nat) × Nat × (Nat → Int32) × (Nat → Nat → Int32) × (Nat → Option Nat) × (Nat → Nat → Int32) × (Nat → Nat → Option Nat) × (Nat → Nat → Nat → Int32)) => ((C9.mk n f T u.2.2.2.2.2.2.2.1 K F), r) = k_gather i (C9.mk n f T G K F)) (fun u t => ∃ w : va_W, va_P (dC, dI) vwCl w t.heap ∧ va_D (va_A ws sz) w ∧ Pic9 kc w ad ga gc M n f T u.2.2.2.2.2.2.2.1 K F ∧ I9 M n f T gc u.2.2.2.2.2.2.2.1 K F R ∧ hpS t.heap + (260 * M + 2 * S9 M gc) ≤ hz + (260 * M + 2 * S9 M gc) ∧ 16 * t.heap.size + (256 * M + S9 M gc) ≤ 16 * sz + (256 * M + S9 M gc)) (va_A ws sz)) 0 0 (va_A ws sz) := by
  refine Met.ofW (cc := cX9_gather) (maxL := 3) (ret := (some .int)) (by decide) rfl ?_
  intro p e s m args below meth c s₁ B hml hv
  obtain ⟨rfl, hsz, rfl, hP, hK, hD0, hN⟩ := hv
  have hx := B.exec
  have hb := B.bytes
  have hr := B.returns
  have hts := atoms_spec (ws := .code yX9_gather cX9_gather 3 (some .int) :: gw) B.pre
  have hg : ∀ w ∈ gw, w.before _ s = true := fun w h => hts w (List.mem_cons_of_mem _ h)
  have hown : s.vm.findClass RX9 = some m.cls := findClass_of_methodNamed B.named
  have hlocks := B.notSynchronized
  subst hsz
  have hD := hD0.self (sz := s.heap.size)
  generalize hAe : va_A ws s.heap.size = A at hD ⊢
  have hA : ∀ q : Nat, s.heap.size ≤ q → A q := fun q h => by rw [← hAe]; exact Or.inr h
  clear hAe
  have hS : va_S A s.heap s.heap [] := va_S.rf
  have hl := lv_entry ([.ref (ad 0), .ref (ad (50 + 16 * i))]) (n := 3) (Nat.le_of_ble_eq_true rfl)
  rw [lg_entry_eq]
  generalize (lg_sl ([.ref (ad 0), .ref (ad (50 + 16 * i))]) ++ List.replicate (3 - (lg_sl ([.ref (ad 0), .ref (ad (50 + 16 * i))])).length) Slot.unset).toArray = ls at hl ⊢
  have hl : lv_has ls 3 [(0, .ref (ad 0)), (1, .ref (ad (50 + 16 * i)))] := hl
  obtain ⟨h_i1, h_i2, h_i3, h_i4, h_i5, h_i6, h_i7, h_i8, h_i9, h_i10, h_i11⟩ := id hI
  have q1_ := h_i1
  unfold i1 at q1_
  exact by
   refine lv_aload_n hx hb dX9_gather_0 rfl (lv_at hl 1 rfl) ?_
   refine va_get (D := (dC, dI)) (ci := 7) (v := .ref (ad (50 + 16 * i + 1))) (C := RX7) (T := TX7) (N := 15) hx hb hg gb_7 hown hK hP (50 + 16 * i) (hQ.b0 hi) rfl 10 (by decide) (hg _ gm_fieldLink_RX9_151_ErrandGuild_Run_kin_LErrandGuild_Kin_) (fun _ h9 => h9) rfl dX9_gather_1 ?_
   refine va_get (D := (dC, dI)) (ci := 4) (v := va_rf (rA9 ad (K i 2))) (C := RX4) (T := TX4) (N := 9) hx hb hg gb_4 hown hK hP (50 + 16 * i + 1) (hQ.b1 hi) rfl 5 (by decide) (hg _ gm_fieldLink_RX9_225_ErrandGuild_Kin_firstChild_LErrandGuild_Run_) (fun _ h9 => h9) rfl dX9_gather_4 ?_
   rcases eo_1 : K i 2 with _ | j_2
   · refine W.eq (g2 := F0 m 7 ls [.null]) (by first | rfl | (rw [eo_1]; rfl)) ?_
     refine lv_astore_nN (lv' := [(2, .null), (0, .ref (ad 0)), (1, .ref (ad (50 + 16 * i)))]) hx hb dX9_gather_7 rfl hl (by decide) rfl (fun ls hl => ?_)
     have L8 : ∀ (fuel : Nat)  (o_3 : Option Nat)  (ws_5 : va_W) (G_4 : Nat → Nat → Int32)  (H : Heap) (locs : List Loc) (ls : Array Slot), chM M o_3 < fuel → (∀ j : Nat, o_3 = some j → j < M) → (cit K b_gather (f_gather i) 201 o_3 (C9.mk n f T G_4 K F) = k_gather i (C9.mk n f T G K F)) → Pic9 kc ws_5 ad ga gc M n f T G_4 K F → I9 M n f T gc G_4 K F R → va_P (dC, dI) vwCl ws_5 H → va_D A ws_5 → va_S A s.heap H locs → lv_has ls 3 [(2, va_rf (rA9 ad o_3)), (0, .ref (ad 0)), (1, .ref (ad (50 + 16 * i)))] → W p l e (headSpec (.code yX9_gather cX9_gather 3 (some .int) :: gw) ({ frames := 2, cells := 0, slots := 0, locals := 44 })).room s m ([.ref (ad 0), .ref (ad (50 + 16 * i))] : List Value).toArray below meth c H locs 0 0 (MQ below (va_Qi (fun (r : Int32) (u : (Nat → Nat) × (Nat → Nat) × (Nat → Nat) × Nat × (Nat → Int32) × (Nat → Nat → Int32) × (Nat → Option Nat) × (Nat → Nat → Int32) × (Nat → Nat → Option Nat) × (Nat → Nat → Nat → Int32)) => ((C9.mk n f T u.2.2.2.2.2.2.2.1 K F), r) = k_gather i (C9.mk n f T G K F)) (fun u t => ∃ w : va_W, va_P (dC, dI) vwCl w t.heap ∧ va_D A w ∧ Pic9 kc w ad ga gc M n f T u.2.2.2.2.2.2.2.1 K F ∧ I9 M n f T gc u.2.2.2.2.2.2.2.1 K F R ∧ hpS t.heap + (260 * M + 2 * S9 M gc) ≤ (hpS s.heap) + (260 * M + 2 * S9 M gc) ∧ 16 * t.heap.size + (256 * M + S9 M gc) ≤ 16 * s.heap.size + (256 * M + S9 M gc)) A) ([.ref (ad 0), .ref (ad (50 + 16 * i))] : List Value).toArray s 0 0 A) (F0 m 8 ls []) := by
       intro fuel
       induction fuel with
       | zero => intro o_3 ws_5 G_4 H locs ls hm; exact absurd hm (Nat.not_lt_zero _)
       | succ fuel_11 ih_10 =>
         intro o_3 ws_5 G_4 H locs ls hm_6 v_7 v_8 hQ hI_9 hP hD hS hl
         obtain ⟨i1_12, i2_13, i3_14, i4_15, i5_16, i6_17, i7_18, i8_19, i9_20, i10_21, i11_22⟩ := id hI_9
         have q1_ := i1_12
         unfold i1 at q1_
         rcases o_3 with _ | j_23
         · have hl : lv_has ls 3 [(2, .null), (0, .ref (ad 0)), (1, .ref (ad (50 + 16 * i)))] := hl
           exact by
            refine lv_aload_nN hx hb dX9_gather_8 rfl (lv_at hl 0 rfl) ?_
            refine lv_ifnullN (tgt := 41) hx hb dX9_gather_9 (by decide) ?_
            refine lv_aload_n hx hb dX9_gather_41 rfl (lv_at hl 2 rfl) ?_
            have hFc := free_all hD hS hA
            refine va_calli (va_runS (As := [.ref (ad (50 + 16 * i))]) (rest := []) ⟨hx, hb, hml, hown, hg⟩ (c_X9_areAwaitedOver l dC dI kc ws_5 ad ga gc M n f T G_4 K F R i H.size (hpS H) hQ ⟨i1_12, i2_13, i3_14, i4_15, i5_16, i6_17, i7_18, i8_19, i9_20, i10_21, i11_22⟩ (by show i < M; omega)) (va_cwS 1 hg (gw_S gm_methodLink_RX9_303_yX9_areAwaitedOver gm_static_yX9_areAwaitedOver gm_initialized_RX9 gm_code_yX9_areAwaitedOver_cX9_areAwaitedOver_2_some_boolean_) rfl rfl rfl (by decide +kernel) ⟨Nat.le_of_ble_eq_true rfl, Nat.le_of_ble_eq_true rfl⟩) ⟨fun a U g mk q => by obtain ⟨q0, q1, q2, qP, qK, qD, qN⟩ := q; exact ⟨q0, q1, q2, qP, va_K.moved (u := U) (U := U.calling g mk a) (Vm.Alike.refl U.vm) qK, qD, nx_same (u := U) (U := U.calling g mk a) rfl qN⟩, fun U hU hW => ⟨rfl, by rw [hU], by rw [hU], by rw [hU]; exact hP, va_K.moved hW.alike hK, hD.weaken (fun _ _ _ _ => trivial), nx_warm hW hN⟩⟩ rfl rfl hl.1 rfl (lv_room (Nat.le_of_ble_eq_true rfl)) dX9_gather_42 ⟨Nat.le_of_ble_eq_true rfl, Nat.le_of_ble_eq_true rfl⟩) hS (fun q _ h => hFc q h) hFc (fun r_24 u_25 t H1 locs ht hvm hw hB hz1 hk1 hS => ?_)
            obtain ⟨hP, hD, hy1, hy2⟩ := hB
            rw [ht] at hP hy1 hy2
            have hD := hD.weaken (fun k q _ h => hFc _ h)
            have q1_ := i1_12
            unfold i1 at q1_
            generalize H1 = H at hP hS ⊢
            rcases hw with ⟨rfl, w_26⟩ | ⟨rfl, w_26⟩
            · have hc_27 : k_aw K G_4 i = true := w_26
              exact by
               refine lv_if_eq (tgt := 53) hx hb dX9_gather_45 (by decide) (fun c_28 => absurd c_28 (by decide)) (fun _ => ?_)
               refine lv_aload_n hx hb dX9_gather_48 rfl (lv_at hl 2 rfl) ?_
               have hFc := free_all hD hS hA
               refine va_calli (va_runS (As := [.ref (ad (50 + 16 * i))]) (rest := []) ⟨hx, hb, hml, hown, hg⟩ (c_X9_takeAnswers l dC dI kc ws_5 ad ga gc M n f T G_4 K F R i H.size (hpS H) hQ ⟨i1_12, i2_13, i3_14, i4_15, i5_16, i6_17, i7_18, i8_19, i9_20, i10_21, i11_22⟩ (by show i < M; omega)) (va_cwS 1 hg (gw_S gm_methodLink_RX9_325_yX9_takeAnswers gm_static_yX9_takeAnswers gm_initialized_RX9 gm_code_yX9_takeAnswers_cX9_takeAnswers_4_some_int_) rfl rfl rfl (by decide +kernel) ⟨Nat.le_of_ble_eq_true rfl, Nat.le_of_ble_eq_true rfl⟩) ⟨fun a U g mk q => by obtain ⟨q0, q1, q2, qP, qK, qD, qN⟩ := q; exact ⟨q0, q1, q2, qP, va_K.moved (u := U) (U := U.calling g mk a) (Vm.Alike.refl U.vm) qK, qD, nx_same (u := U) (U := U.calling g mk a) rfl qN⟩, fun U hU hW => ⟨rfl, by rw [hU], by rw [hU], by rw [hU]; exact hP, va_K.moved hW.alike hK, hD.weaken (fun _ _ _ _ => trivial), nx_warm hW hN⟩⟩ rfl rfl hl.1 rfl (lv_room (Nat.le_of_ble_eq_true rfl)) dX9_gather_49 ⟨Nat.le_of_ble_eq_true rfl, Nat.le_of_ble_eq_true rfl⟩) hS (fun q _ h => hFc q h) hFc (fun r_29 u_30 t H1 locs ht hvm hw hB hz1 hk1 hS => ?_)
               obtain ⟨ad_31, ga_32, gc_33, M_34, n_35, f_36, T_37, G_38, K_39, F_40⟩ := u_30
               have hB : ∃ w : va_W, va_P (dC, dI) vwCl w t.heap ∧ va_D (va_A ws_5 H.size) w ∧ Pic9 kc w ad ga gc M n f T G_38 K F ∧ I9 M n f T gc G_38 K F R ∧ hpS t.heap + (260 * M + 2 * S9 M gc) ≤ hpS H + (260 * M + 2 * S9 M gc) ∧ 16 * t.heap.size + (256 * M + S9 M gc) ≤ 16 * H.size + (256 * M + S9 M gc) := hB
               rw [ht] at hB
               obtain ⟨ws_41, hP, hD, hQ, hI_42, hy1, hy2⟩ := hB
               have hD := hD.weaken (fun k q _ h => hFc _ h)
               obtain ⟨i1_43, i2_44, i3_45, i4_46, i5_47, i6_48, i7_49, i8_50, i9_51, i10_52, i11_53⟩ := id hI_42
               have q1_ := i1_43
               unfold i1 at q1_
               generalize H1 = H at hP hS ⊢
               have hc_55 : ((C9.mk n f T G_38 K F), r_29) = k_take i (C9.mk n f T G_4 K F) := hw
               refine W_msr2 (fun hm1 hm2 hm3 => ?_)
               exact W.iret (v := r_29) hx hb hr (fun t ht hW => ⟨⟨r_29, (ad, ga, gc, M, n, f, T, G_38, K, F), rfl, (by show ((C9.mk n f T G_38 K F), r_29) = k_gather i (C9.mk n f T G K F); have hX := v_8; (first | rw [cit_none] at hX | rw [cit_go i3_45 i4_46 (by omega) (by first | with_reducible assumption | omega)] at hX); (repeat (first | dsimp +instances only [c9n, c9f, c9T, c9G, c9K, c9F, b_come, b_leave, b_fill, awB, b_settle, b_wake, b_take, f_take, b_gather, f_gather, b_ask, a_ask, b_tell, c_close, d_close, k_add, k_rem, sco, k_clrF, k_mem, k_rebind, k_bnd, k_beg0, k_beg1, b_giveN, b_giveR, f_open, b_hand, k_op, b_turn, wlB, b_beat, f_anew, b_wipe, b_off, k_sadd, fits, frP, cntB, b_trace, b_child, k_lat, cond_true, cond_false, Option.elim_none, Option.elim_some, Option.getD_none, Option.getD_some] at hX | rw [eo_1] at hX | rw [hc_27] at hX | rw [← hc_55] at hX | rw [if_pos (by first | with_reducible assumption | omega)] at hX | rw [if_neg (by first | with_reducible assumption | omega)] at hX | rw [jx_of (by omega)] at hX)); first | exact hX | (exfalso; omega) | exact hX), ws_41, by rw [ht]; exact hP, hD, hQ, ⟨i1_43, i2_44, i3_45, i4_46, i5_47, i6_48, i7_49, i8_50, i9_51, i10_52, i11_53⟩, by rw [ht]; show hpS H + (260 * M + 2 * S9 M gc) ≤ hpS s.heap + (260 * M + 2 * S9 M gc); omega, by rw [ht]; show 16 * H.size + (256 * M + S9 M gc) ≤ 16 * s.heap.size + (256 * M + S9 M gc); omega⟩, hS.F ht⟩) hS.2.2 dX9_gather_52
            · have hc_56 : k_aw K G_4 i = false := w_26
              refine lv_if_eq (tgt := 53) hx hb dX9_gather_45 (by decide) (fun _ => ?_) (fun c_57 => absurd c_57 (by decide))
              refine lv_aload_n hx hb dX9_gather_53 rfl (lv_at hl 2 rfl) ?_
              refine lv_iconst (v := 2) hx hb dX9_gather_54 (by decide) ?_
              refine va_put (D := (dC, dI)) (ci := 7) (v := .int (2)) (ty := .int) (C := RX7) (T := TX7) (N := 15) hx hb hg gb_7 tyX7 tyX7_ok nmX7 hown hK hP hD hS (50 + 16 * i) (hQ.b0 hi) rfl 2 (by decide) (hg _ gm_fieldLink_RX9_145_ErrandGuild_Run_state_I_) (fun _ h9 => h9) rfl (by decide +kernel) rfl rfl (Nat.le_of_ble_eq_true rfl) dX9_gather_55 (fun H locs hP hD hS => ?_)
              obtain ⟨ws_59, G_58, eG_58, hP, hD, hQ⟩ : ∃ (ws_59 : va_W) (G_58 : Nat → Nat → Int32), G_58 = u2 G_4 i 2 2 ∧ va_P (dC, dI) vwCl ws_59 H ∧ va_D A ws_59 ∧ Pic9 kc ws_59 ad ga gc M n f T G_58 K F := ⟨_, _, rfl, hP, hD, hQ.run hi 2 (by decide) 2⟩
              have i10_60 : i10 M G_58 K F := by rw [eG_58]; exact (i10.pG i10_21 hi _ (by decide))
              have i11_61 : i11 M n gc f G_58 F := by rw [eG_58]; exact (i11.pG i11_22 i _ (by decide))
              have i6_62 : i6 n T G_58 := by rw [eG_58]; exact (i6.pG i6_17 i _ (by decide))
              have i7_63 : i7 n G_58 := by rw [eG_58]; exact (i7.st i7_18 i (by decide))
              have i8_64 : i8 M n gc G_58 := by rw [eG_58]; exact (i8.pG i8_19 i _ (by decide))
              have i9_65 : i9 M gc G_58 R := by rw [eG_58]; exact (i9.pG i9_20 i _ (by decide))
              have eg_66 : G_58 i 2 = 2 := by rw [eG_58, u2_eq]
              exact by
               refine lv_bipush (v := -2) hx hb dX9_gather_58 (by decide) ?_
               refine W_msr2 (fun hm1 hm2 hm3 => ?_)
               exact W.iret (v := -2) hx hb hr (fun t ht hW => ⟨⟨-2, (ad, ga, gc, M, n, f, T, G_58, K, F), rfl, (by show ((C9.mk n f T G_58 K F), (-2 : Int32)) = k_gather i (C9.mk n f T G K F); subst eG_58; have hX := v_8; (first | rw [cit_none] at hX | rw [cit_go i3_14 i4_15 (by omega) (by first | with_reducible assumption | omega)] at hX); (repeat (first | dsimp +instances only [c9n, c9f, c9T, c9G, c9K, c9F, b_come, b_leave, b_fill, awB, b_settle, b_wake, b_take, f_take, b_gather, f_gather, b_ask, a_ask, b_tell, c_close, d_close, k_add, k_rem, sco, k_clrF, k_mem, k_rebind, k_bnd, k_beg0, k_beg1, b_giveN, b_giveR, f_open, b_hand, k_op, b_turn, wlB, b_beat, f_anew, b_wipe, b_off, k_sadd, fits, frP, cntB, b_trace, b_child, k_lat, cond_true, cond_false, Option.elim_none, Option.elim_some, Option.getD_none, Option.getD_some] at hX | rw [eo_1] at hX | rw [hc_56] at hX | rw [if_pos (by first | with_reducible assumption | omega)] at hX | rw [if_neg (by first | with_reducible assumption | omega)] at hX | rw [jx_of (by omega)] at hX)); first | exact hX | (exfalso; omega) | exact hX), ws_59, by rw [ht]; exact hP, hD, hQ, ⟨i1_12, i2_13, i3_14, i4_15, i5_16, i6_62, i7_63, i8_64, i9_65, i10_60, i11_61⟩, by rw [ht]; show hpS H + (260 * M + 2 * S9 M gc) ≤ hpS s.heap + (260 * M + 2 * S9 M gc); omega, by rw [ht]; show 16 * H.size + (256 * M + S9 M gc) ≤ 16 * s.heap.size + (256 * M + S9 M gc); omega⟩, hS.F ht⟩) hS.2.2 dX9_gather_60
         · have hl : lv_has ls 3 [(2, .ref (ad (50 + 16 * j_23))), (0, .ref (ad 0)), (1, .ref (ad (50 + 16 * i)))] := hl
           have hj_23 : j_23 < M := v_7 _ rfl
           refine lv_aload_n hx hb dX9_gather_8 rfl (lv_at hl 0 rfl) ?_
           refine lv_ifnull hx hb dX9_gather_9 ?_
           refine lv_aload_n hx hb dX9_gather_12 rfl (lv_at hl 0 rfl) ?_
           refine va_get (D := (dC, dI)) (ci := 7) (v := .ref (ad (50 + 16 * j_23 + 1))) (C := RX7) (T := TX7) (N := 15) hx hb hg gb_7 hown hK hP (50 + 16 * j_23) (hQ.b0 hj_23) rfl 10 (by decide) (hg _ gm_fieldLink_RX9_151_ErrandGuild_Run_kin_LErrandGuild_Kin_) (fun _ h9 => h9) rfl dX9_gather_13 ?_
           refine va_get (D := (dC, dI)) (ci := 4) (v := .int (G_4 j_23 12)) (C := RX4) (T := TX4) (N := 9) hx hb hg gb_4 hown hK hP (50 + 16 * j_23 + 1) (hQ.b1 hj_23) rfl 4 (by decide) (hg _ gm_fieldLink_RX9_379_ErrandGuild_Kin_claim_I_) (fun _ h9 => h9) rfl dX9_gather_16 ?_
           refine lv_if_ne (tgt := 30) hx hb dX9_gather_19 (by decide) (fun c_67 => ?_) (fun c_67 => ?_)
           · simp only [i_lt, i_le, i_eq, ti_0] at c_67
             refine lv_aload_n hx hb dX9_gather_30 rfl (lv_at hl 0 rfl) ?_
             refine va_get (D := (dC, dI)) (ci := 7) (v := .ref (ad (50 + 16 * j_23 + 1))) (C := RX7) (T := TX7) (N := 15) hx hb hg gb_7 hown hK hP (50 + 16 * j_23) (hQ.b0 hj_23) rfl 10 (by decide) (hg _ gm_fieldLink_RX9_151_ErrandGuild_Run_kin_LErrandGuild_Kin_) (fun _ h9 => h9) rfl dX9_gather_31 ?_
             refine va_get (D := (dC, dI)) (ci := 4) (v := va_rf (rA9 ad (K j_23 4))) (C := RX4) (T := TX4) (N := 9) hx hb hg gb_4 hown hK hP (50 + 16 * j_23 + 1) (hQ.b1 hj_23) rfl 7 (by decide) (hg _ gm_fieldLink_RX9_228_ErrandGuild_Kin_nextSibling_LErrandGuild_Run_) (fun _ h9 => h9) rfl dX9_gather_34 ?_
             rcases eo_68 : K j_23 4 with _ | j_69
             · refine W.eq (g2 := F0 m 37 ls [.null]) (by first | rfl | (rw [eo_68]; rfl)) ?_
               exact by
                refine lv_astore_nN (lv' := [(2, .null), (0, .ref (ad 0)), (1, .ref (ad (50 + 16 * i)))]) hx hb dX9_gather_37 rfl hl (by decide) rfl (fun ls hl => ?_)
                refine lv_goto (tgt := 8) hx hb dX9_gather_38 (by decide) ?_
                exact ih_10  none  ws_5 G_4  H locs ls (by simp only [chM] at *; omega) (fun _ h => by cases h) (by show cit K b_gather (f_gather i) 201 none (C9.mk n f T G_4 K F) = k_gather i (C9.mk n f T G K F); have hX := v_8; (first | rw [cit_none] at hX | rw [cit_go i3_14 i4_15 (by omega) (by first | with_reducible assumption | omega)] at hX); (repeat (first | dsimp +instances only [c9n, c9f, c9T, c9G, c9K, c9F, b_come, b_leave, b_fill, awB, b_settle, b_wake, b_take, f_take, b_gather, f_gather, b_ask, a_ask, b_tell, c_close, d_close, k_add, k_rem, sco, k_clrF, k_mem, k_rebind, k_bnd, k_beg0, k_beg1, b_giveN, b_giveR, f_open, b_hand, k_op, b_turn, wlB, b_beat, f_anew, b_wipe, b_off, k_sadd, fits, frP, cntB, b_trace, b_child, k_lat, cond_true, cond_false, Option.elim_none, Option.elim_some, Option.getD_none, Option.getD_some] at hX | rw [eo_1] at hX | rw [eo_68] at hX | rw [if_pos (by first | with_reducible assumption | omega)] at hX | rw [if_neg (by first | with_reducible assumption | omega)] at hX | rw [jx_of (by omega)] at hX)); first | exact hX | (exfalso; omega) | exact hX) hQ ⟨i1_12, i2_13, i3_14, i4_15, i5_16, i6_17, i7_18, i8_19, i9_20, i10_21, i11_22⟩ hP hD hS (lv_sub hl [0, 1, 2] rfl)
             · refine W.eq (g2 := F0 m 37 ls [.ref (ad (50 + 16 * j_69))]) (by first | rfl | (rw [eo_68]; rfl)) ?_
               have hj_69 : j_69 < M := i3_14 _ _ _ hj_23 eo_68
               refine lv_astore_n (lv' := [(2, .ref (ad (50 + 16 * j_69))), (0, .ref (ad 0)), (1, .ref (ad (50 + 16 * i)))]) hx hb dX9_gather_37 rfl hl (by decide) rfl (fun ls hl => ?_)
               refine lv_goto (tgt := 8) hx hb dX9_gather_38 (by decide) ?_
               exact ih_10  (some j_69)  ws_5 G_4  H locs ls (by have := i4_15 _ _ hj_23 eo_68; simp only [chM] at *; omega) (fun _ h => by cases h; exact hj_69) (by show cit K b_gather (f_gather i) 201 (some j_69) (C9.mk n f T G_4 K F) = k_gather i (C9.mk n f T G K F); have hX := v_8; (first | rw [cit_none] at hX | rw [cit_go i3_14 i4_15 (by omega) (by first | with_reducible assumption | omega)] at hX); (repeat (first | dsimp +instances only [c9n, c9f, c9T, c9G, c9K, c9F, b_come, b_leave, b_fill, awB, b_settle, b_wake, b_take, f_take, b_gather, f_gather, b_ask, a_ask, b_tell, c_close, d_close, k_add, k_rem, sco, k_clrF, k_mem, k_rebind, k_bnd, k_beg0, k_beg1, b_giveN, b_giveR, f_open, b_hand, k_op, b_turn, wlB, b_beat, f_anew, b_wipe, b_off, k_sadd, fits, frP, cntB, b_trace, b_child, k_lat, cond_true, cond_false, Option.elim_none, Option.elim_some, Option.getD_none, Option.getD_some] at hX | rw [eo_1] at hX | rw [eo_68] at hX | rw [if_pos (by first | with_reducible assumption | omega)] at hX | rw [if_neg (by first | with_reducible assumption | omega)] at hX | rw [jx_of (by omega)] at hX)); first | exact hX | (exfalso; omega) | exact hX) hQ ⟨i1_12, i2_13, i3_14, i4_15, i5_16, i6_17, i7_18, i8_19, i9_20, i10_21, i11_22⟩ hP hD hS (lv_sub hl [0, 1, 2] rfl)
           · simp only [i_lt, i_le, i_eq, ti_0] at c_67
             refine lv_aload_n hx hb dX9_gather_22 rfl (lv_at hl 0 rfl) ?_
             refine va_get (D := (dC, dI)) (ci := 7) (v := .ref (ad (50 + 16 * j_23 + 1))) (C := RX7) (T := TX7) (N := 15) hx hb hg gb_7 hown hK hP (50 + 16 * j_23) (hQ.b0 hj_23) rfl 10 (by decide) (hg _ gm_fieldLink_RX9_151_ErrandGuild_Run_kin_LErrandGuild_Kin_) (fun _ h9 => h9) rfl dX9_gather_23 ?_
             refine lv_iconst (v := 1) hx hb dX9_gather_26 (by decide) ?_
             refine va_put (D := (dC, dI)) (ci := 4) (v := .int (1)) (ty := .int) (C := RX4) (T := TX4) (N := 9) hx hb hg gb_4 tyX4 tyX4_ok nmX4 hown hK hP hD hS (50 + 16 * j_23 + 1) (hQ.b1 hj_23) rfl 4 (by decide) (hg _ gm_fieldLink_RX9_379_ErrandGuild_Kin_claim_I_) (fun _ h9 => h9) rfl (by decide +kernel) rfl rfl (Nat.le_of_ble_eq_true rfl) dX9_gather_27 (fun H locs hP hD hS => ?_)
             obtain ⟨ws_71, G_70, eG_70, hP, hD, hQ⟩ : ∃ (ws_71 : va_W) (G_70 : Nat → Nat → Int32), G_70 = u2 G_4 j_23 12 1 ∧ va_P (dC, dI) vwCl ws_71 H ∧ va_D A ws_71 ∧ Pic9 kc ws_71 ad ga gc M n f T G_70 K F := ⟨_, _, rfl, hP, hD, hQ.kinI hj_23 12 4 (by decide) 1⟩
             have i10_72 : i10 M G_70 K F := by rw [eG_70]; exact (i10.pG i10_21 hj_23 _ (by decide))
             have i11_73 : i11 M n gc f G_70 F := by rw [eG_70]; exact (i11.pG i11_22 j_23 _ (by decide))
             have i6_74 : i6 n T G_70 := by rw [eG_70]; exact (i6.pG i6_17 j_23 _ (by decide))
             have i7_75 : i7 n G_70 := by rw [eG_70]; exact (i7.pG i7_18 j_23 _ (by decide))
             have i8_76 : i8 M n gc G_70 := by rw [eG_70]; exact (i8.pG i8_19 j_23 _ (by decide))
             have i9_77 : i9 M gc G_70 R := by rw [eG_70]; exact (i9.pG i9_20 j_23 _ (by decide))
             have eg_78 : G_70 j_23 12 = 1 := by rw [eG_70, u2_eq]
             exact by
              refine lv_aload_n hx hb dX9_gather_30 rfl (lv_at hl 0 rfl) ?_
              refine va_get (D := (dC, dI)) (ci := 7) (v := .ref (ad (50 + 16 * j_23 + 1))) (C := RX7) (T := TX7) (N := 15) hx hb hg gb_7 hown hK hP (50 + 16 * j_23) (hQ.b0 hj_23) rfl 10 (by decide) (hg _ gm_fieldLink_RX9_151_ErrandGuild_Run_kin_LErrandGuild_Kin_) (fun _ h9 => h9) rfl dX9_gather_31 ?_
              refine va_get (D := (dC, dI)) (ci := 4) (v := va_rf (rA9 ad (K j_23 4))) (C := RX4) (T := TX4) (N := 9) hx hb hg gb_4 hown hK hP (50 + 16 * j_23 + 1) (hQ.b1 hj_23) rfl 7 (by decide) (hg _ gm_fieldLink_RX9_228_ErrandGuild_Kin_nextSibling_LErrandGuild_Run_) (fun _ h9 => h9) rfl dX9_gather_34 ?_
              rcases eo_79 : K j_23 4 with _ | j_80
              · refine W.eq (g2 := F0 m 37 ls [.null]) (by first | rfl | (rw [eo_79]; rfl)) ?_
                refine lv_astore_nN (lv' := [(2, .null), (0, .ref (ad 0)), (1, .ref (ad (50 + 16 * i)))]) hx hb dX9_gather_37 rfl hl (by decide) rfl (fun ls hl => ?_)
                refine lv_goto (tgt := 8) hx hb dX9_gather_38 (by decide) ?_
                exact ih_10  none  ws_71 G_70  H locs ls (by simp only [chM] at *; omega) (fun _ h => by cases h) (by show cit K b_gather (f_gather i) 201 none (C9.mk n f T G_70 K F) = k_gather i (C9.mk n f T G K F); subst eG_70; have hX := v_8; (first | rw [cit_none] at hX | rw [cit_go i3_14 i4_15 (by omega) (by first | with_reducible assumption | omega)] at hX); (repeat (first | dsimp +instances only [c9n, c9f, c9T, c9G, c9K, c9F, b_come, b_leave, b_fill, awB, b_settle, b_wake, b_take, f_take, b_gather, f_gather, b_ask, a_ask, b_tell, c_close, d_close, k_add, k_rem, sco, k_clrF, k_mem, k_rebind, k_bnd, k_beg0, k_beg1, b_giveN, b_giveR, f_open, b_hand, k_op, b_turn, wlB, b_beat, f_anew, b_wipe, b_off, k_sadd, fits, frP, cntB, b_trace, b_child, k_lat, cond_true, cond_false, Option.elim_none, Option.elim_some, Option.getD_none, Option.getD_some] at hX | rw [eo_1] at hX | rw [eo_79] at hX | rw [if_pos (by first | with_reducible assumption | omega)] at hX | rw [if_neg (by first | with_reducible assumption | omega)] at hX | rw [jx_of (by omega)] at hX)); first | exact hX | (exfalso; omega) | exact hX) hQ ⟨i1_12, i2_13, i3_14, i4_15, i5_16, i6_74, i7_75, i8_76, i9_77, i10_72, i11_73⟩ hP hD hS (lv_sub hl [0, 1, 2] rfl)
              · refine W.eq (g2 := F0 m 37 ls [.ref (ad (50 + 16 * j_80))]) (by first | rfl | (rw [eo_79]; rfl)) ?_
                have hj_80 : j_80 < M := i3_14 _ _ _ hj_23 eo_79
                refine lv_astore_n (lv' := [(2, .ref (ad (50 + 16 * j_80))), (0, .ref (ad 0)), (1, .ref (ad (50 + 16 * i)))]) hx hb dX9_gather_37 rfl hl (by decide) rfl (fun ls hl => ?_)
                refine lv_goto (tgt := 8) hx hb dX9_gather_38 (by decide) ?_
                exact ih_10  (some j_80)  ws_71 G_70  H locs ls (by have := i4_15 _ _ hj_23 eo_79; simp only [chM] at *; omega) (fun _ h => by cases h; exact hj_80) (by show cit K b_gather (f_gather i) 201 (some j_80) (C9.mk n f T G_70 K F) = k_gather i (C9.mk n f T G K F); subst eG_70; have hX := v_8; (first | rw [cit_none] at hX | rw [cit_go i3_14 i4_15 (by omega) (by first | with_reducible assumption | omega)] at hX); (repeat (first | dsimp +instances only [c9n, c9f, c9T, c9G, c9K, c9F, b_come, b_leave, b_fill, awB, b_settle, b_wake, b_take, f_take, b_gather, f_gather, b_ask, a_ask, b_tell, c_close, d_close, k_add, k_rem, sco, k_clrF, k_mem, k_rebind, k_bnd, k_beg0, k_beg1, b_giveN, b_giveR, f_open, b_hand, k_op, b_turn, wlB, b_beat, f_anew, b_wipe, b_off, k_sadd, fits, frP, cntB, b_trace, b_child, k_lat, cond_true, cond_false, Option.elim_none, Option.elim_some, Option.getD_none, Option.getD_some] at hX | rw [eo_1] at hX | rw [eo_79] at hX | rw [if_pos (by first | with_reducible assumption | omega)] at hX | rw [if_neg (by first | with_reducible assumption | omega)] at hX | rw [jx_of (by omega)] at hX)); first | exact hX | (exfalso; omega) | exact hX) hQ ⟨i1_12, i2_13, i3_14, i4_15, i5_16, i6_74, i7_75, i8_76, i9_77, i10_72, i11_73⟩ hP hD hS (lv_sub hl [0, 1, 2] rfl)
     exact L8 _  none  ws G  _ _ _ (Nat.lt_succ_self _) (fun _ h => by cases h) (by show cit K b_gather (f_gather i) 201 none (C9.mk n f T G K F) = k_gather i (C9.mk n f T G K F); have hX := (k_gather.eq_1 i (C9.mk n f T G K F)).symm; (repeat (first | dsimp +instances only [c9n, c9f, c9T, c9G, c9K, c9F, b_come, b_leave, b_fill, awB, b_settle, b_wake, b_take, f_take, b_gather, f_gather, b_ask, a_ask, b_tell, c_close, d_close, k_add, k_rem, sco, k_clrF, k_mem, k_rebind, k_bnd, k_beg0, k_beg1, b_giveN, b_giveR, f_open, b_hand, k_op, b_turn, wlB, b_beat, f_anew, b_wipe, b_off, k_sadd, fits, frP, cntB, b_trace, b_child, k_lat, cond_true, cond_false, Option.elim_none, Option.elim_some, Option.getD_none, Option.getD_some] at hX | rw [eo_1] at hX | rw [if_pos (by first | with_reducible assumption | omega)] at hX | rw [if_neg (by first | with_reducible assumption | omega)] at hX | rw [jx_of (by omega)] at hX)); first | exact hX | (exfalso; omega) | exact hX) hQ ⟨h_i1, h_i2, h_i3, h_i4, h_i5, h_i6, h_i7, h_i8, h_i9, h_i10, h_i11⟩ hP hD hS (lv_sub hl [0, 1, 2] rfl)
   · refine W.eq (g2 := F0 m 7 ls [.ref (ad (50 + 16 * j_2))]) (by first | rfl | (rw [eo_1]; rfl)) ?_
     have hj_2 : j_2 < M := h_i3 _ _ _ hi eo_1
     refine lv_astore_n (lv' := [(2, .ref (ad (50 + 16 * j_2))), (0, .ref (ad 0)), (1, .ref (ad (50 + 16 * i)))]) hx hb dX9_gather_7 rfl hl (by decide) rfl (fun ls hl => ?_)
     have L8 : ∀ (fuel : Nat)  (o_81 : Option Nat)  (ws_83 : va_W) (G_82 : Nat → Nat → Int32)  (H : Heap) (locs : List Loc) (ls : Array Slot), chM M o_81 < fuel → (∀ j : Nat, o_81 = some j → j < M) → (cit K b_gather (f_gather i) 201 o_81 (C9.mk n f T G_82 K F) = k_gather i (C9.mk n f T G K F)) → Pic9 kc ws_83 ad ga gc M n f T G_82 K F → I9 M n f T gc G_82 K F R → va_P (dC, dI) vwCl ws_83 H → va_D A ws_83 → va_S A s.heap H locs → lv_has ls 3 [(2, va_rf (rA9 ad o_81)), (0, .ref (ad 0)), (1, .ref (ad (50 + 16 * i)))] → W p l e (headSpec (.code yX9_gather cX9_gather 3 (some .int) :: gw) ({ frames := 2, cells := 0, slots := 0, locals := 44 })).room s m ([.ref (ad 0), .ref (ad (50 + 16 * i))] : List Value).toArray below meth c H locs 0 0 (MQ below (va_Qi (fun (r : Int32) (u : (Nat → Nat) × (Nat → Nat) × (Nat → Nat) × Nat × (Nat → Int32) × (Nat → Nat → Int32) × (Nat → Option Nat) × (Nat → Nat → Int32) × (Nat → Nat → Option Nat) × (Nat → Nat → Nat → Int32)) => ((C9.mk n f T u.2.2.2.2.2.2.2.1 K F), r) = k_gather i (C9.mk n f T G K F)) (fun u t => ∃ w : va_W, va_P (dC, dI) vwCl w t.heap ∧ va_D A w ∧ Pic9 kc w ad ga gc M n f T u.2.2.2.2.2.2.2.1 K F ∧ I9 M n f T gc u.2.2.2.2.2.2.2.1 K F R ∧ hpS t.heap + (260 * M + 2 * S9 M gc) ≤ (hpS s.heap) + (260 * M + 2 * S9 M gc) ∧ 16 * t.heap.size + (256 * M + S9 M gc) ≤ 16 * s.heap.size + (256 * M + S9 M gc)) A) ([.ref (ad 0), .ref (ad (50 + 16 * i))] : List Value).toArray s 0 0 A) (F0 m 8 ls []) := by
       intro fuel
       induction fuel with
       | zero => intro o_81 ws_83 G_82 H locs ls hm; exact absurd hm (Nat.not_lt_zero _)
       | succ fuel_89 ih_88 =>
         intro o_81 ws_83 G_82 H locs ls hm_84 v_85 v_86 hQ hI_87 hP hD hS hl
         obtain ⟨i1_90, i2_91, i3_92, i4_93, i5_94, i6_95, i7_96, i8_97, i9_98, i10_99, i11_100⟩ := id hI_87
         have q1_ := i1_90
         unfold i1 at q1_
         rcases o_81 with _ | j_101
         · have hl : lv_has ls 3 [(2, .null), (0, .ref (ad 0)), (1, .ref (ad (50 + 16 * i)))] := hl
           exact by
            refine lv_aload_nN hx hb dX9_gather_8 rfl (lv_at hl 0 rfl) ?_
            refine lv_ifnullN (tgt := 41) hx hb dX9_gather_9 (by decide) ?_
            refine lv_aload_n hx hb dX9_gather_41 rfl (lv_at hl 2 rfl) ?_
            have hFc := free_all hD hS hA
            refine va_calli (va_runS (As := [.ref (ad (50 + 16 * i))]) (rest := []) ⟨hx, hb, hml, hown, hg⟩ (c_X9_areAwaitedOver l dC dI kc ws_83 ad ga gc M n f T G_82 K F R i H.size (hpS H) hQ ⟨i1_90, i2_91, i3_92, i4_93, i5_94, i6_95, i7_96, i8_97, i9_98, i10_99, i11_100⟩ (by show i < M; omega)) (va_cwS 1 hg (gw_S gm_methodLink_RX9_303_yX9_areAwaitedOver gm_static_yX9_areAwaitedOver gm_initialized_RX9 gm_code_yX9_areAwaitedOver_cX9_areAwaitedOver_2_some_boolean_) rfl rfl rfl (by decide +kernel) ⟨Nat.le_of_ble_eq_true rfl, Nat.le_of_ble_eq_true rfl⟩) ⟨fun a U g mk q => by obtain ⟨q0, q1, q2, qP, qK, qD, qN⟩ := q; exact ⟨q0, q1, q2, qP, va_K.moved (u := U) (U := U.calling g mk a) (Vm.Alike.refl U.vm) qK, qD, nx_same (u := U) (U := U.calling g mk a) rfl qN⟩, fun U hU hW => ⟨rfl, by rw [hU], by rw [hU], by rw [hU]; exact hP, va_K.moved hW.alike hK, hD.weaken (fun _ _ _ _ => trivial), nx_warm hW hN⟩⟩ rfl rfl hl.1 rfl (lv_room (Nat.le_of_ble_eq_true rfl)) dX9_gather_42 ⟨Nat.le_of_ble_eq_true rfl, Nat.le_of_ble_eq_true rfl⟩) hS (fun q _ h => hFc q h) hFc (fun r_102 u_103 t H1 locs ht hvm hw hB hz1 hk1 hS => ?_)
            obtain ⟨hP, hD, hy1, hy2⟩ := hB
            rw [ht] at hP hy1 hy2
            have hD := hD.weaken (fun k q _ h => hFc _ h)
            have q1_ := i1_90
            unfold i1 at q1_
            generalize H1 = H at hP hS ⊢
            rcases hw with ⟨rfl, w_104⟩ | ⟨rfl, w_104⟩
            · have hc_105 : k_aw K G_82 i = true := w_104
              exact by
               refine lv_if_eq (tgt := 53) hx hb dX9_gather_45 (by decide) (fun c_106 => absurd c_106 (by decide)) (fun _ => ?_)
               refine lv_aload_n hx hb dX9_gather_48 rfl (lv_at hl 2 rfl) ?_
               have hFc := free_all hD hS hA
               refine va_calli (va_runS (As := [.ref (ad (50 + 16 * i))]) (rest := []) ⟨hx, hb, hml, hown, hg⟩ (c_X9_takeAnswers l dC dI kc ws_83 ad ga gc M n f T G_82 K F R i H.size (hpS H) hQ ⟨i1_90, i2_91, i3_92, i4_93, i5_94, i6_95, i7_96, i8_97, i9_98, i10_99, i11_100⟩ (by show i < M; omega)) (va_cwS 1 hg (gw_S gm_methodLink_RX9_325_yX9_takeAnswers gm_static_yX9_takeAnswers gm_initialized_RX9 gm_code_yX9_takeAnswers_cX9_takeAnswers_4_some_int_) rfl rfl rfl (by decide +kernel) ⟨Nat.le_of_ble_eq_true rfl, Nat.le_of_ble_eq_true rfl⟩) ⟨fun a U g mk q => by obtain ⟨q0, q1, q2, qP, qK, qD, qN⟩ := q; exact ⟨q0, q1, q2, qP, va_K.moved (u := U) (U := U.calling g mk a) (Vm.Alike.refl U.vm) qK, qD, nx_same (u := U) (U := U.calling g mk a) rfl qN⟩, fun U hU hW => ⟨rfl, by rw [hU], by rw [hU], by rw [hU]; exact hP, va_K.moved hW.alike hK, hD.weaken (fun _ _ _ _ => trivial), nx_warm hW hN⟩⟩ rfl rfl hl.1 rfl (lv_room (Nat.le_of_ble_eq_true rfl)) dX9_gather_49 ⟨Nat.le_of_ble_eq_true rfl, Nat.le_of_ble_eq_true rfl⟩) hS (fun q _ h => hFc q h) hFc (fun r_107 u_108 t H1 locs ht hvm hw hB hz1 hk1 hS => ?_)
               obtain ⟨ad_109, ga_110, gc_111, M_112, n_113, f_114, T_115, G_116, K_117, F_118⟩ := u_108
               have hB : ∃ w : va_W, va_P (dC, dI) vwCl w t.heap ∧ va_D (va_A ws_83 H.size) w ∧ Pic9 kc w ad ga gc M n f T G_116 K F ∧ I9 M n f T gc G_116 K F R ∧ hpS t.heap + (260 * M + 2 * S9 M gc) ≤ hpS H + (260 * M + 2 * S9 M gc) ∧ 16 * t.heap.size + (256 * M + S9 M gc) ≤ 16 * H.size + (256 * M + S9 M gc) := hB
               rw [ht] at hB
               obtain ⟨ws_119, hP, hD, hQ, hI_120, hy1, hy2⟩ := hB
               have hD := hD.weaken (fun k q _ h => hFc _ h)
               obtain ⟨i1_121, i2_122, i3_123, i4_124, i5_125, i6_126, i7_127, i8_128, i9_129, i10_130, i11_131⟩ := id hI_120
               have q1_ := i1_121
               unfold i1 at q1_
               generalize H1 = H at hP hS ⊢
               have hc_133 : ((C9.mk n f T G_116 K F), r_107) = k_take i (C9.mk n f T G_82 K F) := hw
               refine W_msr2 (fun hm1 hm2 hm3 => ?_)
               exact W.iret (v := r_107) hx hb hr (fun t ht hW => ⟨⟨r_107, (ad, ga, gc, M, n, f, T, G_116, K, F), rfl, (by show ((C9.mk n f T G_116 K F), r_107) = k_gather i (C9.mk n f T G K F); have hX := v_86; (first | rw [cit_none] at hX | rw [cit_go i3_123 i4_124 (by omega) (by first | with_reducible assumption | omega)] at hX); (repeat (first | dsimp +instances only [c9n, c9f, c9T, c9G, c9K, c9F, b_come, b_leave, b_fill, awB, b_settle, b_wake, b_take, f_take, b_gather, f_gather, b_ask, a_ask, b_tell, c_close, d_close, k_add, k_rem, sco, k_clrF, k_mem, k_rebind, k_bnd, k_beg0, k_beg1, b_giveN, b_giveR, f_open, b_hand, k_op, b_turn, wlB, b_beat, f_anew, b_wipe, b_off, k_sadd, fits, frP, cntB, b_trace, b_child, k_lat, cond_true, cond_false, Option.elim_none, Option.elim_some, Option.getD_none, Option.getD_some] at hX | rw [eo_1] at hX | rw [hc_105] at hX | rw [← hc_133] at hX | rw [if_pos (by first | with_reducible assumption | omega)] at hX | rw [if_neg (by first | with_reducible assumption | omega)] at hX | rw [jx_of (by omega)] at hX)); first | exact hX | (exfalso; omega) | exact hX), ws_119, by rw [ht]; exact hP, hD, hQ, ⟨i1_121, i2_122, i3_123, i4_124, i5_125, i6_126, i7_127, i8_128, i9_129, i10_130, i11_131⟩, by rw [ht]; show hpS H + (260 * M + 2 * S9 M gc) ≤ hpS s.heap + (260 * M + 2 * S9 M gc); omega, by rw [ht]; show 16 * H.size + (256 * M + S9 M gc) ≤ 16 * s.heap.size + (256 * M + S9 M gc); omega⟩, hS.F ht⟩) hS.2.2 dX9_gather_52
            · have hc_134 : k_aw K G_82 i = false := w_104
              refine lv_if_eq (tgt := 53) hx hb dX9_gather_45 (by decide) (fun _ => ?_) (fun c_135 => absurd c_135 (by decide))
              refine lv_aload_n hx hb dX9_gather_53 rfl (lv_at hl 2 rfl) ?_
              refine lv_iconst (v := 2) hx hb dX9_gather_54 (by decide) ?_
              refine va_put (D := (dC, dI)) (ci := 7) (v := .int (2)) (ty := .int) (C := RX7) (T := TX7) (N := 15) hx hb hg gb_7 tyX7 tyX7_ok nmX7 hown hK hP hD hS (50 + 16 * i) (hQ.b0 hi) rfl 2 (by decide) (hg _ gm_fieldLink_RX9_145_ErrandGuild_Run_state_I_) (fun _ h9 => h9) rfl (by decide +kernel) rfl rfl (Nat.le_of_ble_eq_true rfl) dX9_gather_55 (fun H locs hP hD hS => ?_)
              obtain ⟨ws_137, G_136, eG_136, hP, hD, hQ⟩ : ∃ (ws_137 : va_W) (G_136 : Nat → Nat → Int32), G_136 = u2 G_82 i 2 2 ∧ va_P (dC, dI) vwCl ws_137 H ∧ va_D A ws_137 ∧ Pic9 kc ws_137 ad ga gc M n f T G_136 K F := ⟨_, _, rfl, hP, hD, hQ.run hi 2 (by decide) 2⟩
              have i10_138 : i10 M G_136 K F := by rw [eG_136]; exact (i10.pG i10_99 hi _ (by decide))
              have i11_139 : i11 M n gc f G_136 F := by rw [eG_136]; exact (i11.pG i11_100 i _ (by decide))
              have i6_140 : i6 n T G_136 := by rw [eG_136]; exact (i6.pG i6_95 i _ (by decide))
              have i7_141 : i7 n G_136 := by rw [eG_136]; exact (i7.st i7_96 i (by decide))
              have i8_142 : i8 M n gc G_136 := by rw [eG_136]; exact (i8.pG i8_97 i _ (by decide))
              have i9_143 : i9 M gc G_136 R := by rw [eG_136]; exact (i9.pG i9_98 i _ (by decide))
              have eg_144 : G_136 i 2 = 2 := by rw [eG_136, u2_eq]
              exact by
               refine lv_bipush (v := -2) hx hb dX9_gather_58 (by decide) ?_
               refine W_msr2 (fun hm1 hm2 hm3 => ?_)
               exact W.iret (v := -2) hx hb hr (fun t ht hW => ⟨⟨-2, (ad, ga, gc, M, n, f, T, G_136, K, F), rfl, (by show ((C9.mk n f T G_136 K F), (-2 : Int32)) = k_gather i (C9.mk n f T G K F); subst eG_136; have hX := v_86; (first | rw [cit_none] at hX | rw [cit_go i3_92 i4_93 (by omega) (by first | with_reducible assumption | omega)] at hX); (repeat (first | dsimp +instances only [c9n, c9f, c9T, c9G, c9K, c9F, b_come, b_leave, b_fill, awB, b_settle, b_wake, b_take, f_take, b_gather, f_gather, b_ask, a_ask, b_tell, c_close, d_close, k_add, k_rem, sco, k_clrF, k_mem, k_rebind, k_bnd, k_beg0, k_beg1, b_giveN, b_giveR, f_open, b_hand, k_op, b_turn, wlB, b_beat, f_anew, b_wipe, b_off, k_sadd, fits, frP, cntB, b_trace, b_child, k_lat, cond_true, cond_false, Option.elim_none, Option.elim_some, Option.getD_none, Option.getD_some] at hX | rw [eo_1] at hX | rw [hc_134] at hX | rw [if_pos (by first | with_reducible assumption | omega)] at hX | rw [if_neg (by first | with_reducible assumption | omega)] at hX | rw [jx_of (by omega)] at hX)); first | exact hX | (exfalso; omega) | exact hX), ws_137, by rw [ht]; exact hP, hD, hQ, ⟨i1_90, i2_91, i3_92, i4_93, i5_94, i6_140, i7_141, i8_142, i9_143, i10_138, i11_139⟩, by rw [ht]; show hpS H + (260 * M + 2 * S9 M gc) ≤ hpS s.heap + (260 * M + 2 * S9 M gc); omega, by rw [ht]; show 16 * H.size + (256 * M + S9 M gc) ≤ 16 * s.heap.size + (256 * M + S9 M gc); omega⟩, hS.F ht⟩) hS.2.2 dX9_gather_60
         · have hl : lv_has ls 3 [(2, .ref (ad (50 + 16 * j_101))), (0, .ref (ad 0)), (1, .ref (ad (50 + 16 * i)))] := hl
           have hj_101 : j_101 < M := v_85 _ rfl
           refine lv_aload_n hx hb dX9_gather_8 rfl (lv_at hl 0 rfl) ?_
           refine lv_ifnull hx hb dX9_gather_9 ?_
           refine lv_aload_n hx hb dX9_gather_12 rfl (lv_at hl 0 rfl) ?_
           refine va_get (D := (dC, dI)) (ci := 7) (v := .ref (ad (50 + 16 * j_101 + 1))) (C := RX7) (T := TX7) (N := 15) hx hb hg gb_7 hown hK hP (50 + 16 * j_101) (hQ.b0 hj_101) rfl 10 (by decide) (hg _ gm_fieldLink_RX9_151_ErrandGuild_Run_kin_LErrandGuild_Kin_) (fun _ h9 => h9) rfl dX9_gather_13 ?_
           refine va_get (D := (dC, dI)) (ci := 4) (v := .int (G_82 j_101 12)) (C := RX4) (T := TX4) (N := 9) hx hb hg gb_4 hown hK hP (50 + 16 * j_101 + 1) (hQ.b1 hj_101) rfl 4 (by decide) (hg _ gm_fieldLink_RX9_379_ErrandGuild_Kin_claim_I_) (fun _ h9 => h9) rfl dX9_gather_16 ?_
           refine lv_if_ne (tgt := 30) hx hb dX9_gather_19 (by decide) (fun c_145 => ?_) (fun c_145 => ?_)
           · simp only [i_lt, i_le, i_eq, ti_0] at c_145
             refine lv_aload_n hx hb dX9_gather_30 rfl (lv_at hl 0 rfl) ?_
             refine va_get (D := (dC, dI)) (ci := 7) (v := .ref (ad (50 + 16 * j_101 + 1))) (C := RX7) (T := TX7) (N := 15) hx hb hg gb_7 hown hK hP (50 + 16 * j_101) (hQ.b0 hj_101) rfl 10 (by decide) (hg _ gm_fieldLink_RX9_151_ErrandGuild_Run_kin_LErrandGuild_Kin_) (fun _ h9 => h9) rfl dX9_gather_31 ?_
             refine va_get (D := (dC, dI)) (ci := 4) (v := va_rf (rA9 ad (K j_101 4))) (C := RX4) (T := TX4) (N := 9) hx hb hg gb_4 hown hK hP (50 + 16 * j_101 + 1) (hQ.b1 hj_101) rfl 7 (by decide) (hg _ gm_fieldLink_RX9_228_ErrandGuild_Kin_nextSibling_LErrandGuild_Run_) (fun _ h9 => h9) rfl dX9_gather_34 ?_
             rcases eo_146 : K j_101 4 with _ | j_147
             · refine W.eq (g2 := F0 m 37 ls [.null]) (by first | rfl | (rw [eo_146]; rfl)) ?_
               exact by
                refine lv_astore_nN (lv' := [(2, .null), (0, .ref (ad 0)), (1, .ref (ad (50 + 16 * i)))]) hx hb dX9_gather_37 rfl hl (by decide) rfl (fun ls hl => ?_)
                refine lv_goto (tgt := 8) hx hb dX9_gather_38 (by decide) ?_
                exact ih_88  none  ws_83 G_82  H locs ls (by simp only [chM] at *; omega) (fun _ h => by cases h) (by show cit K b_gather (f_gather i) 201 none (C9.mk n f T G_82 K F) = k_gather i (C9.mk n f T G K F); have hX := v_86; (first | rw [cit_none] at hX | rw [cit_go i3_92 i4_93 (by omega) (by first | with_reducible assumption | omega)] at hX); (repeat (first | dsimp +instances only [c9n, c9f, c9T, c9G, c9K, c9F, b_come, b_leave, b_fill, awB, b_settle, b_wake, b_take, f_take, b_gather, f_gather, b_ask, a_ask, b_tell, c_close, d_close, k_add, k_rem, sco, k_clrF, k_mem, k_rebind, k_bnd, k_beg0, k_beg1, b_giveN, b_giveR, f_open, b_hand, k_op, b_turn, wlB, b_beat, f_anew, b_wipe, b_off, k_sadd, fits, frP, cntB, b_trace, b_child, k_lat, cond_true, cond_false, Option.elim_none, Option.elim_some, Option.getD_none, Option.getD_some] at hX | rw [eo_1] at hX | rw [eo_146] at hX | rw [if_pos (by first | with_reducible assumption | omega)] at hX | rw [if_neg (by first | with_reducible assumption | omega)] at hX | rw [jx_of (by omega)] at hX)); first | exact hX | (exfalso; omega) | exact hX) hQ ⟨i1_90, i2_91, i3_92, i4_93, i5_94, i6_95, i7_96, i8_97, i9_98, i10_99, i11_100⟩ hP hD hS (lv_sub hl [0, 1, 2] rfl)
             · refine W.eq (g2 := F0 m 37 ls [.ref (ad (50 + 16 * j_147))]) (by first | rfl | (rw [eo_146]; rfl)) ?_
               have hj_147 : j_147 < M := i3_92 _ _ _ hj_101 eo_146
               refine lv_astore_n (lv' := [(2, .ref (ad (50 + 16 * j_147))), (0, .ref (ad 0)), (1, .ref (ad (50 + 16 * i)))]) hx hb dX9_gather_37 rfl hl (by decide) rfl (fun ls hl => ?_)
               refine lv_goto (tgt := 8) hx hb dX9_gather_38 (by decide) ?_
               exact ih_88  (some j_147)  ws_83 G_82  H locs ls (by have := i4_93 _ _ hj_101 eo_146; simp only [chM] at *; omega) (fun _ h => by cases h; exact hj_147) (by show cit K b_gather (f_gather i) 201 (some j_147) (C9.mk n f T G_82 K F) = k_gather i (C9.mk n f T G K F); have hX := v_86; (first | rw [cit_none] at hX | rw [cit_go i3_92 i4_93 (by omega) (by first | with_reducible assumption | omega)] at hX); (repeat (first | dsimp +instances only [c9n, c9f, c9T, c9G, c9K, c9F, b_come, b_leave, b_fill, awB, b_settle, b_wake, b_take, f_take, b_gather, f_gather, b_ask, a_ask, b_tell, c_close, d_close, k_add, k_rem, sco, k_clrF, k_mem, k_rebind, k_bnd, k_beg0, k_beg1, b_giveN, b_giveR, f_open, b_hand, k_op, b_turn, wlB, b_beat, f_anew, b_wipe, b_off, k_sadd, fits, frP, cntB, b_trace, b_child, k_lat, cond_true, cond_false, Option.elim_none, Option.elim_some, Option.getD_none, Option.getD_some] at hX | rw [eo_1] at hX | rw [eo_146] at hX | rw [if_pos (by first | with_reducible assumption | omega)] at hX | rw [if_neg (by first | with_reducible assumption | omega)] at hX | rw [jx_of (by omega)] at hX)); first | exact hX | (exfalso; omega) | exact hX) hQ ⟨i1_90, i2_91, i3_92, i4_93, i5_94, i6_95, i7_96, i8_97, i9_98, i10_99, i11_100⟩ hP hD hS (lv_sub hl [0, 1, 2] rfl)
           · simp only [i_lt, i_le, i_eq, ti_0] at c_145
             refine lv_aload_n hx hb dX9_gather_22 rfl (lv_at hl 0 rfl) ?_
             refine va_get (D := (dC, dI)) (ci := 7) (v := .ref (ad (50 + 16 * j_101 + 1))) (C := RX7) (T := TX7) (N := 15) hx hb hg gb_7 hown hK hP (50 + 16 * j_101) (hQ.b0 hj_101) rfl 10 (by decide) (hg _ gm_fieldLink_RX9_151_ErrandGuild_Run_kin_LErrandGuild_Kin_) (fun _ h9 => h9) rfl dX9_gather_23 ?_
             refine lv_iconst (v := 1) hx hb dX9_gather_26 (by decide) ?_
             refine va_put (D := (dC, dI)) (ci := 4) (v := .int (1)) (ty := .int) (C := RX4) (T := TX4) (N := 9) hx hb hg gb_4 tyX4 tyX4_ok nmX4 hown hK hP hD hS (50 + 16 * j_101 + 1) (hQ.b1 hj_101) rfl 4 (by decide) (hg _ gm_fieldLink_RX9_379_ErrandGuild_Kin_claim_I_) (fun _ h9 => h9) rfl (by decide +kernel) rfl rfl (Nat.le_of_ble_eq_true rfl) dX9_gather_27 (fun H locs hP hD hS => ?_)
             obtain ⟨ws_149, G_148, eG_148, hP, hD, hQ⟩ : ∃ (ws_149 : va_W) (G_148 : Nat → Nat → Int32), G_148 = u2 G_82 j_101 12 1 ∧ va_P (dC, dI) vwCl ws_149 H ∧ va_D A ws_149 ∧ Pic9 kc ws_149 ad ga gc M n f T G_148 K F := ⟨_, _, rfl, hP, hD, hQ.kinI hj_101 12 4 (by decide) 1⟩
             have i10_150 : i10 M G_148 K F := by rw [eG_148]; exact (i10.pG i10_99 hj_101 _ (by decide))
             have i11_151 : i11 M n gc f G_148 F := by rw [eG_148]; exact (i11.pG i11_100 j_101 _ (by decide))
             have i6_152 : i6 n T G_148 := by rw [eG_148]; exact (i6.pG i6_95 j_101 _ (by decide))
             have i7_153 : i7 n G_148 := by rw [eG_148]; exact (i7.pG i7_96 j_101 _ (by decide))
             have i8_154 : i8 M n gc G_148 := by rw [eG_148]; exact (i8.pG i8_97 j_101 _ (by decide))
             have i9_155 : i9 M gc G_148 R := by rw [eG_148]; exact (i9.pG i9_98 j_101 _ (by decide))
             have eg_156 : G_148 j_101 12 = 1 := by rw [eG_148, u2_eq]
             exact by
              refine lv_aload_n hx hb dX9_gather_30 rfl (lv_at hl 0 rfl) ?_
              refine va_get (D := (dC, dI)) (ci := 7) (v := .ref (ad (50 + 16 * j_101 + 1))) (C := RX7) (T := TX7) (N := 15) hx hb hg gb_7 hown hK hP (50 + 16 * j_101) (hQ.b0 hj_101) rfl 10 (by decide) (hg _ gm_fieldLink_RX9_151_ErrandGuild_Run_kin_LErrandGuild_Kin_) (fun _ h9 => h9) rfl dX9_gather_31 ?_
              refine va_get (D := (dC, dI)) (ci := 4) (v := va_rf (rA9 ad (K j_101 4))) (C := RX4) (T := TX4) (N := 9) hx hb hg gb_4 hown hK hP (50 + 16 * j_101 + 1) (hQ.b1 hj_101) rfl 7 (by decide) (hg _ gm_fieldLink_RX9_228_ErrandGuild_Kin_nextSibling_LErrandGuild_Run_) (fun _ h9 => h9) rfl dX9_gather_34 ?_
              rcases eo_157 : K j_101 4 with _ | j_158
              · refine W.eq (g2 := F0 m 37 ls [.null]) (by first | rfl | (rw [eo_157]; rfl)) ?_
                refine lv_astore_nN (lv' := [(2, .null), (0, .ref (ad 0)), (1, .ref (ad (50 + 16 * i)))]) hx hb dX9_gather_37 rfl hl (by decide) rfl (fun ls hl => ?_)
                refine lv_goto (tgt := 8) hx hb dX9_gather_38 (by decide) ?_
                exact ih_88  none  ws_149 G_148  H locs ls (by simp only [chM] at *; omega) (fun _ h => by cases h) (by show cit K b_gather (f_gather i) 201 none (C9.mk n f T G_148 K F) = k_gather i (C9.mk n f T G K F); subst eG_148; have hX := v_86; (first | rw [cit_none] at hX | rw [cit_go i3_92 i4_93 (by omega) (by first | with_reducible assumption | omega)] at hX); (repeat (first | dsimp +instances only [c9n, c9f, c9T, c9G, c9K, c9F, b_come, b_leave, b_fill, awB, b_settle, b_wake, b_take, f_take, b_gather, f_gather, b_ask, a_ask, b_tell, c_close, d_close, k_add, k_rem, sco, k_clrF, k_mem, k_rebind, k_bnd, k_beg0, k_beg1, b_giveN, b_giveR, f_open, b_hand, k_op, b_turn, wlB, b_beat, f_anew, b_wipe, b_off, k_sadd, fits, frP, cntB, b_trace, b_child, k_lat, cond_true, cond_false, Option.elim_none, Option.elim_some, Option.getD_none, Option.getD_some] at hX | rw [eo_1] at hX | rw [eo_157] at hX | rw [if_pos (by first | with_reducible assumption | omega)] at hX | rw [if_neg (by first | with_reducible assumption | omega)] at hX | rw [jx_of (by omega)] at hX)); first | exact hX | (exfalso; omega) | exact hX) hQ ⟨i1_90, i2_91, i3_92, i4_93, i5_94, i6_152, i7_153, i8_154, i9_155, i10_150, i11_151⟩ hP hD hS (lv_sub hl [0, 1, 2] rfl)
              · refine W.eq (g2 := F0 m 37 ls [.ref (ad (50 + 16 * j_158))]) (by first | rfl | (rw [eo_157]; rfl)) ?_
                have hj_158 : j_158 < M := i3_92 _ _ _ hj_101 eo_157
                refine lv_astore_n (lv' := [(2, .ref (ad (50 + 16 * j_158))), (0, .ref (ad 0)), (1, .ref (ad (50 + 16 * i)))]) hx hb dX9_gather_37 rfl hl (by decide) rfl (fun ls hl => ?_)
                refine lv_goto (tgt := 8) hx hb dX9_gather_38 (by decide) ?_
                exact ih_88  (some j_158)  ws_149 G_148  H locs ls (by have := i4_93 _ _ hj_101 eo_157; simp only [chM] at *; omega) (fun _ h => by cases h; exact hj_158) (by show cit K b_gather (f_gather i) 201 (some j_158) (C9.mk n f T G_148 K F) = k_gather i (C9.mk n f T G K F); subst eG_148; have hX := v_86; (first | rw [cit_none] at hX | rw [cit_go i3_92 i4_93 (by omega) (by first | with_reducible assumption | omega)] at hX); (repeat (first | dsimp +instances only [c9n, c9f, c9T, c9G, c9K, c9F, b_come, b_leave, b_fill, awB, b_settle, b_wake, b_take, f_take, b_gather, f_gather, b_ask, a_ask, b_tell, c_close, d_close, k_add, k_rem, sco, k_clrF, k_mem, k_rebind, k_bnd, k_beg0, k_beg1, b_giveN, b_giveR, f_open, b_hand, k_op, b_turn, wlB, b_beat, f_anew, b_wipe, b_off, k_sadd, fits, frP, cntB, b_trace, b_child, k_lat, cond_true, cond_false, Option.elim_none, Option.elim_some, Option.getD_none, Option.getD_some] at hX | rw [eo_1] at hX | rw [eo_157] at hX | rw [if_pos (by first | with_reducible assumption | omega)] at hX | rw [if_neg (by first | with_reducible assumption | omega)] at hX | rw [jx_of (by omega)] at hX)); first | exact hX | (exfalso; omega) | exact hX) hQ ⟨i1_90, i2_91, i3_92, i4_93, i5_94, i6_152, i7_153, i8_154, i9_155, i10_150, i11_151⟩ hP hD hS (lv_sub hl [0, 1, 2] rfl)
     exact L8 _  (some j_2)  ws G  _ _ _ (Nat.lt_succ_self _) (fun _ h => by cases h; exact hj_2) (by show cit K b_gather (f_gather i) 201 (some j_2) (C9.mk n f T G K F) = k_gather i (C9.mk n f T G K F); have hX := (k_gather.eq_1 i (C9.mk n f T G K F)).symm; (repeat (first | dsimp +instances only [c9n, c9f, c9T, c9G, c9K, c9F, b_come, b_leave, b_fill, awB, b_settle, b_wake, b_take, f_take, b_gather, f_gather, b_ask, a_ask, b_tell, c_close, d_close, k_add, k_rem, sco, k_clrF, k_mem, k_rebind, k_bnd, k_beg0, k_beg1, b_giveN, b_giveR, f_open, b_hand, k_op, b_turn, wlB, b_beat, f_anew, b_wipe, b_off, k_sadd, fits, frP, cntB, b_trace, b_child, k_lat, cond_true, cond_false, Option.elim_none, Option.elim_some, Option.getD_none, Option.getD_some] at hX | rw [eo_1] at hX | rw [if_pos (by first | with_reducible assumption | omega)] at hX | rw [if_neg (by first | with_reducible assumption | omega)] at hX | rw [jx_of (by omega)] at hX)); first | exact hX | (exfalso; omega) | exact hX) hQ ⟨h_i1, h_i2, h_i3, h_i4, h_i5, h_i6, h_i7, h_i8, h_i9, h_i10, h_i11⟩ hP hD hS (lv_sub hl [0, 1, 2] rfl)

set_option maxHeartbeats 8000000 in
set_option maxRecDepth 100000 in
theorem c_X9_failWith (l : Launch) (dC : Nat → ClassId) (dI : Nat → Nat → Nat) (kc : Nat → ClassId) (ws : va_W) (ad : Nat → Nat) (ga : Nat → Nat) (gc : Nat → Nat) (M : Nat) (n : Nat → Int32) (f : Nat → Nat → Int32) (T : Nat → Option Nat) (G : Nat → Nat → Int32) (K : Nat → Nat → Option Nat) (F : Nat → Nat → Nat → Int32) (R : Nat) (i : Nat) (v2 : Int32) (sz hz : Nat) (hQ : Pic9 kc ws ad ga gc M n f T G K F) (hI : I9 M n f T gc G K F R) (hi : i < M) : Met l yX9_failWith (.code yX9_failWith cX9_failWith 4 none :: gw) ({ frames := 2, cells := 0, slots := 0, locals := 44 }) (va_Pc [.ref (ad 0), .ref (ad (50 + 16 * i)), .int v2] (fun U => U.heap.size = sz ∧ hpS U.heap = hz ∧ va_P (dC, dI) vwCl ws U.heap ∧ va_K (dC, dI) vwCl (t9 kc) U ∧ va_D (fun _ => True) ws ∧ nx U)) (va_Qv (fun (u : (Nat → Nat) × (Nat → Nat) × (Nat → Nat) × Nat × (Nat → Int32) × (Nat → Nat → Int32) × (Nat → Option Nat) × (Nat → Nat → Int32) × (Nat → Nat → Option Nat) × (Nat → Nat → Nat → Int32)) => (C9.mk n f T u.2.2.2.2.2.2.2.1 K u.2.2.2.2.2.2.2.2.2) = k_fail i v2 (C9.mk n f T G K F)) (fun u t => ∃ w : va_W, va_P (dC, dI) vwCl w t.heap ∧ va_D (va_A ws sz) w ∧ Pic9 kc w ad ga gc M n f T u.2.2.2.2.2.2.2.1 K u.2.2.2.2.2.2.2.2.2 ∧ I9 M n f T gc u.2.2.2.2.2.2.2.1 K u.2.2.2.2.2.2.2.2.2 R ∧ hpS t.heap + (260 * M + 2 * S9 M gc) ≤ hz + (260 * M + 2 * S9 M gc) ∧ 16 * t.heap.size + (256 * M + S9 M gc) ≤ 16 * sz + (256 * M + S9 M gc)) (va_A ws sz)) 0 0 (va_A ws sz) := by
  refine Met.ofW (cc := cX9_failWith) (maxL := 4) (ret := none) (by decide) rfl ?_
  intro p e s m args below meth c s₁ B hml hv
  obtain ⟨rfl, hsz, rfl, hP, hK, hD0, hN⟩ := hv
  have hx := B.exec
  have hb := B.bytes
  have hr := B.returns
  have hts := atoms_spec (ws := .code yX9_failWith cX9_failWith 4 none :: gw) B.pre
  have hg : ∀ w ∈ gw, w.before _ s = true := fun w h => hts w (List.mem_cons_of_mem _ h)
  have hown : s.vm.findClass RX9 = some m.cls := findClass_of_methodNamed B.named
  have hlocks := B.notSynchronized
  subst hsz
  have hD := hD0.self (sz := s.heap.size)
  generalize hAe : va_A ws s.heap.size = A at hD ⊢
  have hA : ∀ q : Nat, s.heap.size ≤ q → A q := fun q h => by rw [← hAe]; exact Or.inr h
  clear hAe
  have hS : va_S A s.heap s.heap [] := va_S.rf
  have hl := lv_entry ([.ref (ad 0), .ref (ad (50 + 16 * i)), .int v2]) (n := 4) (Nat.le_of_ble_eq_true rfl)
  rw [lg_entry_eq]
  generalize (lg_sl ([.ref (ad 0), .ref (ad (50 + 16 * i)), .int v2]) ++ List.replicate (4 - (lg_sl ([.ref (ad 0), .ref (ad (50 + 16 * i)), .int v2])).length) Slot.unset).toArray = ls at hl ⊢
  have hl : lv_has ls 4 [(0, .ref (ad 0)), (1, .ref (ad (50 + 16 * i))), (2, .int v2)] := hl
  obtain ⟨h_i1, h_i2, h_i3, h_i4, h_i5, h_i6, h_i7, h_i8, h_i9, h_i10, h_i11⟩ := id hI
  have q1_ := h_i1
  unfold i1 at q1_
  exact by
   refine lv_aload_n hx hb dX9_failWith_0 rfl (lv_at hl 1 rfl) ?_
   refine va_get (D := (dC, dI)) (ci := 7) (v := .ref (ad (50 + 16 * i + 6))) (C := RX7) (T := TX7) (N := 15) hx hb hg gb_7 hown hK hP (50 + 16 * i) (hQ.b0 hi) rfl 12 (by decide) (hg _ gm_fieldLink_RX9_177_ErrandGuild_Run_scopes_LErrandGuild_Scopes_) (fun _ h9 => h9) rfl dX9_failWith_1 ?_
   refine lv_iload_n hx hb dX9_failWith_4 rfl (lv_at hl 2 rfl) ?_
   have hCc : ([(50 + 16 * i + 6), (50 + 16 * i + 9), (50 + 16 * i + 10), (50 + 16 * i + 11), (50 + 16 * i + 12)] : List Nat).map (fun i => ws[i]?) = ([(ad (50 + 16 * i + 6), .inr (8, [.ref (ad (50 + 16 * i + 7)), .ref (ad (50 + 16 * i + 8)), .ref (ad (50 + 16 * i + 9)), .int (G i 14), .ref (ad (50 + 16 * i + 10)), .ref (ad (50 + 16 * i + 11)), .ref (ad (50 + 16 * i + 12)), .int (G i 15), .int (G i 16)])), (ad (50 + 16 * i + 9), .inl (kc 0, 24, .inl (F i 5))), (ad (50 + 16 * i + 10), .inl (kc 0, 24, .inl (F i 6))), (ad (50 + 16 * i + 11), .inl (kc 0, 24, .inl (F i 7))), (ad (50 + 16 * i + 12), .inl (kc 0, 24, .inl (F i 8)))] : va_W).map some := mp5 (hQ.b6 hi) (hQ.b9 hi) (hQ.b10 hi) (hQ.b11 hi) (hQ.b12 hi)
   have hNd : ([(50 + 16 * i + 6), (50 + 16 * i + 9), (50 + 16 * i + 10), (50 + 16 * i + 11), (50 + 16 * i + 12)] : List Nat).Nodup := (nd_off (50 + 16 * i) (l := [6, 9, 10, 11, 12]) (by decide))
   have hPc := hP.pick [(50 + 16 * i + 6), (50 + 16 * i + 9), (50 + 16 * i + 10), (50 + 16 * i + 11), (50 + 16 * i + 12)] hCc
   have hDc := hD.pick [(50 + 16 * i + 6), (50 + 16 * i + 9), (50 + 16 * i + 10), (50 + 16 * i + 11), (50 + 16 * i + 12)] hNd hCc
   have hKc := hK.sub (tys' := [((kc 0), .int), ((kc 0), .int), ((kc 0), .int), ((kc 0), .int)]) [0, 0, 0, 0] rfl
   have hFc := va_free (wc := [(ad (50 + 16 * i + 6), .inr (8, [.ref (ad (50 + 16 * i + 7)), .ref (ad (50 + 16 * i + 8)), .ref (ad (50 + 16 * i + 9)), .int (G i 14), .ref (ad (50 + 16 * i + 10)), .ref (ad (50 + 16 * i + 11)), .ref (ad (50 + 16 * i + 12)), .int (G i 15), .int (G i 16)])), (ad (50 + 16 * i + 9), .inl (kc 0, 24, .inl (F i 5))), (ad (50 + 16 * i + 10), .inl (kc 0, 24, .inl (F i 6))), (ad (50 + 16 * i + 11), .inl (kc 0, 24, .inl (F i 7))), (ad (50 + 16 * i + 12), .inl (kc 0, 24, .inl (F i 8)))]) hD hS hA [(50 + 16 * i + 6), (50 + 16 * i + 9), (50 + 16 * i + 10), (50 + 16 * i + 11), (50 + 16 * i + 12)] hCc
   refine va_calli (va_runV (As := [.int v2]) (rest := []) ⟨hx, hb, hml, hown, hg⟩ (c_X8_catchOf l dC dI (ad (50 + 16 * i + 6)) (ad (50 + 16 * i + 7)) (ad (50 + 16 * i + 8)) (ad (50 + 16 * i + 9)) (ad (50 + 16 * i + 10)) (ad (50 + 16 * i + 11)) (ad (50 + 16 * i + 12)) (kc 0) (kc 0) (kc 0) (kc 0) (F i 5) (F i 6) (F i 7) (F i 8) (G i 14) (G i 15) (G i 16) v2 s.heap.size ) (cwV 1 hg (gw_V gm_methodLink_RX9_385_yX8_catchOf gm_instanceMethod_yX8_catchOf gm_selects_RX8_yX8_catchOf_yX8_catchOf gm_initialized_RX8 gm_code_yX8_catchOf_cX8_catchOf_3_some_int_) rfl rfl rfl (by decide +kernel) ⟨Nat.le_of_ble_eq_true rfl, Nat.le_of_ble_eq_true rfl⟩) ⟨fun a U g mk q => by obtain ⟨q0, q1, qP, qK, qD, qN⟩ := q; exact ⟨q0, q1, qP, va_K.moved (u := U) (U := U.calling g mk a) (Vm.Alike.refl U.vm) qK, qD, nx_same (u := U) (U := U.calling g mk a) rfl qN⟩, va_recv hK hP (ci := 8) (q0 := (50 + 16 * i + 6)) rfl (hQ.b6 hi), fun U hU hW => ⟨rfl, by rw [hU], by rw [hU]; exact hPc, va_K.moved hW.alike hKc, hDc.weaken (fun _ _ _ _ => trivial), nx_warm hW hN⟩⟩ rfl rfl hl.1 rfl (lv_room (Nat.le_of_ble_eq_true rfl)) dX9_failWith_5 ⟨Nat.le_of_ble_eq_true rfl, Nat.le_of_ble_eq_true rfl⟩) hS (fun q _ h => hFc q h) hFc (fun r_1 u_2 t H1 locs ht hvm hw hB hz1 hk1 hS => ?_)
   obtain ⟨ad_3, ac_4, af_5, ag_6⟩ := u_2
   obtain ⟨hP1, hD1, hK1, qe_7, qe_8, qe_9⟩ := hB
   rw [ht] at hP1
   have hP1 : va_P (dC, dI) vwCl [((ad (50 + 16 * i + 6)), .inr (8, [.ref (ad (50 + 16 * i + 7)), .ref (ad (50 + 16 * i + 8)), .ref (ad (50 + 16 * i + 9)), .int (af_5 6 0), .ref (ad (50 + 16 * i + 10)), .ref (ad (50 + 16 * i + 11)), .ref (ad (50 + 16 * i + 12)), .int (af_5 7 0), .int (af_5 8 0)])), ((ad (50 + 16 * i + 9)), .inl ((kc 0), 24, .inl (F i 5))), ((ad (50 + 16 * i + 10)), .inl ((kc 0), 24, .inl (F i 6))), ((ad (50 + 16 * i + 11)), .inl ((kc 0), 24, .inl (F i 7))), ((ad (50 + 16 * i + 12)), .inl ((kc 0), 24, .inl (F i 8)))] H1 := hP1
   have hD1 : va_D _ [((ad (50 + 16 * i + 6)), .inr (8, [.ref (ad (50 + 16 * i + 7)), .ref (ad (50 + 16 * i + 8)), .ref (ad (50 + 16 * i + 9)), .int (af_5 6 0), .ref (ad (50 + 16 * i + 10)), .ref (ad (50 + 16 * i + 11)), .ref (ad (50 + 16 * i + 12)), .int (af_5 7 0), .int (af_5 8 0)])), ((ad (50 + 16 * i + 9)), .inl ((kc 0), 24, .inl (F i 5))), ((ad (50 + 16 * i + 10)), .inl ((kc 0), 24, .inl (F i 6))), ((ad (50 + 16 * i + 11)), .inl ((kc 0), 24, .inl (F i 7))), ((ad (50 + 16 * i + 12)), .inl ((kc 0), 24, .inl (F i 8)))] := hD1
   have qe_7 : (af_5 6 0) = caB (G i 15) (F i 6) (F i 8) (F i 5) v2 (G i 14) := qe_7
   have qe_8 : (af_5 7 0) = caN (G i 15) (F i 6) v2 := qe_8
   have qe_9 : (af_5 8 0) = (G i 16) := qe_9
   rw [qe_7, qe_8, qe_9] at hP1 hD1
   obtain ⟨hP, hD⟩ := va_repl (w1 := [((ad (50 + 16 * i + 6)), .inr (8, [.ref (ad (50 + 16 * i + 7)), .ref (ad (50 + 16 * i + 8)), .ref (ad (50 + 16 * i + 9)), .int (caB (G i 15) (F i 6) (F i 8) (F i 5) v2 (G i 14)), .ref (ad (50 + 16 * i + 10)), .ref (ad (50 + 16 * i + 11)), .ref (ad (50 + 16 * i + 12)), .int (caN (G i 15) (F i 6) v2), .int (G i 16)])), ((ad (50 + 16 * i + 9)), .inl ((kc 0), 24, .inl (F i 5))), ((ad (50 + 16 * i + 10)), .inl ((kc 0), 24, .inl (F i 6))), ((ad (50 + 16 * i + 11)), .inl ((kc 0), 24, .inl (F i 7))), ((ad (50 + 16 * i + 12)), .inl ((kc 0), 24, .inl (F i 8)))]) hP hD [(50 + 16 * i + 6), (50 + 16 * i + 9), (50 + 16 * i + 10), (50 + 16 * i + 11), (50 + 16 * i + 12)] hCc hNd rfl hk1 hFc hP1 hD1
   obtain ⟨ws_12, G_10, F_11, eG_10, eF_11, hP, hD, hQ⟩ : ∃ (ws_12 : va_W) (G_10 : Nat → Nat → Int32) (F_11 : Nat → Nat → Nat → Int32), G_10 = u2 (u2 (u2 G i 14 (caB (G i 15) (F i 6) (F i 8) (F i 5) v2 (G i 14))) i 15 (caN (G i 15) (F i 6) v2)) i 16 (G i 16) ∧ F_11 = u2 (u2 (u2 (u2 F i 5 (F i 5)) i 6 (F i 6)) i 7 (F i 7)) i 8 (F i 8) ∧ va_P (dC, dI) vwCl ws_12 H1 ∧ va_D A ws_12 ∧ Pic9 kc ws_12 ad ga gc M n f T G_10 K F_11 := ⟨_, _, _, rfl, rfl, hP, hD, ((((hQ.sco2 hi (caB (G i 15) (F i 6) (F i 8) (F i 5) v2 (G i 14)) (caN (G i 15) (F i 6) v2) (G i 16)).arr hi 9 5 (by decide) (F i 5) rfl).arr hi 10 6 (by decide) (F i 6) rfl).arr hi 11 7 (by decide) (F i 7) rfl).arr hi 12 8 (by decide) (F i 8) rfl⟩
   have i10_13 : i10 M G_10 K F_11 := by rw [eG_10, eF_11]; exact (i10.pF (i10.pF (i10.pF (i10.pF (i10.pG (i10.pG (i10.pG h_i10 hi _ (by decide)) hi _ (by decide)) hi _ (by decide)) hi _ _) hi _ _) hi _ _) hi _ _)
   have i11_14 : i11 M n gc f G_10 F_11 := by rw [eG_10, eF_11]; exact (i11.pF (i11.pF (i11.pF (i11.pF (i11.pG (i11.pG (i11.pG h_i11 i _ (by decide)) i _ (by decide)) i _ (by decide)) i _ (by decide)) i _ (by decide)) i _ (by decide)) i _ (by decide))
   have i6_15 : i6 n T G_10 := by rw [eG_10]; exact (i6.pG (i6.pG (i6.pG h_i6 i _ (by decide)) i _ (by decide)) i _ (by decide))
   have i7_16 : i7 n G_10 := by rw [eG_10]; exact (i7.pG (i7.pG (i7.pG h_i7 i _ (by decide)) i _ (by decide)) i _ (by decide))
   have i8_17 : i8 M n gc G_10 := by rw [eG_10]; exact (i8.pG (i8.pG (i8.pG h_i8 i _ (by decide)) i _ (by decide)) i _ (by decide))
   have i9_18 : i9 M gc G_10 R := by rw [eG_10]; exact (i9.pG (i9.pG (i9.pG h_i9 i _ (by decide)) i _ (by decide)) i _ (by decide))
   generalize H1 = H at hP hS ⊢
   have w_19 : r_1 = caA (G i 15) (F i 6) (F i 7) v2 := hw
   exact by
    refine lv_istore_n (lv' := [(3, .int r_1), (0, .ref (ad 0)), (1, .ref (ad (50 + 16 * i))), (2, .int v2)]) hx hb dX9_failWith_8 rfl hl (by decide) rfl (fun ls hl => ?_)
    refine lv_iload_n hx hb dX9_failWith_9 rfl (lv_at hl 0 rfl) ?_
    refine lv_iconst (v := -1) hx hb dX9_failWith_10 (by decide) ?_
    refine lv_icmp_eq (tgt := 20) hx hb dX9_failWith_11 (by decide) (fun c_20 => ?_) (fun c_20 => ?_)
    · simp only [i_lt, i_le, i_eq, ti_m1] at c_20
      refine lv_aload_n hx hb dX9_failWith_20 rfl (lv_at hl 2 rfl) ?_
      refine va_get (D := (dC, dI)) (ci := 7) (v := .ref (ad (50 + 16 * i + 13))) (C := RX7) (T := TX7) (N := 15) hx hb hg gb_7 hown hK hP (50 + 16 * i) (hQ.b0 hi) rfl 13 (by decide) (hg _ gm_fieldLink_RX9_201_ErrandGuild_Run_fault_LErrandGuild_Fault_) (fun _ h9 => h9) rfl dX9_failWith_21 ?_
      refine lv_iload_n hx hb dX9_failWith_24 rfl (lv_at hl 3 rfl) ?_
      refine va_put (D := (dC, dI)) (ci := 2) (v := .int (v2)) (ty := .int) (C := RX2) (T := TX2) (N := 5) hx hb hg gb_2 tyX2 tyX2_ok nmX2 hown hK hP hD hS (50 + 16 * i + 13) (hQ.b13 hi) rfl 0 (by decide) (hg _ gm_fieldLink_RX9_205_ErrandGuild_Fault_kind_I_) (fun _ h9 => h9) rfl (by decide +kernel) rfl rfl (Nat.le_of_ble_eq_true rfl) dX9_failWith_25 (fun H locs hP hD hS => ?_)
      obtain ⟨ws_22, G_21, eG_21, hP, hD, hQ⟩ : ∃ (ws_22 : va_W) (G_21 : Nat → Nat → Int32), G_21 = u2 G_10 i 17 v2 ∧ va_P (dC, dI) vwCl ws_22 H ∧ va_D A ws_22 ∧ Pic9 kc ws_22 ad ga gc M n f T G_21 K F_11 := ⟨_, _, rfl, hP, hD, hQ.fltI hi 0 (by decide) v2⟩
      have i10_23 : i10 M G_21 K F_11 := by rw [eG_21]; exact (i10.pG i10_13 hi _ (by decide))
      have i11_24 : i11 M n gc f G_21 F_11 := by rw [eG_21]; exact (i11.pG i11_14 i _ (by decide))
      have i6_25 : i6 n T G_21 := by rw [eG_21]; exact (i6.pG i6_15 i _ (by decide))
      have i7_26 : i7 n G_21 := by rw [eG_21]; exact (i7.pG i7_16 i _ (by decide))
      have i8_27 : i8 M n gc G_21 := by rw [eG_21]; exact (i8.pG i8_17 i _ (by decide))
      have i9_28 : i9 M gc G_21 R := by rw [eG_21]; exact (i9.pG i9_18 i _ (by decide))
      have eg_29 : G_21 i 17 = v2 := by rw [eG_21, u2_eq]
      exact by
       refine lv_aload_n hx hb dX9_failWith_28 rfl (lv_at hl 2 rfl) ?_
       refine va_get (D := (dC, dI)) (ci := 7) (v := .ref (ad (50 + 16 * i + 13))) (C := RX7) (T := TX7) (N := 15) hx hb hg gb_7 hown hK hP (50 + 16 * i) (hQ.b0 hi) rfl 13 (by decide) (hg _ gm_fieldLink_RX9_201_ErrandGuild_Run_fault_LErrandGuild_Fault_) (fun _ h9 => h9) rfl dX9_failWith_29 ?_
       refine lv_aload_n hx hb dX9_failWith_32 rfl (lv_at hl 2 rfl) ?_
       refine va_get (D := (dC, dI)) (ci := 7) (v := .int (G_21 i 6)) (C := RX7) (T := TX7) (N := 15) hx hb hg gb_7 hown hK hP (50 + 16 * i) (hQ.b0 hi) rfl 6 (by decide) (hg _ gm_fieldLink_RX9_174_ErrandGuild_Run_place_I_) (fun _ h9 => h9) rfl dX9_failWith_33 ?_
       refine va_put (D := (dC, dI)) (ci := 2) (v := .int (G_21 i 6)) (ty := .int) (C := RX2) (T := TX2) (N := 5) hx hb hg gb_2 tyX2 tyX2_ok nmX2 hown hK hP hD hS (50 + 16 * i + 13) (hQ.b13 hi) rfl 1 (by decide) (hg _ gm_fieldLink_RX9_210_ErrandGuild_Fault_step_I_) (fun _ h9 => h9) rfl (by decide +kernel) rfl rfl (Nat.le_of_ble_eq_true rfl) dX9_failWith_36 (fun H locs hP hD hS => ?_)
       obtain ⟨ws_31, G_30, eG_30, hP, hD, hQ⟩ : ∃ (ws_31 : va_W) (G_30 : Nat → Nat → Int32), G_30 = u2 G_21 i 18 (G_21 i 6) ∧ va_P (dC, dI) vwCl ws_31 H ∧ va_D A ws_31 ∧ Pic9 kc ws_31 ad ga gc M n f T G_30 K F_11 := ⟨_, _, rfl, hP, hD, hQ.fltI hi 1 (by decide) (G_21 i 6)⟩
       have i10_32 : i10 M G_30 K F_11 := by rw [eG_30]; exact (i10.pG i10_23 hi _ (by decide))
       have i11_33 : i11 M n gc f G_30 F_11 := by rw [eG_30]; exact (i11.pG i11_24 i _ (by decide))
       have i6_34 : i6 n T G_30 := by rw [eG_30]; exact (i6.pG i6_25 i _ (by decide))
       have i7_35 : i7 n G_30 := by rw [eG_30]; exact (i7.pG i7_26 i _ (by decide))
       have i8_36 : i8 M n gc G_30 := by rw [eG_30]; exact (i8.pG i8_27 i _ (by decide))
       have i9_37 : i9 M gc G_30 R := by rw [eG_30]; exact (i9.pG i9_28 i _ (by decide))
       have eg_38 : G_30 i 18 = (G_21 i 6) := by rw [eG_30, u2_eq]
       exact by
        refine lv_aload_n hx hb dX9_failWith_39 rfl (lv_at hl 2 rfl) ?_
        refine lv_iconst (v := 4) hx hb dX9_failWith_40 (by decide) ?_
        refine va_put (D := (dC, dI)) (ci := 7) (v := .int (4)) (ty := .int) (C := RX7) (T := TX7) (N := 15) hx hb hg gb_7 tyX7 tyX7_ok nmX7 hown hK hP hD hS (50 + 16 * i) (hQ.b0 hi) rfl 2 (by decide) (hg _ gm_fieldLink_RX9_145_ErrandGuild_Run_state_I_) (fun _ h9 => h9) rfl (by decide +kernel) rfl rfl (Nat.le_of_ble_eq_true rfl) dX9_failWith_41 (fun H locs hP hD hS => ?_)
        obtain ⟨ws_40, G_39, eG_39, hP, hD, hQ⟩ : ∃ (ws_40 : va_W) (G_39 : Nat → Nat → Int32), G_39 = u2 G_30 i 2 4 ∧ va_P (dC, dI) vwCl ws_40 H ∧ va_D A ws_40 ∧ Pic9 kc ws_40 ad ga gc M n f T G_39 K F_11 := ⟨_, _, rfl, hP, hD, hQ.run hi 2 (by decide) 4⟩
        have i10_41 : i10 M G_39 K F_11 := by rw [eG_39]; exact (i10.pG i10_32 hi _ (by decide))
        have i11_42 : i11 M n gc f G_39 F_11 := by rw [eG_39]; exact (i11.pG i11_33 i _ (by decide))
        have i6_43 : i6 n T G_39 := by rw [eG_39]; exact (i6.pG i6_34 i _ (by decide))
        have i7_44 : i7 n G_39 := by rw [eG_39]; exact (i7.st i7_35 i (by decide))
        have i8_45 : i8 M n gc G_39 := by rw [eG_39]; exact (i8.pG i8_36 i _ (by decide))
        have i9_46 : i9 M gc G_39 R := by rw [eG_39]; exact (i9.pG i9_37 i _ (by decide))
        have eg_47 : G_39 i 2 = 4 := by rw [eG_39, u2_eq]
        refine lv_aload_n hx hb dX9_failWith_44 rfl (lv_at hl 2 rfl) ?_
        exact by
         refine lv_aload_n hx hb dX9_failWith_45 rfl (lv_at hl 1 rfl) ?_
         refine va_get (D := (dC, dI)) (ci := 9) (v := .int (n 2)) (C := RX9) (T := TX9) (N := 15) hx hb hg gb_9 hown hK hP 0 hQ.x0 rfl 8 (by decide) (hg _ gm_fieldLink_RX9_84_ErrandGuild_beats_I_) (fun _ h9 => h9) rfl dX9_failWith_46 ?_
         refine va_put (D := (dC, dI)) (ci := 7) (v := .int (n 2)) (ty := .int) (C := RX7) (T := TX7) (N := 15) hx hb hg gb_7 tyX7 tyX7_ok nmX7 hown hK hP hD hS (50 + 16 * i) (hQ.b0 hi) rfl 7 (by decide) (hg _ gm_fieldLink_RX9_189_ErrandGuild_Run_overBeat_I_) (fun _ h9 => h9) rfl (by decide +kernel) rfl rfl (Nat.le_of_ble_eq_true rfl) dX9_failWith_49 (fun H locs hP hD hS => ?_)
         obtain ⟨ws_49, G_48, eG_48, hP, hD, hQ⟩ : ∃ (ws_49 : va_W) (G_48 : Nat → Nat → Int32), G_48 = u2 G_39 i 7 (n 2) ∧ va_P (dC, dI) vwCl ws_49 H ∧ va_D A ws_49 ∧ Pic9 kc ws_49 ad ga gc M n f T G_48 K F_11 := ⟨_, _, rfl, hP, hD, hQ.run hi 7 (by decide) (n 2)⟩
         have i10_50 : i10 M G_48 K F_11 := by rw [eG_48]; exact (i10.pG i10_41 hi _ (by decide))
         have i11_51 : i11 M n gc f G_48 F_11 := by rw [eG_48]; exact (i11.pG i11_42 i _ (by decide))
         have i6_52 : i6 n T G_48 := by rw [eG_48]; exact (i6.pG i6_43 i _ (by decide))
         have i7_53 : i7 n G_48 := by rw [eG_48]; exact (i7.pG i7_44 i _ (by decide))
         have i8_54 : i8 M n gc G_48 := by rw [eG_48]; exact (i8.pG i8_45 i _ (by decide))
         have i9_55 : i9 M gc G_48 R := by rw [eG_48]; exact (i9.pG i9_46 i _ (by decide))
         have eg_56 : G_48 i 7 = (n 2) := by rw [eG_48, u2_eq]
         refine lv_aload_n hx hb dX9_failWith_52 rfl (lv_at hl 2 rfl) ?_
         exact by
          refine va_get (D := (dC, dI)) (ci := 7) (v := .ref (ad (50 + 16 * i + 6))) (C := RX7) (T := TX7) (N := 15) hx hb hg gb_7 hown hK hP (50 + 16 * i) (hQ.b0 hi) rfl 12 (by decide) (hg _ gm_fieldLink_RX9_177_ErrandGuild_Run_scopes_LErrandGuild_Scopes_) (fun _ h9 => h9) rfl dX9_failWith_53 ?_
          have hCc : ([(50 + 16 * i + 6)] : List Nat).map (fun i => ws_49[i]?) = ([(ad (50 + 16 * i + 6), .inr (8, [.ref (ad (50 + 16 * i + 7)), .ref (ad (50 + 16 * i + 8)), .ref (ad (50 + 16 * i + 9)), .int (G_48 i 14), .ref (ad (50 + 16 * i + 10)), .ref (ad (50 + 16 * i + 11)), .ref (ad (50 + 16 * i + 12)), .int (G_48 i 15), .int (G_48 i 16)]))] : va_W).map some := mp1 (hQ.b6 hi)
          have hNd : ([(50 + 16 * i + 6)] : List Nat).Nodup := (nd_off (50 + 16 * i) (l := [6]) (by decide))
          have hPc := hP.pick [(50 + 16 * i + 6)] hCc
          have hDc := hD.pick [(50 + 16 * i + 6)] hNd hCc
          have hKc := hK.sub (tys' := []) [] rfl
          have hFc := va_free (wc := [(ad (50 + 16 * i + 6), .inr (8, [.ref (ad (50 + 16 * i + 7)), .ref (ad (50 + 16 * i + 8)), .ref (ad (50 + 16 * i + 9)), .int (G_48 i 14), .ref (ad (50 + 16 * i + 10)), .ref (ad (50 + 16 * i + 11)), .ref (ad (50 + 16 * i + 12)), .int (G_48 i 15), .int (G_48 i 16)]))]) hD hS hA [(50 + 16 * i + 6)] hCc
          refine va_callv (va_runV (As := []) (rest := []) ⟨hx, hb, hml, hown, hg⟩ (c_X8_endBindings l dC dI (ad (50 + 16 * i + 6)) (ad (50 + 16 * i + 7)) (ad (50 + 16 * i + 8)) (ad (50 + 16 * i + 9)) (ad (50 + 16 * i + 10)) (ad (50 + 16 * i + 11)) (ad (50 + 16 * i + 12)) (G_48 i 14) (G_48 i 15) (G_48 i 16) H.size ) (cwV 0 hg (gw_V gm_methodLink_RX9_365_yX8_endBindings gm_instanceMethod_yX8_endBindings gm_selects_RX8_yX8_endBindings_yX8_endBindings gm_initialized_RX8 gm_code_yX8_endBindings_cX8_endBindings_1_none) rfl rfl rfl (by decide +kernel) ⟨Nat.le_of_ble_eq_true rfl, Nat.le_of_ble_eq_true rfl⟩) ⟨fun a U g mk q => by obtain ⟨q0, q1, qP, qK, qD, qN⟩ := q; exact ⟨q0, q1, qP, va_K.moved (u := U) (U := U.calling g mk a) (Vm.Alike.refl U.vm) qK, qD, nx_same (u := U) (U := U.calling g mk a) rfl qN⟩, va_recv hK hP (ci := 8) (q0 := (50 + 16 * i + 6)) rfl (hQ.b6 hi), fun U hU hW => ⟨rfl, by rw [hU], by rw [hU]; exact hPc, va_K.moved hW.alike hKc, hDc.weaken (fun _ _ _ _ => trivial), nx_warm hW hN⟩⟩ rfl rfl hl.1 rfl (lv_room (Nat.le_of_ble_eq_true rfl)) dX9_failWith_56 ⟨Nat.le_of_ble_eq_true rfl, Nat.le_of_ble_eq_true rfl⟩) hS (fun q _ h => hFc q h) hFc (fun u_58 t H1 locs ht hvm hw hB hz1 hk1 hS => ?_)
          obtain ⟨ad_59, ac_60, af_61, ag_62⟩ := u_58
          obtain ⟨hP1, hD1, hK1⟩ := hB
          rw [ht] at hP1
          obtain ⟨hP, hD⟩ := va_repl (w1 := [((ad (50 + 16 * i + 6)), .inr (8, [.ref (ad (50 + 16 * i + 7)), .ref (ad (50 + 16 * i + 8)), .ref (ad (50 + 16 * i + 9)), .int 0, .ref (ad (50 + 16 * i + 10)), .ref (ad (50 + 16 * i + 11)), .ref (ad (50 + 16 * i + 12)), .int (G_48 i 15), .int (G_48 i 16)]))]) hP hD [(50 + 16 * i + 6)] hCc hNd rfl hk1 hFc hP1 hD1
          obtain ⟨ws_64, G_63, eG_63, hP, hD, hQ⟩ : ∃ (ws_64 : va_W) (G_63 : Nat → Nat → Int32), G_63 = u2 (u2 (u2 G_48 i 14 0) i 15 (G_48 i 15)) i 16 (G_48 i 16) ∧ va_P (dC, dI) vwCl ws_64 H1 ∧ va_D A ws_64 ∧ Pic9 kc ws_64 ad ga gc M n f T G_63 K F_11 := ⟨_, _, rfl, hP, hD, hQ.sco2 hi 0 (G_48 i 15) (G_48 i 16)⟩
          have i10_65 : i10 M G_63 K F_11 := by rw [eG_63]; exact (i10.pG (i10.pG (i10.pG i10_50 hi _ (by decide)) hi _ (by decide)) hi _ (by decide))
          have i11_66 : i11 M n gc f G_63 F_11 := by rw [eG_63]; exact (i11.pG (i11.pG (i11.pG i11_51 i _ (by decide)) i _ (by decide)) i _ (by decide))
          have i6_67 : i6 n T G_63 := by rw [eG_63]; exact (i6.pG (i6.pG (i6.pG i6_52 i _ (by decide)) i _ (by decide)) i _ (by decide))
          have i7_68 : i7 n G_63 := by rw [eG_63]; exact (i7.pG (i7.pG (i7.pG i7_53 i _ (by decide)) i _ (by decide)) i _ (by decide))
          have i8_69 : i8 M n gc G_63 := by rw [eG_63]; exact (i8.pG (i8.pG (i8.pG i8_54 i _ (by decide)) i _ (by decide)) i _ (by decide))
          have i9_70 : i9 M gc G_63 R := by rw [eG_63]; exact (i9.pG (i9.pG (i9.pG i9_55 i _ (by decide)) i _ (by decide)) i _ (by decide))
          generalize H1 = H at hP hS ⊢
          refine W_msr2 (fun hm1 hm2 hm3 => ?_)
          exact W.vret hx hb hr (fun t ht hW => ⟨⟨(ad, ga, gc, M, n, f, T, G_63, K, F_11), rfl, (by show (C9.mk n f T G_63 K F_11) = k_fail i v2 (C9.mk n f T G K F); subst eG_10; subst eF_11; subst eG_21; subst eG_30; subst eG_39; subst eG_48; subst eG_63; have hX := (k_fail.eq_1 i v2 (C9.mk n f T G K F)).symm; (repeat (first | dsimp +instances only [c9n, c9f, c9T, c9G, c9K, c9F, b_come, b_leave, b_fill, awB, b_settle, b_wake, b_take, f_take, b_gather, f_gather, b_ask, a_ask, b_tell, c_close, d_close, k_add, k_rem, sco, k_clrF, k_mem, k_rebind, k_bnd, k_beg0, k_beg1, b_giveN, b_giveR, f_open, b_hand, k_op, b_turn, wlB, b_beat, f_anew, b_wipe, b_off, k_sadd, fits, frP, cntB, b_trace, b_child, k_lat, cond_true, cond_false, Option.elim_none, Option.elim_some, Option.getD_none, Option.getD_some] at hX | rw [← w_19] at hX | rw [if_pos (by first | with_reducible assumption | omega)] at hX | rw [if_neg (by first | with_reducible assumption | omega)] at hX | rw [jx_of (by omega)] at hX)); first | exact hX | (exfalso; omega) | exact hX), ws_64, by rw [ht]; exact hP, hD, hQ, ⟨h_i1, h_i2, h_i3, h_i4, h_i5, i6_67, i7_68, i8_69, i9_70, i10_65, i11_66⟩, by rw [ht]; show hpS H + (260 * M + 2 * S9 M gc) ≤ hpS s.heap + (260 * M + 2 * S9 M gc); omega, by rw [ht]; show 16 * H.size + (256 * M + S9 M gc) ≤ 16 * s.heap.size + (256 * M + S9 M gc); omega⟩, hS.F ht⟩) hS.2.2 dX9_failWith_59
    · simp only [i_lt, i_le, i_eq, ti_m1] at c_20
      refine lv_aload_n hx hb dX9_failWith_14 rfl (lv_at hl 2 rfl) ?_
      refine lv_iload_n hx hb dX9_failWith_15 rfl (lv_at hl 0 rfl) ?_
      refine va_put (D := (dC, dI)) (ci := 7) (v := .int (r_1)) (ty := .int) (C := RX7) (T := TX7) (N := 15) hx hb hg gb_7 tyX7 tyX7_ok nmX7 hown hK hP hD hS (50 + 16 * i) (hQ.b0 hi) rfl 6 (by decide) (hg _ gm_fieldLink_RX9_174_ErrandGuild_Run_place_I_) (fun _ h9 => h9) rfl (by decide +kernel) rfl rfl (Nat.le_of_ble_eq_true rfl) dX9_failWith_16 (fun H locs hP hD hS => ?_)
      obtain ⟨ws_72, G_71, eG_71, hP, hD, hQ⟩ : ∃ (ws_72 : va_W) (G_71 : Nat → Nat → Int32), G_71 = u2 G_10 i 6 r_1 ∧ va_P (dC, dI) vwCl ws_72 H ∧ va_D A ws_72 ∧ Pic9 kc ws_72 ad ga gc M n f T G_71 K F_11 := ⟨_, _, rfl, hP, hD, hQ.run hi 6 (by decide) r_1⟩
      have i10_73 : i10 M G_71 K F_11 := by rw [eG_71]; exact (i10.pG i10_13 hi _ (by decide))
      have i11_74 : i11 M n gc f G_71 F_11 := by rw [eG_71]; exact (i11.pG i11_14 i _ (by decide))
      have i6_75 : i6 n T G_71 := by rw [eG_71]; exact (i6.pG i6_15 i _ (by decide))
      have i7_76 : i7 n G_71 := by rw [eG_71]; exact (i7.pG i7_16 i _ (by decide))
      have i8_77 : i8 M n gc G_71 := by rw [eG_71]; exact (i8.pG i8_17 i _ (by decide))
      have i9_78 : i9 M gc G_71 R := by rw [eG_71]; exact (i9.pG i9_18 i _ (by decide))
      have eg_79 : G_71 i 6 = r_1 := by rw [eG_71, u2_eq]
      refine W_msr2 (fun hm1 hm2 hm3 => ?_)
      exact W.vret hx hb hr (fun t ht hW => ⟨⟨(ad, ga, gc, M, n, f, T, G_71, K, F_11), rfl, (by show (C9.mk n f T G_71 K F_11) = k_fail i v2 (C9.mk n f T G K F); subst eG_10; subst eF_11; subst eG_71; have hX := (k_fail.eq_1 i v2 (C9.mk n f T G K F)).symm; (repeat (first | dsimp +instances only [c9n, c9f, c9T, c9G, c9K, c9F, b_come, b_leave, b_fill, awB, b_settle, b_wake, b_take, f_take, b_gather, f_gather, b_ask, a_ask, b_tell, c_close, d_close, k_add, k_rem, sco, k_clrF, k_mem, k_rebind, k_bnd, k_beg0, k_beg1, b_giveN, b_giveR, f_open, b_hand, k_op, b_turn, wlB, b_beat, f_anew, b_wipe, b_off, k_sadd, fits, frP, cntB, b_trace, b_child, k_lat, cond_true, cond_false, Option.elim_none, Option.elim_some, Option.getD_none, Option.getD_some] at hX | rw [← w_19] at hX | rw [if_pos (by first | with_reducible assumption | omega)] at hX | rw [if_neg (by first | with_reducible assumption | omega)] at hX | rw [jx_of (by omega)] at hX)); first | exact hX | (exfalso; omega) | exact hX), ws_72, by rw [ht]; exact hP, hD, hQ, ⟨h_i1, h_i2, h_i3, h_i4, h_i5, i6_75, i7_76, i8_77, i9_78, i10_73, i11_74⟩, by rw [ht]; show hpS H + (260 * M + 2 * S9 M gc) ≤ hpS s.heap + (260 * M + 2 * S9 M gc); omega, by rw [ht]; show 16 * H.size + (256 * M + S9 M gc) ≤ 16 * s.heap.size + (256 * M + S9 M gc); omega⟩, hS.F ht⟩) hS.2.2 dX9_failWith_19

set_option maxHeartbeats 8000000 in
set_option maxRecDepth 100000 in
theorem c_X9_interrupt (l : Launch) (dC : Nat → ClassId) (dI : Nat → Nat → Nat) (kc : Nat → ClassId) (ws : va_W) (ad : Nat → Nat) (ga : Nat → Nat) (gc : Nat → Nat) (M : Nat) (n : Nat → Int32) (f : Nat → Nat → Int32) (T : Nat → Option Nat) (G : Nat → Nat → Int32) (K : Nat → Nat → Option Nat) (F : Nat → Nat → Nat → Int32) (R : Nat) (v1 : Int32) (sz hz : Nat) (hQ : Pic9 kc ws ad ga gc M n f T G K F) (hI : I9 M n f T gc G K F R) : Met l yX9_interrupt (.code yX9_interrupt cX9_interrupt 3 (some .boolean) :: gw) ({ frames := 1, cells := 0, slots := 0, locals := 21 }) (va_Pc [.ref (ad 0), .int v1] (fun U => U.heap.size = sz ∧ hpS U.heap = hz ∧ va_P (dC, dI) vwCl ws U.heap ∧ va_K (dC, dI) vwCl (t9 kc) U ∧ va_D (fun _ => True) ws ∧ nx U)) (va_Qi (fun (r : Int32) (u : (Nat → Nat) × (Nat → Nat) × (Nat → Nat) × Nat × (Nat → Int32) × (Nat → Nat → Int32) × (Nat → Option Nat) × (Nat → Nat → Int32) × (Nat → Nat → Option Nat) × (Nat → Nat → Nat → Int32)) => (r = 1 ∧ ((C9.mk n f T u.2.2.2.2.2.2.2.1 K F), r) = k_interrupt v1 (C9.mk n f T G K F)) ∨ (r = 0 ∧ ((C9.mk n f T u.2.2.2.2.2.2.2.1 K F), r) = k_interrupt v1 (C9.mk n f T G K F))) (fun u t => ∃ w : va_W, va_P (dC, dI) vwCl w t.heap ∧ va_D (va_A ws sz) w ∧ Pic9 kc w ad ga gc M n f T u.2.2.2.2.2.2.2.1 K F ∧ I9 M n f T gc u.2.2.2.2.2.2.2.1 K F R ∧ hpS t.heap + (260 * M + 2 * S9 M gc) ≤ hz + (260 * M + 2 * S9 M gc) ∧ 16 * t.heap.size + (256 * M + S9 M gc) ≤ 16 * sz + (256 * M + S9 M gc)) (va_A ws sz)) 0 0 (va_A ws sz) := by
  refine Met.ofW (cc := cX9_interrupt) (maxL := 3) (ret := (some .boolean)) (by decide) rfl ?_
  intro p e s m args below meth c s₁ B hml hv
  obtain ⟨rfl, hsz, rfl, hP, hK, hD0, hN⟩ := hv
  have hx := B.exec
  have hb := B.bytes
  have hr := B.returns
  have hts := atoms_spec (ws := .code yX9_interrupt cX9_interrupt 3 (some .boolean) :: gw) B.pre
  have hg : ∀ w ∈ gw, w.before _ s = true := fun w h => hts w (List.mem_cons_of_mem _ h)
  have hown : s.vm.findClass RX9 = some m.cls := findClass_of_methodNamed B.named
  have hlocks := B.notSynchronized
  subst hsz
  have hD := hD0.self (sz := s.heap.size)
  generalize hAe : va_A ws s.heap.size = A at hD ⊢
  have hA : ∀ q : Nat, s.heap.size ≤ q → A q := fun q h => by rw [← hAe]; exact Or.inr h
  clear hAe
  have hS : va_S A s.heap s.heap [] := va_S.rf
  have hl := lv_entry ([.ref (ad 0), .int v1]) (n := 3) (Nat.le_of_ble_eq_true rfl)
  rw [lg_entry_eq]
  generalize (lg_sl ([.ref (ad 0), .int v1]) ++ List.replicate (3 - (lg_sl ([.ref (ad 0), .int v1])).length) Slot.unset).toArray = ls at hl ⊢
  have hl : lv_has ls 3 [(0, .ref (ad 0)), (1, .int v1)] := hl
  obtain ⟨h_i1, h_i2, h_i3, h_i4, h_i5, h_i6, h_i7, h_i8, h_i9, h_i10, h_i11⟩ := id hI
  have q1_ := h_i1
  unfold i1 at q1_
  exact by
   refine lv_aload_n hx hb dX9_interrupt_0 rfl (lv_at hl 0 rfl) ?_
   refine lv_iload_n hx hb dX9_interrupt_1 rfl (lv_at hl 1 rfl) ?_
   have hFc := free_all hD hS hA
   refine va_callq (va_runV (As := [.int v1]) (rest := []) ⟨hx, hb, hml, hown, hg⟩ (c_X9_runAt l dC dI kc ws ad ga gc M n f T G K F R v1 s.heap.size (hpS s.heap) hQ ⟨h_i1, h_i2, h_i3, h_i4, h_i5, h_i6, h_i7, h_i8, h_i9, h_i10, h_i11⟩) (cwV 1 hg (gw_V gm_methodLink_RX9_134_yX9_runAt gm_instanceMethod_yX9_runAt gm_selects_RX9_yX9_runAt_yX9_runAt gm_initialized_RX9 gm_code_yX9_runAt_cX9_runAt_2_some_object_ErrandGuild_Run_) rfl rfl rfl (by decide +kernel) ⟨Nat.le_of_ble_eq_true rfl, Nat.le_of_ble_eq_true rfl⟩) ⟨fun a U g mk q => by obtain ⟨q0, q1, q2, qP, qK, qD, qN⟩ := q; exact ⟨q0, q1, q2, qP, va_K.moved (u := U) (U := U.calling g mk a) (Vm.Alike.refl U.vm) qK, qD, nx_same (u := U) (U := U.calling g mk a) rfl qN⟩, va_recv hK hP (ci := 9) (q0 := 0) rfl hQ.x0, fun U hU hW => ⟨rfl, by rw [hU], by rw [hU], by rw [hU]; exact hP, va_K.moved hW.alike hK, hD.weaken (fun _ _ _ _ => trivial), nx_warm hW hN⟩⟩ rfl rfl hl.1 rfl (lv_room (Nat.le_of_ble_eq_true rfl)) dX9_interrupt_2 ⟨Nat.le_of_ble_eq_true rfl, Nat.le_of_ble_eq_true rfl⟩) hS (fun q _ h => hFc q h) hFc (fun r_1 u_2 t H1 locs ht hvm hw hB hz1 hk1 hS => ?_)
   obtain ⟨hP, hD, hy1, hy2⟩ := hB
   rw [ht] at hP hy1 hy2
   have hD := hD.weaken (fun k q _ h => hFc _ h)
   have q1_ := h_i1
   unfold i1 at q1_
   generalize H1 = H at hP hS ⊢
   rcases hw with ⟨rfl, w_3⟩ | ⟨rfl, w_3⟩
   · have w_3 : (0 ≤ v1.toInt ∧ v1.toInt < (n 0).toInt) := w_3
     have hl_4 : v1.toInt.toNat < M := by omega
     refine W.eq (g2 := F0 m 5 ls [.ref (ad (50 + 16 * v1.toInt.toNat))]) rfl ?_
     exact by
      refine lv_astore_n (lv' := [(2, .ref (ad (50 + 16 * v1.toInt.toNat))), (0, .ref (ad 0)), (1, .int v1)]) hx hb dX9_interrupt_5 rfl hl (by decide) rfl (fun ls hl => ?_)
      refine lv_aload_n hx hb dX9_interrupt_6 rfl (lv_at hl 0 rfl) ?_
      refine lv_ifnull hx hb dX9_interrupt_7 ?_
      refine lv_aload_n hx hb dX9_interrupt_10 rfl (lv_at hl 0 rfl) ?_
      have hCc : ([(50 + 16 * v1.toInt.toNat)] : List Nat).map (fun i => ws[i]?) = ([(ad (50 + 16 * v1.toInt.toNat), .inr (7, [.int (G v1.toInt.toNat 0), .int (G v1.toInt.toNat 1), .int (G v1.toInt.toNat 2), .int (G v1.toInt.toNat 3), .int (G v1.toInt.toNat 4), .int (G v1.toInt.toNat 5), .int (G v1.toInt.toNat 6), .int (G v1.toInt.toNat 7), .int (G v1.toInt.toNat 8), .int (G v1.toInt.toNat 9), .ref (ad (50 + 16 * v1.toInt.toNat + 1)), .ref (ad (50 + 16 * v1.toInt.toNat + 2)), .ref (ad (50 + 16 * v1.toInt.toNat + 6)), .ref (ad (50 + 16 * v1.toInt.toNat + 13)), .ref (ad (50 + 16 * v1.toInt.toNat + 14))]))] : va_W).map some := mp1 (hQ.b0 hl_4)
      have hNd : ([(50 + 16 * v1.toInt.toNat)] : List Nat).Nodup := (nd_off (50 + 16 * v1.toInt.toNat) (l := [0]) (by decide))
      have hPc := hP.pick [(50 + 16 * v1.toInt.toNat)] hCc
      have hDc := hD.pick [(50 + 16 * v1.toInt.toNat)] hNd hCc
      have hKc := hK.sub (tys' := []) [] rfl
      have hFc := va_free (wc := [(ad (50 + 16 * v1.toInt.toNat), .inr (7, [.int (G v1.toInt.toNat 0), .int (G v1.toInt.toNat 1), .int (G v1.toInt.toNat 2), .int (G v1.toInt.toNat 3), .int (G v1.toInt.toNat 4), .int (G v1.toInt.toNat 5), .int (G v1.toInt.toNat 6), .int (G v1.toInt.toNat 7), .int (G v1.toInt.toNat 8), .int (G v1.toInt.toNat 9), .ref (ad (50 + 16 * v1.toInt.toNat + 1)), .ref (ad (50 + 16 * v1.toInt.toNat + 2)), .ref (ad (50 + 16 * v1.toInt.toNat + 6)), .ref (ad (50 + 16 * v1.toInt.toNat + 13)), .ref (ad (50 + 16 * v1.toInt.toNat + 14))]))]) hD hS hA [(50 + 16 * v1.toInt.toNat)] hCc
      refine va_calli (va_runV (As := []) (rest := []) ⟨hx, hb, hml, hown, hg⟩ (c_X7_isOver l dC dI (ad (50 + 16 * v1.toInt.toNat)) (ad (50 + 16 * v1.toInt.toNat + 1)) (ad (50 + 16 * v1.toInt.toNat + 2)) (ad (50 + 16 * v1.toInt.toNat + 6)) (ad (50 + 16 * v1.toInt.toNat + 13)) (ad (50 + 16 * v1.toInt.toNat + 14)) (G v1.toInt.toNat 0) (G v1.toInt.toNat 1) (G v1.toInt.toNat 2) (G v1.toInt.toNat 3) (G v1.toInt.toNat 4) (G v1.toInt.toNat 5) (G v1.toInt.toNat 6) (G v1.toInt.toNat 7) (G v1.toInt.toNat 8) (G v1.toInt.toNat 9) H.size ) (cwV 0 hg (gw_V gm_methodLink_RX9_138_yX7_isOver gm_instanceMethod_yX7_isOver gm_selects_RX7_yX7_isOver_yX7_isOver gm_initialized_RX7 gm_code_yX7_isOver_cX7_isOver_1_some_boolean_) rfl rfl rfl (by decide +kernel) ⟨Nat.le_of_ble_eq_true rfl, Nat.le_of_ble_eq_true rfl⟩) ⟨fun a U g mk q => by obtain ⟨q0, q1, qP, qK, qD, qN⟩ := q; exact ⟨q0, q1, qP, va_K.moved (u := U) (U := U.calling g mk a) (Vm.Alike.refl U.vm) qK, qD, nx_same (u := U) (U := U.calling g mk a) rfl qN⟩, va_recv hK hP (ci := 7) (q0 := (50 + 16 * v1.toInt.toNat)) rfl (hQ.b0 hl_4), fun U hU hW => ⟨rfl, by rw [hU], by rw [hU]; exact hPc, va_K.moved hW.alike hKc, hDc.weaken (fun _ _ _ _ => trivial), nx_warm hW hN⟩⟩ rfl rfl hl.1 rfl (lv_room (Nat.le_of_ble_eq_true rfl)) dX9_interrupt_11 ⟨Nat.le_of_ble_eq_true rfl, Nat.le_of_ble_eq_true rfl⟩) hS (fun q _ h => hFc q h) hFc (fun r_5 u_6 t H1 locs ht hvm hw hB hz1 hk1 hS => ?_)
      obtain ⟨hP1, hD1⟩ := hB
      rw [ht] at hP1
      obtain ⟨hP, hD⟩ := va_replS hP hD [(50 + 16 * v1.toInt.toNat)] hCc hNd hk1 hFc hP1 hD1
      generalize H1 = H at hP hS ⊢
      rcases hw with ⟨rfl, w_7⟩ | ⟨rfl, w_7⟩
      · refine lv_if_ne (tgt := 24) hx hb dX9_interrupt_14 (by decide) (fun _ => ?_) (fun c_8 => absurd c_8 (by decide))
        exact by
         refine lv_iconst (v := 0) hx hb dX9_interrupt_24 (by decide) ?_
         refine W_msr2 (fun hm1 hm2 hm3 => ?_)
         exact W.zret (v := 0) hx hb hr rfl (fun t ht hW => ⟨⟨0, (ad, ga, gc, M, n, f, T, G, K, F), rfl, (Or.inr ⟨rfl, (by show ((C9.mk n f T G K F), (0 : Int32)) = k_interrupt v1 (C9.mk n f T G K F); have hX := (k_interrupt.eq_1 v1 (C9.mk n f T G K F)).symm; (repeat (first | dsimp +instances only [c9n, c9f, c9T, c9G, c9K, c9F, b_come, b_leave, b_fill, awB, b_settle, b_wake, b_take, f_take, b_gather, f_gather, b_ask, a_ask, b_tell, c_close, d_close, k_add, k_rem, sco, k_clrF, k_mem, k_rebind, k_bnd, k_beg0, k_beg1, b_giveN, b_giveR, f_open, b_hand, k_op, b_turn, wlB, b_beat, f_anew, b_wipe, b_off, k_sadd, fits, frP, cntB, b_trace, b_child, k_lat, cond_true, cond_false, Option.elim_none, Option.elim_some, Option.getD_none, Option.getD_some] at hX | rw [if_pos (by first | with_reducible assumption | omega)] at hX | rw [if_neg (by first | with_reducible assumption | omega)] at hX | rw [jx_of (by omega)] at hX)); first | exact hX | (exfalso; omega) | exact hX)⟩), ws, by rw [ht]; exact hP, hD, hQ, ⟨h_i1, h_i2, h_i3, h_i4, h_i5, h_i6, h_i7, h_i8, h_i9, h_i10, h_i11⟩, by rw [ht]; show hpS H + (260 * M + 2 * S9 M gc) ≤ hpS s.heap + (260 * M + 2 * S9 M gc); omega, by rw [ht]; show 16 * H.size + (256 * M + S9 M gc) ≤ 16 * s.heap.size + (256 * M + S9 M gc); omega⟩, hS.F ht⟩) hS.2.2 dX9_interrupt_25
      · refine lv_if_ne (tgt := 24) hx hb dX9_interrupt_14 (by decide) (fun c_9 => absurd c_9 (by decide)) (fun _ => ?_)
        refine lv_aload_n hx hb dX9_interrupt_17 rfl (lv_at hl 0 rfl) ?_
        refine va_get (D := (dC, dI)) (ci := 7) (v := .int (G v1.toInt.toNat 8)) (C := RX7) (T := TX7) (N := 15) hx hb hg gb_7 hown hK hP (50 + 16 * v1.toInt.toNat) (hQ.b0 hl_4) rfl 8 (by decide) (hg _ gm_fieldLink_RX9_141_ErrandGuild_Run_interrupted_Z_) (fun _ h9 => h9) rfl dX9_interrupt_18 ?_
        refine lv_if_eq (tgt := 26) hx hb dX9_interrupt_21 (by decide) (fun c_10 => ?_) (fun c_10 => ?_)
        · simp only [i_lt, i_le, i_eq, ti_0] at c_10
          refine lv_aload_n hx hb dX9_interrupt_26 rfl (lv_at hl 0 rfl) ?_
          refine lv_iconst (v := 1) hx hb dX9_interrupt_27 (by decide) ?_
          refine va_put (D := (dC, dI)) (ci := 7) (v := .int (1)) (ty := .boolean) (C := RX7) (T := TX7) (N := 15) hx hb hg gb_7 tyX7 tyX7_ok nmX7 hown hK hP hD hS (50 + 16 * v1.toInt.toNat) (hQ.b0 hl_4) rfl 8 (by decide) (hg _ gm_fieldLink_RX9_141_ErrandGuild_Run_interrupted_Z_) (fun _ h9 => h9) rfl (by decide +kernel) rfl rfl (Nat.le_of_ble_eq_true rfl) dX9_interrupt_28 (fun H locs hP hD hS => ?_)
          obtain ⟨ws_12, G_11, eG_11, hP, hD, hQ⟩ : ∃ (ws_12 : va_W) (G_11 : Nat → Nat → Int32), G_11 = u2 G v1.toInt.toNat 8 1 ∧ va_P (dC, dI) vwCl ws_12 H ∧ va_D A ws_12 ∧ Pic9 kc ws_12 ad ga gc M n f T G_11 K F := ⟨_, _, rfl, hP, hD, hQ.run hl_4 8 (by decide) 1⟩
          have i10_13 : i10 M G_11 K F := by rw [eG_11]; exact (i10.pG h_i10 hl_4 _ (by decide))
          have i11_14 : i11 M n gc f G_11 F := by rw [eG_11]; exact (i11.pG h_i11 v1.toInt.toNat _ (by decide))
          have i6_15 : i6 n T G_11 := by rw [eG_11]; exact (i6.pG h_i6 v1.toInt.toNat _ (by decide))
          have i7_16 : i7 n G_11 := by rw [eG_11]; exact (i7.pG h_i7 v1.toInt.toNat _ (by decide))
          have i8_17 : i8 M n gc G_11 := by rw [eG_11]; exact (i8.pG h_i8 v1.toInt.toNat _ (by decide))
          have i9_18 : i9 M gc G_11 R := by rw [eG_11]; exact (i9.pG h_i9 v1.toInt.toNat _ (by decide))
          have eg_19 : G_11 v1.toInt.toNat 8 = 1 := by rw [eG_11, u2_eq]
          exact by
           refine lv_aload_n hx hb dX9_interrupt_31 rfl (lv_at hl 0 rfl) ?_
           refine va_get (D := (dC, dI)) (ci := 7) (v := .int (G_11 v1.toInt.toNat 2)) (C := RX7) (T := TX7) (N := 15) hx hb hg gb_7 hown hK hP (50 + 16 * v1.toInt.toNat) (hQ.b0 hl_4) rfl 2 (by decide) (hg _ gm_fieldLink_RX9_145_ErrandGuild_Run_state_I_) (fun _ h9 => h9) rfl dX9_interrupt_32 ?_
           refine lv_iconst (v := 2) hx hb dX9_interrupt_35 (by decide) ?_
           refine lv_icmp_ne (tgt := 44) hx hb dX9_interrupt_36 (by decide) (fun c_20 => ?_) (fun c_20 => ?_)
           · simp only [i_lt, i_le, i_eq, ti_2] at c_20
             refine lv_iconst (v := 1) hx hb dX9_interrupt_44 (by decide) ?_
             refine W_msr2 (fun hm1 hm2 hm3 => ?_)
             exact W.zret (v := 1) hx hb hr rfl (fun t ht hW => ⟨⟨1, (ad, ga, gc, M, n, f, T, G_11, K, F), rfl, (Or.inl ⟨rfl, (by show ((C9.mk n f T G_11 K F), (1 : Int32)) = k_interrupt v1 (C9.mk n f T G K F); subst eG_11; have hX := (k_interrupt.eq_1 v1 (C9.mk n f T G K F)).symm; (repeat (first | dsimp +instances only [c9n, c9f, c9T, c9G, c9K, c9F, b_come, b_leave, b_fill, awB, b_settle, b_wake, b_take, f_take, b_gather, f_gather, b_ask, a_ask, b_tell, c_close, d_close, k_add, k_rem, sco, k_clrF, k_mem, k_rebind, k_bnd, k_beg0, k_beg1, b_giveN, b_giveR, f_open, b_hand, k_op, b_turn, wlB, b_beat, f_anew, b_wipe, b_off, k_sadd, fits, frP, cntB, b_trace, b_child, k_lat, cond_true, cond_false, Option.elim_none, Option.elim_some, Option.getD_none, Option.getD_some] at hX | rw [if_pos (by first | with_reducible assumption | omega)] at hX | rw [if_neg (by first | with_reducible assumption | omega)] at hX | rw [jx_of (by omega)] at hX)); first | exact hX | (exfalso; omega) | exact hX)⟩), ws_12, by rw [ht]; exact hP, hD, hQ, ⟨h_i1, h_i2, h_i3, h_i4, h_i5, i6_15, i7_16, i8_17, i9_18, i10_13, i11_14⟩, by rw [ht]; show hpS H + (260 * M + 2 * S9 M gc) ≤ hpS s.heap + (260 * M + 2 * S9 M gc); omega, by rw [ht]; show 16 * H.size + (256 * M + S9 M gc) ≤ 16 * s.heap.size + (256 * M + S9 M gc); omega⟩, hS.F ht⟩) hS.2.2 dX9_interrupt_45
           · simp only [i_lt, i_le, i_eq, ti_2] at c_20
             refine lv_aload_n hx hb dX9_interrupt_39 rfl (lv_at hl 0 rfl) ?_
             refine lv_iconst (v := 0) hx hb dX9_interrupt_40 (by decide) ?_
             refine va_put (D := (dC, dI)) (ci := 7) (v := .int (0)) (ty := .int) (C := RX7) (T := TX7) (N := 15) hx hb hg gb_7 tyX7 tyX7_ok nmX7 hown hK hP hD hS (50 + 16 * v1.toInt.toNat) (hQ.b0 hl_4) rfl 2 (by decide) (hg _ gm_fieldLink_RX9_145_ErrandGuild_Run_state_I_) (fun _ h9 => h9) rfl (by decide +kernel) rfl rfl (Nat.le_of_ble_eq_true rfl) dX9_interrupt_41 (fun H locs hP hD hS => ?_)
             obtain ⟨ws_22, G_21, eG_21, hP, hD, hQ⟩ : ∃ (ws_22 : va_W) (G_21 : Nat → Nat → Int32), G_21 = u2 G_11 v1.toInt.toNat 2 0 ∧ va_P (dC, dI) vwCl ws_22 H ∧ va_D A ws_22 ∧ Pic9 kc ws_22 ad ga gc M n f T G_21 K F := ⟨_, _, rfl, hP, hD, hQ.run hl_4 2 (by decide) 0⟩
             have i10_23 : i10 M G_21 K F := by rw [eG_21]; exact (i10.pG i10_13 hl_4 _ (by decide))
             have i11_24 : i11 M n gc f G_21 F := by rw [eG_21]; exact (i11.pG i11_14 v1.toInt.toNat _ (by decide))
             have i6_25 : i6 n T G_21 := by rw [eG_21]; exact (i6.pG i6_15 v1.toInt.toNat _ (by decide))
             have i7_26 : i7 n G_21 := by rw [eG_21]; exact (i7.st i7_16 v1.toInt.toNat (by decide))
             have i8_27 : i8 M n gc G_21 := by rw [eG_21]; exact (i8.pG i8_17 v1.toInt.toNat _ (by decide))
             have i9_28 : i9 M gc G_21 R := by rw [eG_21]; exact (i9.pG i9_18 v1.toInt.toNat _ (by decide))
             have eg_29 : G_21 v1.toInt.toNat 2 = 0 := by rw [eG_21, u2_eq]
             exact by
              refine lv_iconst (v := 1) hx hb dX9_interrupt_44 (by decide) ?_
              refine W_msr2 (fun hm1 hm2 hm3 => ?_)
              exact W.zret (v := 1) hx hb hr rfl (fun t ht hW => ⟨⟨1, (ad, ga, gc, M, n, f, T, G_21, K, F), rfl, (Or.inl ⟨rfl, (by show ((C9.mk n f T G_21 K F), (1 : Int32)) = k_interrupt v1 (C9.mk n f T G K F); subst eG_11; subst eG_21; have hX := (k_interrupt.eq_1 v1 (C9.mk n f T G K F)).symm; (repeat (first | dsimp +instances only [c9n, c9f, c9T, c9G, c9K, c9F, b_come, b_leave, b_fill, awB, b_settle, b_wake, b_take, f_take, b_gather, f_gather, b_ask, a_ask, b_tell, c_close, d_close, k_add, k_rem, sco, k_clrF, k_mem, k_rebind, k_bnd, k_beg0, k_beg1, b_giveN, b_giveR, f_open, b_hand, k_op, b_turn, wlB, b_beat, f_anew, b_wipe, b_off, k_sadd, fits, frP, cntB, b_trace, b_child, k_lat, cond_true, cond_false, Option.elim_none, Option.elim_some, Option.getD_none, Option.getD_some] at hX | rw [if_pos (by first | with_reducible assumption | omega)] at hX | rw [if_neg (by first | with_reducible assumption | omega)] at hX | rw [jx_of (by omega)] at hX)); first | exact hX | (exfalso; omega) | exact hX)⟩), ws_22, by rw [ht]; exact hP, hD, hQ, ⟨h_i1, h_i2, h_i3, h_i4, h_i5, i6_25, i7_26, i8_27, i9_28, i10_23, i11_24⟩, by rw [ht]; show hpS H + (260 * M + 2 * S9 M gc) ≤ hpS s.heap + (260 * M + 2 * S9 M gc); omega, by rw [ht]; show 16 * H.size + (256 * M + S9 M gc) ≤ 16 * s.heap.size + (256 * M + S9 M gc); omega⟩, hS.F ht⟩) hS.2.2 dX9_interrupt_45
        · simp only [i_lt, i_le, i_eq, ti_0] at c_10
          refine lv_iconst (v := 0) hx hb dX9_interrupt_24 (by decide) ?_
          refine W_msr2 (fun hm1 hm2 hm3 => ?_)
          exact W.zret (v := 0) hx hb hr rfl (fun t ht hW => ⟨⟨0, (ad, ga, gc, M, n, f, T, G, K, F), rfl, (Or.inr ⟨rfl, (by show ((C9.mk n f T G K F), (0 : Int32)) = k_interrupt v1 (C9.mk n f T G K F); have hX := (k_interrupt.eq_1 v1 (C9.mk n f T G K F)).symm; (repeat (first | dsimp +instances only [c9n, c9f, c9T, c9G, c9K, c9F, b_come, b_leave, b_fill, awB, b_settle, b_wake, b_take, f_take, b_gather, f_gather, b_ask, a_ask, b_tell, c_close, d_close, k_add, k_rem, sco, k_clrF, k_mem, k_rebind, k_bnd, k_beg0, k_beg1, b_giveN, b_giveR, f_open, b_hand, k_op, b_turn, wlB, b_beat, f_anew, b_wipe, b_off, k_sadd, fits, frP, cntB, b_trace, b_child, k_lat, cond_true, cond_false, Option.elim_none, Option.elim_some, Option.getD_none, Option.getD_some] at hX | rw [if_pos (by first | with_reducible assumption | omega)] at hX | rw [if_neg (by first | with_reducible assumption | omega)] at hX | rw [jx_of (by omega)] at hX)); first | exact hX | (exfalso; omega) | exact hX)⟩), ws, by rw [ht]; exact hP, hD, hQ, ⟨h_i1, h_i2, h_i3, h_i4, h_i5, h_i6, h_i7, h_i8, h_i9, h_i10, h_i11⟩, by rw [ht]; show hpS H + (260 * M + 2 * S9 M gc) ≤ hpS s.heap + (260 * M + 2 * S9 M gc); omega, by rw [ht]; show 16 * H.size + (256 * M + S9 M gc) ≤ 16 * s.heap.size + (256 * M + S9 M gc); omega⟩, hS.F ht⟩) hS.2.2 dX9_interrupt_25
   · have w_3 : ¬ (0 ≤ v1.toInt ∧ v1.toInt < (n 0).toInt) := w_3
     refine W.eq (g2 := F0 m 5 ls [.null]) rfl ?_
     refine lv_astore_nN (lv' := [(2, .null), (0, .ref (ad 0)), (1, .int v1)]) hx hb dX9_interrupt_5 rfl hl (by decide) rfl (fun ls hl => ?_)
     refine lv_aload_nN hx hb dX9_interrupt_6 rfl (lv_at hl 0 rfl) ?_
     refine lv_ifnullN (tgt := 24) hx hb dX9_interrupt_7 (by decide) ?_
     refine lv_iconst (v := 0) hx hb dX9_interrupt_24 (by decide) ?_
     refine W_msr2 (fun hm1 hm2 hm3 => ?_)
     exact W.zret (v := 0) hx hb hr rfl (fun t ht hW => ⟨⟨0, (ad, ga, gc, M, n, f, T, G, K, F), rfl, (Or.inr ⟨rfl, (by show ((C9.mk n f T G K F), (0 : Int32)) = k_interrupt v1 (C9.mk n f T G K F); have hX := (k_interrupt.eq_1 v1 (C9.mk n f T G K F)).symm; (repeat (first | dsimp +instances only [c9n, c9f, c9T, c9G, c9K, c9F, b_come, b_leave, b_fill, awB, b_settle, b_wake, b_take, f_take, b_gather, f_gather, b_ask, a_ask, b_tell, c_close, d_close, k_add, k_rem, sco, k_clrF, k_mem, k_rebind, k_bnd, k_beg0, k_beg1, b_giveN, b_giveR, f_open, b_hand, k_op, b_turn, wlB, b_beat, f_anew, b_wipe, b_off, k_sadd, fits, frP, cntB, b_trace, b_child, k_lat, cond_true, cond_false, Option.elim_none, Option.elim_some, Option.getD_none, Option.getD_some] at hX | rw [if_pos (by first | with_reducible assumption | omega)] at hX | rw [if_neg (by first | with_reducible assumption | omega)] at hX | rw [jx_of (by omega)] at hX)); first | exact hX | (exfalso; omega) | exact hX)⟩), ws, by rw [ht]; exact hP, hD, hQ, ⟨h_i1, h_i2, h_i3, h_i4, h_i5, h_i6, h_i7, h_i8, h_i9, h_i10, h_i11⟩, by rw [ht]; show hpS H + (260 * M + 2 * S9 M gc) ≤ hpS s.heap + (260 * M + 2 * S9 M gc); omega, by rw [ht]; show 16 * H.size + (256 * M + S9 M gc) ≤ 16 * s.heap.size + (256 * M + S9 M gc); omega⟩, hS.F ht⟩) hS.2.2 dX9_interrupt_25

theorem i1.z {M : Nat} {n : Nat → Int32} (h : i1 M n) : i1 M (u1 n 0 0) := by
  unfold i1 at *
  rw [u1_eq, show (0 : Int32).toInt = 0 by decide]
  omega
theorem i5.z {n : Nat → Int32} {K : Nat → Nat → Option Nat} (h : (n 0).toInt = 0) : i5 n K := fun i j hi _ => by omega
theorem i6.z {n : Nat → Int32} {T : Nat → Option Nat} {G : Nat → Nat → Int32} (h : (n 0).toInt = 0) : i6 n T G := fun i hi _ _ => by omega
theorem i7.z {n : Nat → Int32} {G : Nat → Nat → Int32} (h : (n 0).toInt = 0) : i7 n G := fun i hi _ => by omega
theorem u1_z (n : Nat → Int32) : (u1 n 0 0 0).toInt = 0 := by rw [u1_eq]; decide

set_option maxHeartbeats 8000000 in
set_option maxRecDepth 100000 in
theorem c_X9_wipeErrands (l : Launch) (dC : Nat → ClassId) (dI : Nat → Nat → Nat) (kc : Nat → ClassId) (ws : va_W) (ad : Nat → Nat) (ga : Nat → Nat) (gc : Nat → Nat) (M : Nat) (n : Nat → Int32) (f : Nat → Nat → Int32) (T : Nat → Option Nat) (G : Nat → Nat → Int32) (K : Nat → Nat → Option Nat) (F : Nat → Nat → Nat → Int32) (R : Nat) (sz hz : Nat) (hQ : Pic9 kc ws ad ga gc M n f T G K F) (hI : I9 M n f T gc G K F R) : Met l yX9_wipeErrands (.code yX9_wipeErrands cX9_wipeErrands 3 none :: gw) ({ frames := 2, cells := 0, slots := 0, locals := 41 }) (va_Pc [.ref (ad 0)] (fun U => U.heap.size = sz ∧ hpS U.heap = hz ∧ va_P (dC, dI) vwCl ws U.heap ∧ va_K (dC, dI) vwCl (t9 kc) U ∧ va_D (fun _ => True) ws ∧ nx U)) (va_Qv (fun (u : (Nat → Nat) × (Nat → Nat) × (Nat → Nat) × Nat × (Nat → Int32) × (Nat → Nat → Int32) × (Nat → Option Nat) × (Nat → Nat → Int32) × (Nat → Nat → Option Nat) × (Nat → Nat → Nat → Int32)) => (C9.mk u.2.2.2.2.1 f T G K F) = k_wipe (C9.mk n f T G K F) ∧ (u.2.2.2.2.1 0).toInt = (n 0).toInt) (fun u t => ∃ w : va_W, va_P (dC, dI) vwCl w t.heap ∧ va_D (va_A ws sz) w ∧ Pic9 kc w ad ga gc M u.2.2.2.2.1 f T G K F ∧ I9 M u.2.2.2.2.1 f T gc G K F R ∧ hpS t.heap + (260 * M + 2 * S9 M gc) ≤ hz + (260 * M + 2 * S9 M gc) ∧ 16 * t.heap.size + (256 * M + S9 M gc) ≤ 16 * sz + (256 * M + S9 M gc) ∧ (n 0).toInt ≤ (u.2.2.2.2.1 0).toInt) (va_A ws sz)) 0 0 (va_A ws sz) := by
  refine Met.ofW (cc := cX9_wipeErrands) (maxL := 3) (ret := none) (by decide) rfl ?_
  intro p e s m args below meth c s₁ B hml hv
  obtain ⟨rfl, hsz, rfl, hP, hK, hD0, hN⟩ := hv
  have hx := B.exec
  have hb := B.bytes
  have hr := B.returns
  have hts := atoms_spec (ws := .code yX9_wipeErrands cX9_wipeErrands 3 none :: gw) B.pre
  have hg : ∀ w ∈ gw, w.before _ s = true := fun w h => hts w (List.mem_cons_of_mem _ h)
  have hown : s.vm.findClass RX9 = some m.cls := findClass_of_methodNamed B.named
  have hlocks := B.notSynchronized
  subst hsz
  have hD := hD0.self (sz := s.heap.size)
  generalize hAe : va_A ws s.heap.size = A at hD ⊢
  have hA : ∀ q : Nat, s.heap.size ≤ q → A q := fun q h => by rw [← hAe]; exact Or.inr h
  clear hAe
  have hS : va_S A s.heap s.heap [] := va_S.rf
  have hl := lv_entry ([.ref (ad 0)]) (n := 3) (Nat.le_of_ble_eq_true rfl)
  rw [lg_entry_eq]
  generalize (lg_sl ([.ref (ad 0)]) ++ List.replicate (3 - (lg_sl ([.ref (ad 0)])).length) Slot.unset).toArray = ls at hl ⊢
  have hl : lv_has ls 3 [(0, .ref (ad 0))] := hl
  obtain ⟨h_i1, h_i2, h_i3, h_i4, h_i5, h_i6, h_i7, h_i8, h_i9, h_i10, h_i11⟩ := id hI
  have q1_ := h_i1
  unfold i1 at q1_
  exact by
   refine lv_iconst (v := 0) hx hb dX9_wipeErrands_0 (by decide) ?_
   refine lv_istore_n (lv' := [(1, .int 0), (0, .ref (ad 0))]) hx hb dX9_wipeErrands_1 rfl hl (by decide) rfl (fun ls hl => ?_)
   have L2 : ∀ (fuel : Nat) (x_1 : Int32)   (ws_3 : va_W) (n_2 : Nat → Int32)  (H : Heap) (locs : List Loc) (ls : Array Slot), (9 - x_1.toInt).toNat < fuel → (0 ≤ x_1.toInt ∧ x_1.toInt ≤ 8) → ((n_2 0).toInt = (n 0).toInt) → (itr b_wipe (fun s => s) x_1.toInt.toNat (8 - x_1.toInt.toNat) (C9.mk n_2 f T G K F) = k_wipe (C9.mk n f T G K F)) → ((n 0).toInt ≤ (n_2 0).toInt) → Pic9 kc ws_3 ad ga gc M n_2 f T G K F → I9 M n_2 f T gc G K F R → va_P (dC, dI) vwCl ws_3 H → va_D A ws_3 → va_S A s.heap H locs → lv_has ls 3 [(1, .int x_1), (0, .ref (ad 0))] → W p l e (headSpec (.code yX9_wipeErrands cX9_wipeErrands 3 none :: gw) ({ frames := 2, cells := 0, slots := 0, locals := 41 })).room s m ([.ref (ad 0)] : List Value).toArray below meth c H locs 0 0 (MQ below (va_Qv (fun (u : (Nat → Nat) × (Nat → Nat) × (Nat → Nat) × Nat × (Nat → Int32) × (Nat → Nat → Int32) × (Nat → Option Nat) × (Nat → Nat → Int32) × (Nat → Nat → Option Nat) × (Nat → Nat → Nat → Int32)) => (C9.mk u.2.2.2.2.1 f T G K F) = k_wipe (C9.mk n f T G K F) ∧ (u.2.2.2.2.1 0).toInt = (n 0).toInt) (fun u t => ∃ w : va_W, va_P (dC, dI) vwCl w t.heap ∧ va_D A w ∧ Pic9 kc w ad ga gc M u.2.2.2.2.1 f T G K F ∧ I9 M u.2.2.2.2.1 f T gc G K F R ∧ hpS t.heap + (260 * M + 2 * S9 M gc) ≤ (hpS s.heap) + (260 * M + 2 * S9 M gc) ∧ 16 * t.heap.size + (256 * M + S9 M gc) ≤ 16 * s.heap.size + (256 * M + S9 M gc) ∧ (n 0).toInt ≤ (u.2.2.2.2.1 0).toInt) A) ([.ref (ad 0)] : List Value).toArray s 0 0 A) (F0 m 2 ls []) := by
     intro fuel
     induction fuel with
     | zero => intro x_1 ws_3 n_2 H locs ls hm; exact absurd hm (Nat.not_lt_zero _)
     | succ fuel_11 ih_10 =>
       intro x_1 ws_3 n_2 H locs ls hm_4 v_5 v_6 v_7 v_8 hQ hI_9 hP hD hS hl
       obtain ⟨i1_12, i2_13, i3_14, i4_15, i5_16, i6_17, i7_18, i8_19, i9_20, i10_21, i11_22⟩ := id hI_9
       have q1_ := i1_12
       unfold i1 at q1_
       refine lv_iload_n hx hb dX9_wipeErrands_2 rfl (lv_at hl 0 rfl) ?_
       exact by
        refine lv_bipush (v := 8) hx hb dX9_wipeErrands_3 (by decide) ?_
        refine lv_icmp_ge (tgt := 29) hx hb dX9_wipeErrands_5 (by decide) (fun c_23 => ?_) (fun c_23 => ?_)
        · simp only [i_lt, i_le, i_eq, ti_8] at c_23
          refine W_msr2 (fun hm1 hm2 hm3 => ?_)
          exact W.vret hx hb hr (fun t ht hW => ⟨⟨(ad, ga, gc, M, n_2, f, T, G, K, F), rfl, ⟨(by show (C9.mk n_2 f T G K F) = k_wipe (C9.mk n f T G K F); have hX := v_7; (first | rw [itr_go (by omega)] at hX | rw [itr_end (by omega)] at hX); (repeat (first | dsimp +instances only [c9n, c9f, c9T, c9G, c9K, c9F, b_come, b_leave, b_fill, awB, b_settle, b_wake, b_take, f_take, b_gather, f_gather, b_ask, a_ask, b_tell, c_close, d_close, k_add, k_rem, sco, k_clrF, k_mem, k_rebind, k_bnd, k_beg0, k_beg1, b_giveN, b_giveR, f_open, b_hand, k_op, b_turn, wlB, b_beat, f_anew, b_wipe, b_off, k_sadd, fits, frP, cntB, b_trace, b_child, k_lat, cond_true, cond_false, Option.elim_none, Option.elim_some, Option.getD_none, Option.getD_some] at hX | rw [if_pos (by first | with_reducible assumption | omega)] at hX | rw [if_neg (by first | with_reducible assumption | omega)] at hX | rw [jx_of (by omega)] at hX)); first | exact hX | (exfalso; omega) | exact hX), (by show (n_2 0).toInt = (n 0).toInt; omega)⟩, ws_3, by rw [ht]; exact hP, hD, hQ, ⟨i1_12, i2_13, i3_14, i4_15, i5_16, i6_17, i7_18, i8_19, i9_20, i10_21, i11_22⟩, by rw [ht]; show hpS H + (260 * M + 2 * S9 M gc) ≤ hpS s.heap + (260 * M + 2 * S9 M gc); omega, by rw [ht]; show 16 * H.size + (256 * M + S9 M gc) ≤ 16 * s.heap.size + (256 * M + S9 M gc); omega, by show (n 0).toInt ≤ (n_2 0).toInt; omega⟩, hS.F ht⟩) hS.2.2 dX9_wipeErrands_29
        · simp only [i_lt, i_le, i_eq, ti_8] at c_23
          refine lv_aload_n hx hb dX9_wipeErrands_8 rfl (lv_at hl 1 rfl) ?_
          refine lv_iload_n hx hb dX9_wipeErrands_9 rfl (lv_at hl 0 rfl) ?_
          have hFc := free_all hD hS hA
          refine va_callq (va_runV (As := [.int x_1]) (rest := []) ⟨hx, hb, hml, hown, hg⟩ (c9_X9_errandAt l dC dI kc ws_3 ad ga gc M n_2 f T G K F R x_1 H.size (hpS H) hQ ⟨i1_12, i2_13, i3_14, i4_15, i5_16, i6_17, i7_18, i8_19, i9_20, i10_21, i11_22⟩) (cwV 1 hg (gw_V gm_methodLink_RX9_69_yX9_errandAt gm_instanceMethod_yX9_errandAt gm_selects_RX9_yX9_errandAt_yX9_errandAt gm_initialized_RX9 gm_code_yX9_errandAt_cX9_errandAt_2_some_object_ErrandGuild_Errand_) rfl rfl rfl (by decide +kernel) ⟨Nat.le_of_ble_eq_true rfl, Nat.le_of_ble_eq_true rfl⟩) ⟨fun a U g mk q => by obtain ⟨q0, q1, q2, qP, qK, qD, qN⟩ := q; exact ⟨q0, q1, q2, qP, va_K.moved (u := U) (U := U.calling g mk a) (Vm.Alike.refl U.vm) qK, qD, nx_same (u := U) (U := U.calling g mk a) rfl qN⟩, va_recv hK hP (ci := 9) (q0 := 0) rfl hQ.x0, fun U hU hW => ⟨rfl, by rw [hU], by rw [hU], by rw [hU]; exact hP, va_K.moved hW.alike hK, hD.weaken (fun _ _ _ _ => trivial), nx_warm hW hN⟩⟩ rfl rfl hl.1 rfl (lv_room (Nat.le_of_ble_eq_true rfl)) dX9_wipeErrands_10 ⟨Nat.le_of_ble_eq_true rfl, Nat.le_of_ble_eq_true rfl⟩) hS (fun q _ h => hFc q h) hFc (fun r_24 u_25 t H1 locs ht hvm hw hB hz1 hk1 hS => ?_)
          obtain ⟨hP, hD, hy1, hy2⟩ := hB
          rw [ht] at hP hy1 hy2
          have hD := hD.weaken (fun k q _ h => hFc _ h)
          have q1_ := i1_12
          unfold i1 at q1_
          generalize H1 = H at hP hS ⊢
          rcases hw with ⟨rfl, w_26⟩ | ⟨rfl, w_26⟩
          · have w_26 : (0 ≤ x_1.toInt ∧ x_1.toInt < 8) := w_26
            have hl_27 : x_1.toInt.toNat < 8 := by omega
            refine W.eq (g2 := F0 m 13 ls [.ref (ad (4 + 4 * x_1.toInt.toNat))]) rfl ?_
            exact by
             refine lv_astore_n (lv' := [(2, .ref (ad (4 + 4 * x_1.toInt.toNat))), (1, .int x_1), (0, .ref (ad 0))]) hx hb dX9_wipeErrands_13 rfl hl (by decide) rfl (fun ls hl => ?_)
             refine lv_aload_n hx hb dX9_wipeErrands_14 rfl (lv_at hl 0 rfl) ?_
             refine lv_ifnull hx hb dX9_wipeErrands_15 ?_
             refine lv_aload_n hx hb dX9_wipeErrands_18 rfl (lv_at hl 0 rfl) ?_
             refine lv_iconst (v := 0) hx hb dX9_wipeErrands_19 (by decide) ?_
             refine va_put (D := (dC, dI)) (ci := 1) (v := .int (0)) (ty := .int) (C := RX1) (T := TX1) (N := 4) hx hb hg gb_1 tyX1 tyX1_ok nmX1 hown hK hP hD hS (4 + 4 * x_1.toInt.toNat) (hQ.e0 hl_27) rfl 3 (by decide) (hg _ gm_fieldLink_RX9_73_ErrandGuild_Errand_count_I_) (fun _ h9 => h9) rfl (by decide +kernel) rfl rfl (Nat.le_of_ble_eq_true rfl) dX9_wipeErrands_20 (fun H locs hP hD hS => ?_)
             obtain ⟨ws_29, n_28, en_28, hP, hD, hQ⟩ : ∃ (ws_29 : va_W) (n_28 : Nat → Int32), n_28 = u1 n_2 (6 + x_1.toInt.toNat) 0 ∧ va_P (dC, dI) vwCl ws_29 H ∧ va_D A ws_29 ∧ Pic9 kc ws_29 ad ga gc M n_28 f T G K F := ⟨_, _, rfl, hP, hD, hQ.erN hl_27 0⟩
             have i1_30 : i1 M n_28 := by rw [en_28]; exact (i1.pn i1_12 _ (by omega))
             have i5_31 : i5 n_28 K := by rw [en_28]; exact (i5.pn i5_16 _ (by omega))
             have i6_32 : i6 n_28 T G := by rw [en_28]; exact (i6.pn i6_17 _ (by omega))
             have i7_33 : i7 n_28 G := by rw [en_28]; exact (i7.pn i7_18 _ (by omega))
             have i8_34 : i8 M n_28 gc G := by rw [en_28]; exact (i8.pn i8_19 _ (by omega))
             have i11_35 : i11 M n_28 gc f G F := by rw [en_28]; exact (i11.pn i11_22 _ (by omega))
             have hn_36 : n_28 0 = n_2 0 := by rw [en_28]; rw [u1_ne _ _ (by omega)]
             have thn_36 := congrArg Int32.toInt hn_36
             obtain ⟨y_37, ey_37⟩ : ∃ q : Int32, q = x_1 + (1) := ⟨_, rfl⟩
             exact by
              refine lv_iinc (v := y_37) (lv' := [(1, .int y_37), (2, .ref (ad (4 + 4 * x_1.toInt.toNat))), (0, .ref (ad 0))]) hx hb dX9_wipeErrands_23 hl (k := 1) rfl (by rw [ey_37]; rfl) (by decide) rfl (fun ls hl => ?_)
              have ty_37 : y_37.toInt = x_1.toInt + (1) := ar_add rfl ti_1 ey_37 (by omega)
              refine lv_goto (tgt := 2) hx hb dX9_wipeErrands_26 (by decide) ?_
              exact ih_10 y_37   ws_29 n_28  H locs ls (by show (9 - y_37.toInt).toNat < _; omega) (by show 0 ≤ y_37.toInt ∧ y_37.toInt ≤ 8; omega) (by show (n_28 0).toInt = (n 0).toInt; omega) (by show itr b_wipe (fun s => s) y_37.toInt.toNat (8 - y_37.toInt.toNat) (C9.mk n_28 f T G K F) = k_wipe (C9.mk n f T G K F); subst en_28; have hX := v_7; (first | rw [itr_go (by omega)] at hX | rw [itr_end (by omega)] at hX); (repeat (first | dsimp +instances only [c9n, c9f, c9T, c9G, c9K, c9F, b_come, b_leave, b_fill, awB, b_settle, b_wake, b_take, f_take, b_gather, f_gather, b_ask, a_ask, b_tell, c_close, d_close, k_add, k_rem, sco, k_clrF, k_mem, k_rebind, k_bnd, k_beg0, k_beg1, b_giveN, b_giveR, f_open, b_hand, k_op, b_turn, wlB, b_beat, f_anew, b_wipe, b_off, k_sadd, fits, frP, cntB, b_trace, b_child, k_lat, cond_true, cond_false, Option.elim_none, Option.elim_some, Option.getD_none, Option.getD_some] at hX | rw [if_pos (by first | with_reducible assumption | omega)] at hX | rw [if_neg (by first | with_reducible assumption | omega)] at hX | rw [jx_of (by omega)] at hX)); (rw [show y_37.toInt.toNat = x_1.toInt.toNat + 1 by omega]); first | exact hX | (exfalso; omega) | exact hX) (by show (n 0).toInt ≤ (n_28 0).toInt; omega) hQ ⟨i1_30, i2_13, i3_14, i4_15, i5_31, i6_32, i7_33, i8_34, i9_20, i10_21, i11_35⟩ hP hD hS (lv_sub hl [0, 2] rfl)
          · have w_26 : ¬ (0 ≤ x_1.toInt ∧ x_1.toInt < 8) := w_26
            refine W.eq (g2 := F0 m 13 ls [.null]) rfl ?_
            refine lv_astore_nN (lv' := [(2, .null), (1, .int x_1), (0, .ref (ad 0))]) hx hb dX9_wipeErrands_13 rfl hl (by decide) rfl (fun ls hl => ?_)
            refine lv_aload_nN hx hb dX9_wipeErrands_14 rfl (lv_at hl 0 rfl) ?_
            refine lv_ifnullN (tgt := 23) hx hb dX9_wipeErrands_15 (by decide) ?_
            obtain ⟨y_38, ey_38⟩ : ∃ q : Int32, q = x_1 + (1) := ⟨_, rfl⟩
            refine lv_iinc (v := y_38) (lv' := [(1, .int y_38), (2, .null), (0, .ref (ad 0))]) hx hb dX9_wipeErrands_23 hl (k := 1) rfl (by rw [ey_38]; rfl) (by decide) rfl (fun ls hl => ?_)
            have ty_38 : y_38.toInt = x_1.toInt + (1) := ar_add rfl ti_1 ey_38 (by omega)
            refine lv_goto (tgt := 2) hx hb dX9_wipeErrands_26 (by decide) ?_
            exact ih_10 y_38   ws_3 n_2  H locs ls (by show (9 - y_38.toInt).toNat < _; omega) (by show 0 ≤ y_38.toInt ∧ y_38.toInt ≤ 8; omega) (by show (n_2 0).toInt = (n 0).toInt; omega) (by show itr b_wipe (fun s => s) y_38.toInt.toNat (8 - y_38.toInt.toNat) (C9.mk n_2 f T G K F) = k_wipe (C9.mk n f T G K F); have hX := v_7; (first | rw [itr_go (by omega)] at hX | rw [itr_end (by omega)] at hX); (repeat (first | dsimp +instances only [c9n, c9f, c9T, c9G, c9K, c9F, b_come, b_leave, b_fill, awB, b_settle, b_wake, b_take, f_take, b_gather, f_gather, b_ask, a_ask, b_tell, c_close, d_close, k_add, k_rem, sco, k_clrF, k_mem, k_rebind, k_bnd, k_beg0, k_beg1, b_giveN, b_giveR, f_open, b_hand, k_op, b_turn, wlB, b_beat, f_anew, b_wipe, b_off, k_sadd, fits, frP, cntB, b_trace, b_child, k_lat, cond_true, cond_false, Option.elim_none, Option.elim_some, Option.getD_none, Option.getD_some] at hX | rw [if_pos (by first | with_reducible assumption | omega)] at hX | rw [if_neg (by first | with_reducible assumption | omega)] at hX | rw [jx_of (by omega)] at hX)); (rw [show y_38.toInt.toNat = x_1.toInt.toNat + 1 by omega]); first | exact hX | (exfalso; omega) | exact hX) (by show (n 0).toInt ≤ (n_2 0).toInt; omega) hQ ⟨i1_12, i2_13, i3_14, i4_15, i5_16, i6_17, i7_18, i8_19, i9_20, i10_21, i11_22⟩ hP hD hS (lv_sub hl [0, 2] rfl)
   exact L2 _ (0 : Int32)   ws n  _ _ _ (Nat.lt_succ_self _) (by have t_0 := ti_0; show 0 ≤ (0 : Int32).toInt ∧ (0 : Int32).toInt ≤ 8; omega) (by have t_0 := ti_0; show (n 0).toInt = (n 0).toInt; omega) (by show itr b_wipe (fun s => s) (0 : Int32).toInt.toNat (8 - (0 : Int32).toInt.toNat) (C9.mk n f T G K F) = k_wipe (C9.mk n f T G K F); have hX := (k_wipe.eq_1 (C9.mk n f T G K F)).symm; (repeat (first | dsimp +instances only [c9n, c9f, c9T, c9G, c9K, c9F, b_come, b_leave, b_fill, awB, b_settle, b_wake, b_take, f_take, b_gather, f_gather, b_ask, a_ask, b_tell, c_close, d_close, k_add, k_rem, sco, k_clrF, k_mem, k_rebind, k_bnd, k_beg0, k_beg1, b_giveN, b_giveR, f_open, b_hand, k_op, b_turn, wlB, b_beat, f_anew, b_wipe, b_off, k_sadd, fits, frP, cntB, b_trace, b_child, k_lat, cond_true, cond_false, Option.elim_none, Option.elim_some, Option.getD_none, Option.getD_some] at hX | rw [if_pos (by first | with_reducible assumption | omega)] at hX | rw [if_neg (by first | with_reducible assumption | omega)] at hX | rw [jx_of (by omega)] at hX)); (skip); first | exact hX | (exfalso; omega) | exact hX) (by have t_0 := ti_0; show (n 0).toInt ≤ (n 0).toInt; omega) hQ ⟨h_i1, h_i2, h_i3, h_i4, h_i5, h_i6, h_i7, h_i8, h_i9, h_i10, h_i11⟩ hP hD hS (lv_sub hl [0, 1] rfl)

set_option maxHeartbeats 8000000 in
set_option maxRecDepth 100000 in
theorem c_X9_anew (l : Launch) (dC : Nat → ClassId) (dI : Nat → Nat → Nat) (kc : Nat → ClassId) (ws : va_W) (ad : Nat → Nat) (ga : Nat → Nat) (gc : Nat → Nat) (M : Nat) (n : Nat → Int32) (f : Nat → Nat → Int32) (T : Nat → Option Nat) (G : Nat → Nat → Int32) (K : Nat → Nat → Option Nat) (F : Nat → Nat → Nat → Int32) (R : Nat) (v1 : Int32) (sz hz : Nat) (hQ : Pic9 kc ws ad ga gc M n f T G K F) (hI : I9 M n f T gc G K F R) : Met l yX9_anew (.code yX9_anew cX9_anew 3 none :: gw) ({ frames := 3, cells := 0, slots := 0, locals := 63 }) (va_Pc [.ref (ad 0), .int v1] (fun U => U.heap.size = sz ∧ hpS U.heap = hz ∧ va_P (dC, dI) vwCl ws U.heap ∧ va_K (dC, dI) vwCl (t9 kc) U ∧ va_D (fun _ => True) ws ∧ nx U)) (va_Qv (fun (u : (Nat → Nat) × (Nat → Nat) × (Nat → Nat) × Nat × (Nat → Int32) × (Nat → Nat → Int32) × (Nat → Option Nat) × (Nat → Nat → Int32) × (Nat → Nat → Option Nat) × (Nat → Nat → Nat → Int32)) => (C9.mk u.2.2.2.2.1 f u.2.2.2.2.2.2.1 G K F) = k_anew v1 (C9.mk n f T G K F) ∧ (u.2.2.2.2.1 0).toInt = 0) (fun u t => ∃ w : va_W, va_P (dC, dI) vwCl w t.heap ∧ va_D (va_A ws sz) w ∧ Pic9 kc w ad ga gc M u.2.2.2.2.1 f u.2.2.2.2.2.2.1 G K F ∧ I9 M u.2.2.2.2.1 f u.2.2.2.2.2.2.1 gc G K F R ∧ hpS t.heap + (260 * M + 2 * S9 M gc) ≤ hz + (260 * M + 2 * S9 M gc) ∧ 16 * t.heap.size + (256 * M + S9 M gc) ≤ 16 * sz + (256 * M + S9 M gc)) (va_A ws sz)) 0 0 (va_A ws sz) := by
  refine Met.ofW (cc := cX9_anew) (maxL := 3) (ret := none) (by decide) rfl ?_
  intro p e s m args below meth c s₁ B hml hv
  obtain ⟨rfl, hsz, rfl, hP, hK, hD0, hN⟩ := hv
  have hx := B.exec
  have hb := B.bytes
  have hr := B.returns
  have hts := atoms_spec (ws := .code yX9_anew cX9_anew 3 none :: gw) B.pre
  have hg : ∀ w ∈ gw, w.before _ s = true := fun w h => hts w (List.mem_cons_of_mem _ h)
  have hown : s.vm.findClass RX9 = some m.cls := findClass_of_methodNamed B.named
  have hlocks := B.notSynchronized
  subst hsz
  have hD := hD0.self (sz := s.heap.size)
  generalize hAe : va_A ws s.heap.size = A at hD ⊢
  have hA : ∀ q : Nat, s.heap.size ≤ q → A q := fun q h => by rw [← hAe]; exact Or.inr h
  clear hAe
  have hS : va_S A s.heap s.heap [] := va_S.rf
  have hl := lv_entry ([.ref (ad 0), .int v1]) (n := 3) (Nat.le_of_ble_eq_true rfl)
  rw [lg_entry_eq]
  generalize (lg_sl ([.ref (ad 0), .int v1]) ++ List.replicate (3 - (lg_sl ([.ref (ad 0), .int v1])).length) Slot.unset).toArray = ls at hl ⊢
  have hl : lv_has ls 3 [(0, .ref (ad 0)), (1, .int v1)] := hl
  obtain ⟨h_i1, h_i2, h_i3, h_i4, h_i5, h_i6, h_i7, h_i8, h_i9, h_i10, h_i11⟩ := id hI
  have q1_ := h_i1
  unfold i1 at q1_
  exact by
   refine lv_aload_n hx hb dX9_anew_0 rfl (lv_at hl 0 rfl) ?_
   refine lv_iconst (v := 0) hx hb dX9_anew_1 (by decide) ?_
   refine va_put (D := (dC, dI)) (ci := 9) (v := .int (0)) (ty := .int) (C := RX9) (T := TX9) (N := 15) hx hb hg gb_9 tyX9 tyX9_ok nmX9 hown hK hP hD hS 0 hQ.x0 rfl 5 (by decide) (hg _ gm_fieldLink_RX9_66_ErrandGuild_runCount_I_) (fun _ h9 => h9) rfl (by decide +kernel) rfl rfl (Nat.le_of_ble_eq_true rfl) dX9_anew_2 (fun H locs hP hD hS => ?_)
   obtain ⟨ws_2, n_1, en_1, hP, hD, hQ⟩ : ∃ (ws_2 : va_W) (n_1 : Nat → Int32), n_1 = u1 n 0 0 ∧ va_P (dC, dI) vwCl ws_2 H ∧ va_D A ws_2 ∧ Pic9 kc ws_2 ad ga gc M n_1 f T G K F := ⟨_, _, rfl, hP, hD, hQ.x9 0 5 (by decide) 0⟩
   have i1_3 : i1 M n_1 := by rw [en_1]; exact i1.z h_i1
   have i5_4 : i5 n_1 K := by rw [en_1]; exact i5.z (u1_z _)
   have i6_5 : i6 n_1 T G := by rw [en_1]; exact i6.z (u1_z _)
   have i7_6 : i7 n_1 G := by rw [en_1]; exact i7.z (u1_z _)
   have i8_7 : i8 M n_1 gc G := by rw [en_1]; exact (i8.pn h_i8 _ (by decide))
   have i11_8 : i11 M n_1 gc f G F := by rw [en_1]; exact (i11.pn h_i11 _ (by decide))
   have hn_9 : n_1 0 = 0 := by rw [en_1]; exact u1_eq _ _ _
   have thn_9 : (n_1 0).toInt = 0 := by rw [hn_9]; decide
   exact by
    refine lv_aload_n hx hb dX9_anew_5 rfl (lv_at hl 0 rfl) ?_
    refine lv_iconst (v := 0) hx hb dX9_anew_6 (by decide) ?_
    refine va_put (D := (dC, dI)) (ci := 9) (v := .int (0)) (ty := .int) (C := RX9) (T := TX9) (N := 15) hx hb hg gb_9 tyX9 tyX9_ok nmX9 hown hK hP hD hS 0 hQ.x0 rfl 8 (by decide) (hg _ gm_fieldLink_RX9_84_ErrandGuild_beats_I_) (fun _ h9 => h9) rfl (by decide +kernel) rfl rfl (Nat.le_of_ble_eq_true rfl) dX9_anew_7 (fun H locs hP hD hS => ?_)
    obtain ⟨ws_11, n_10, en_10, hP, hD, hQ⟩ : ∃ (ws_11 : va_W) (n_10 : Nat → Int32), n_10 = u1 n_1 2 0 ∧ va_P (dC, dI) vwCl ws_11 H ∧ va_D A ws_11 ∧ Pic9 kc ws_11 ad ga gc M n_10 f T G K F := ⟨_, _, rfl, hP, hD, hQ.x9 2 8 (by decide) 0⟩
    have i1_12 : i1 M n_10 := by rw [en_10]; exact (i1.pn i1_3 _ (by decide))
    have i5_13 : i5 n_10 K := by rw [en_10]; exact (i5.pn i5_4 _ (by decide))
    have i6_14 : i6 n_10 T G := by rw [en_10]; exact (i6.pn i6_5 _ (by decide))
    have i7_15 : i7 n_10 G := by rw [en_10]; exact (i7.pn i7_6 _ (by decide))
    have i8_16 : i8 M n_10 gc G := by rw [en_10]; exact (i8.pn i8_7 _ (by decide))
    have i11_17 : i11 M n_10 gc f G F := by rw [en_10]; exact (i11.pn i11_8 _ (by decide))
    have hn_18 : n_10 0 = n_1 0 := by rw [en_10]; rw [u1_ne _ _ (by decide)]
    have thn_18 := congrArg Int32.toInt hn_18
    exact by
     refine lv_iconst (v := 0) hx hb dX9_anew_10 (by decide) ?_
     refine lv_istore_n (lv' := [(2, .int 0), (0, .ref (ad 0)), (1, .int v1)]) hx hb dX9_anew_11 rfl hl (by decide) rfl (fun ls hl => ?_)
     have L12 : ∀ (fuel : Nat) (x_19 : Int32)   (ws_21 : va_W) (T_20 : Nat → Option Nat)  (H : Heap) (locs : List Loc) (ls : Array Slot), (7 - x_19.toInt).toNat < fuel → (0 ≤ x_19.toInt ∧ x_19.toInt ≤ 6) → ((n_10 0).toInt = 0) → (itr b_off (f_anew v1) x_19.toInt.toNat (6 - x_19.toInt.toNat) (C9.mk n_10 f T_20 G K F) = k_anew v1 (C9.mk n f T G K F)) → Pic9 kc ws_21 ad ga gc M n_10 f T_20 G K F → I9 M n_10 f T_20 gc G K F R → va_P (dC, dI) vwCl ws_21 H → va_D A ws_21 → va_S A s.heap H locs → lv_has ls 3 [(2, .int x_19), (0, .ref (ad 0)), (1, .int v1)] → W p l e (headSpec (.code yX9_anew cX9_anew 3 none :: gw) ({ frames := 3, cells := 0, slots := 0, locals := 63 })).room s m ([.ref (ad 0), .int v1] : List Value).toArray below meth c H locs 0 0 (MQ below (va_Qv (fun (u : (Nat → Nat) × (Nat → Nat) × (Nat → Nat) × Nat × (Nat → Int32) × (Nat → Nat → Int32) × (Nat → Option Nat) × (Nat → Nat → Int32) × (Nat → Nat → Option Nat) × (Nat → Nat → Nat → Int32)) => (C9.mk u.2.2.2.2.1 f u.2.2.2.2.2.2.1 G K F) = k_anew v1 (C9.mk n f T G K F) ∧ (u.2.2.2.2.1 0).toInt = 0) (fun u t => ∃ w : va_W, va_P (dC, dI) vwCl w t.heap ∧ va_D A w ∧ Pic9 kc w ad ga gc M u.2.2.2.2.1 f u.2.2.2.2.2.2.1 G K F ∧ I9 M u.2.2.2.2.1 f u.2.2.2.2.2.2.1 gc G K F R ∧ hpS t.heap + (260 * M + 2 * S9 M gc) ≤ (hpS s.heap) + (260 * M + 2 * S9 M gc) ∧ 16 * t.heap.size + (256 * M + S9 M gc) ≤ 16 * s.heap.size + (256 * M + S9 M gc)) A) ([.ref (ad 0), .int v1] : List Value).toArray s 0 0 A) (F0 m 12 ls []) := by
       intro fuel
       induction fuel with
       | zero => intro x_19 ws_21 T_20 H locs ls hm; exact absurd hm (Nat.not_lt_zero _)
       | succ fuel_28 ih_27 =>
         intro x_19 ws_21 T_20 H locs ls hm_22 v_23 v_24 v_25 hQ hI_26 hP hD hS hl
         obtain ⟨i1_29, i2_30, i3_31, i4_32, i5_33, i6_34, i7_35, i8_36, i9_37, i10_38, i11_39⟩ := id hI_26
         have q1_ := i1_29
         unfold i1 at q1_
         refine lv_iload_n hx hb dX9_anew_12 rfl (lv_at hl 0 rfl) ?_
         exact by
          refine lv_bipush (v := 6) hx hb dX9_anew_13 (by decide) ?_
          refine lv_icmp_ge (tgt := 31) hx hb dX9_anew_15 (by decide) (fun c_40 => ?_) (fun c_40 => ?_)
          · simp only [i_lt, i_le, i_eq, ti_6] at c_40
            refine lv_aload_n hx hb dX9_anew_31 rfl (lv_at hl 1 rfl) ?_
            refine va_get (D := (dC, dI)) (ci := 9) (v := .ref (ad 42)) (C := RX9) (T := TX9) (N := 15) hx hb hg gb_9 hown hK hP 0 hQ.x0 rfl 9 (by decide) (hg _ gm_fieldLink_RX9_47_ErrandGuild_readings_LErrandGuild_Ledger_) (fun _ h9 => h9) rfl dX9_anew_32 ?_
            have hCc : ([42, 43] : List Nat).map (fun i => ws_21[i]?) = ([(ad 42, .inr (5, [.int (n_10 14), .ref (ad 43)])), (ad 43, .inr (0, [.int (n_10 15), .ref (ga 0), .int (n_10 16)]))] : va_W).map some := mp2 hQ.x42 hQ.x43
            have hNd : ([42, 43] : List Nat).Nodup := (by decide)
            have hPc := hP.pick [42, 43] hCc
            have hDc := hD.pick [42, 43] hNd hCc
            have hKc := hK.sub (tys' := []) [] rfl
            have hFc := va_free (wc := [(ad 42, .inr (5, [.int (n_10 14), .ref (ad 43)])), (ad 43, .inr (0, [.int (n_10 15), .ref (ga 0), .int (n_10 16)]))]) hD hS hA [42, 43] hCc
            refine va_callv (va_runV (As := []) (rest := []) ⟨hx, hb, hml, hown, hg⟩ (c_X5_clear l dC dI (ad 42) (ad 43) (ga 0) (n_10 14) (n_10 15) (n_10 16) H.size ) (cwV 0 hg (gw_V gm_methodLink_RX9_87_yX5_clear gm_instanceMethod_yX5_clear gm_selects_RX5_yX5_clear_yX5_clear gm_initialized_RX5 gm_code_yX5_clear_cX5_clear_1_none) rfl rfl rfl (by decide +kernel) ⟨Nat.le_of_ble_eq_true rfl, Nat.le_of_ble_eq_true rfl⟩) ⟨fun a U g mk q => by obtain ⟨q0, q1, qP, qK, qD, qN⟩ := q; exact ⟨q0, q1, qP, va_K.moved (u := U) (U := U.calling g mk a) (Vm.Alike.refl U.vm) qK, qD, nx_same (u := U) (U := U.calling g mk a) rfl qN⟩, va_recv hK hP (ci := 5) (q0 := 42) rfl hQ.x42, fun U hU hW => ⟨rfl, by rw [hU], by rw [hU]; exact hPc, va_K.moved hW.alike hKc, hDc.weaken (fun _ _ _ _ => trivial), nx_warm hW hN⟩⟩ rfl rfl hl.1 rfl (lv_room (Nat.le_of_ble_eq_true rfl)) dX9_anew_35 ⟨Nat.le_of_ble_eq_true rfl, Nat.le_of_ble_eq_true rfl⟩) hS (fun q _ h => hFc q h) hFc (fun u_42 t H1 locs ht hvm hw hB hz1 hk1 hS => ?_)
            obtain ⟨ad_43, ac_44, af_45, ag_46⟩ := u_42
            obtain ⟨hP1, hD1, hK1⟩ := hB
            rw [ht] at hP1
            obtain ⟨hP, hD⟩ := va_repl (w1 := [((ad 42), .inr (5, [.int (n_10 14), .ref (ad 43)])), ((ad 43), .inr (0, [.int (n_10 15), .ref (ga 0), .int 0]))]) hP hD [42, 43] hCc hNd rfl hk1 hFc hP1 hD1
            obtain ⟨ws_48, n_47, en_47, hP, hD, hQ⟩ : ∃ (ws_48 : va_W) (n_47 : Nat → Int32), n_47 = u1 n_10 16 0 ∧ va_P (dC, dI) vwCl ws_48 H1 ∧ va_D A ws_48 ∧ Pic9 kc ws_48 ad ga gc M n_47 f T_20 G K F := ⟨_, _, rfl, hP, hD, (hQ.same hQ.x42).grC0 0⟩
            have i1_49 : i1 M n_47 := by rw [en_47]; exact (i1.pn i1_29 _ (by decide))
            have i5_50 : i5 n_47 K := by rw [en_47]; exact (i5.pn i5_33 _ (by decide))
            have i6_51 : i6 n_47 T_20 G := by rw [en_47]; exact (i6.pn i6_34 _ (by decide))
            have i7_52 : i7 n_47 G := by rw [en_47]; exact (i7.pn i7_35 _ (by decide))
            have i8_53 : i8 M n_47 gc G := by rw [en_47]; exact (i8.pn i8_36 _ (by decide))
            have i11_54 : i11 M n_47 gc f G F := by rw [en_47]; exact (i11.cn0 i11_39)
            have hn_55 : n_47 0 = n_10 0 := by rw [en_47]; rw [u1_ne _ _ (by decide)]
            have thn_55 := congrArg Int32.toInt hn_55
            generalize H1 = H at hP hS ⊢
            exact by
             refine lv_aload_n hx hb dX9_anew_38 rfl (lv_at hl 1 rfl) ?_
             refine lv_iconst (v := 0) hx hb dX9_anew_39 (by decide) ?_
             refine va_put (D := (dC, dI)) (ci := 9) (v := .int (0)) (ty := .int) (C := RX9) (T := TX9) (N := 15) hx hb hg gb_9 tyX9 tyX9_ok nmX9 hown hK hP hD hS 0 hQ.x0 rfl 10 (by decide) (hg _ gm_fieldLink_RX9_90_ErrandGuild_readingCount_I_) (fun _ h9 => h9) rfl (by decide +kernel) rfl rfl (Nat.le_of_ble_eq_true rfl) dX9_anew_40 (fun H locs hP hD hS => ?_)
             obtain ⟨ws_57, n_56, en_56, hP, hD, hQ⟩ : ∃ (ws_57 : va_W) (n_56 : Nat → Int32), n_56 = u1 n_47 3 0 ∧ va_P (dC, dI) vwCl ws_57 H ∧ va_D A ws_57 ∧ Pic9 kc ws_57 ad ga gc M n_56 f T_20 G K F := ⟨_, _, rfl, hP, hD, hQ.x9 3 10 (by decide) 0⟩
             have i1_58 : i1 M n_56 := by rw [en_56]; exact (i1.pn i1_49 _ (by decide))
             have i5_59 : i5 n_56 K := by rw [en_56]; exact (i5.pn i5_50 _ (by decide))
             have i6_60 : i6 n_56 T_20 G := by rw [en_56]; exact (i6.pn i6_51 _ (by decide))
             have i7_61 : i7 n_56 G := by rw [en_56]; exact (i7.pn i7_52 _ (by decide))
             have i8_62 : i8 M n_56 gc G := by rw [en_56]; exact (i8.pn i8_53 _ (by decide))
             have i11_63 : i11 M n_56 gc f G F := by rw [en_56]; exact (i11.pn i11_54 _ (by decide))
             have hn_64 : n_56 0 = n_47 0 := by rw [en_56]; rw [u1_ne _ _ (by decide)]
             have thn_64 := congrArg Int32.toInt hn_64
             exact by
              refine lv_aload_n hx hb dX9_anew_43 rfl (lv_at hl 1 rfl) ?_
              refine va_get (D := (dC, dI)) (ci := 9) (v := .ref (ad 45)) (C := RX9) (T := TX9) (N := 15) hx hb hg gb_9 hown hK hP 0 hQ.x0 rfl 11 (by decide) (hg _ gm_fieldLink_RX9_51_ErrandGuild_asked_LErrandGuild_Ledger_) (fun _ h9 => h9) rfl dX9_anew_44 ?_
              have hCc : ([45, 46] : List Nat).map (fun i => ws_57[i]?) = ([(ad 45, .inr (5, [.int (n_56 17), .ref (ad 46)])), (ad 46, .inr (0, [.int (n_56 18), .ref (ga 1), .int (n_56 19)]))] : va_W).map some := mp2 hQ.x45 hQ.x46
              have hNd : ([45, 46] : List Nat).Nodup := (by decide)
              have hPc := hP.pick [45, 46] hCc
              have hDc := hD.pick [45, 46] hNd hCc
              have hKc := hK.sub (tys' := []) [] rfl
              have hFc := va_free (wc := [(ad 45, .inr (5, [.int (n_56 17), .ref (ad 46)])), (ad 46, .inr (0, [.int (n_56 18), .ref (ga 1), .int (n_56 19)]))]) hD hS hA [45, 46] hCc
              refine va_callv (va_runV (As := []) (rest := []) ⟨hx, hb, hml, hown, hg⟩ (c_X5_clear l dC dI (ad 45) (ad 46) (ga 1) (n_56 17) (n_56 18) (n_56 19) H.size ) (cwV 0 hg (gw_V gm_methodLink_RX9_87_yX5_clear gm_instanceMethod_yX5_clear gm_selects_RX5_yX5_clear_yX5_clear gm_initialized_RX5 gm_code_yX5_clear_cX5_clear_1_none) rfl rfl rfl (by decide +kernel) ⟨Nat.le_of_ble_eq_true rfl, Nat.le_of_ble_eq_true rfl⟩) ⟨fun a U g mk q => by obtain ⟨q0, q1, qP, qK, qD, qN⟩ := q; exact ⟨q0, q1, qP, va_K.moved (u := U) (U := U.calling g mk a) (Vm.Alike.refl U.vm) qK, qD, nx_same (u := U) (U := U.calling g mk a) rfl qN⟩, va_recv hK hP (ci := 5) (q0 := 45) rfl hQ.x45, fun U hU hW => ⟨rfl, by rw [hU], by rw [hU]; exact hPc, va_K.moved hW.alike hKc, hDc.weaken (fun _ _ _ _ => trivial), nx_warm hW hN⟩⟩ rfl rfl hl.1 rfl (lv_room (Nat.le_of_ble_eq_true rfl)) dX9_anew_47 ⟨Nat.le_of_ble_eq_true rfl, Nat.le_of_ble_eq_true rfl⟩) hS (fun q _ h => hFc q h) hFc (fun u_66 t H1 locs ht hvm hw hB hz1 hk1 hS => ?_)
              obtain ⟨ad_67, ac_68, af_69, ag_70⟩ := u_66
              obtain ⟨hP1, hD1, hK1⟩ := hB
              rw [ht] at hP1
              obtain ⟨hP, hD⟩ := va_repl (w1 := [((ad 45), .inr (5, [.int (n_56 17), .ref (ad 46)])), ((ad 46), .inr (0, [.int (n_56 18), .ref (ga 1), .int 0]))]) hP hD [45, 46] hCc hNd rfl hk1 hFc hP1 hD1
              obtain ⟨ws_72, n_71, en_71, hP, hD, hQ⟩ : ∃ (ws_72 : va_W) (n_71 : Nat → Int32), n_71 = u1 n_56 19 0 ∧ va_P (dC, dI) vwCl ws_72 H1 ∧ va_D A ws_72 ∧ Pic9 kc ws_72 ad ga gc M n_71 f T_20 G K F := ⟨_, _, rfl, hP, hD, (hQ.same hQ.x45).grC1 0⟩
              have i1_73 : i1 M n_71 := by rw [en_71]; exact (i1.pn i1_58 _ (by decide))
              have i5_74 : i5 n_71 K := by rw [en_71]; exact (i5.pn i5_59 _ (by decide))
              have i6_75 : i6 n_71 T_20 G := by rw [en_71]; exact (i6.pn i6_60 _ (by decide))
              have i7_76 : i7 n_71 G := by rw [en_71]; exact (i7.pn i7_61 _ (by decide))
              have i8_77 : i8 M n_71 gc G := by rw [en_71]; exact (i8.pn i8_62 _ (by decide))
              have i11_78 : i11 M n_71 gc f G F := by rw [en_71]; exact (i11.cn1 i11_63)
              have hn_79 : n_71 0 = n_56 0 := by rw [en_71]; rw [u1_ne _ _ (by decide)]
              have thn_79 := congrArg Int32.toInt hn_79
              generalize H1 = H at hP hS ⊢
              exact by
               refine lv_aload_n hx hb dX9_anew_50 rfl (lv_at hl 1 rfl) ?_
               refine lv_iconst (v := 0) hx hb dX9_anew_51 (by decide) ?_
               refine va_put (D := (dC, dI)) (ci := 9) (v := .int (0)) (ty := .int) (C := RX9) (T := TX9) (N := 15) hx hb hg gb_9 tyX9 tyX9_ok nmX9 hown hK hP hD hS 0 hQ.x0 rfl 12 (by decide) (hg _ gm_fieldLink_RX9_93_ErrandGuild_askedCount_I_) (fun _ h9 => h9) rfl (by decide +kernel) rfl rfl (Nat.le_of_ble_eq_true rfl) dX9_anew_52 (fun H locs hP hD hS => ?_)
               obtain ⟨ws_81, n_80, en_80, hP, hD, hQ⟩ : ∃ (ws_81 : va_W) (n_80 : Nat → Int32), n_80 = u1 n_71 4 0 ∧ va_P (dC, dI) vwCl ws_81 H ∧ va_D A ws_81 ∧ Pic9 kc ws_81 ad ga gc M n_80 f T_20 G K F := ⟨_, _, rfl, hP, hD, hQ.x9 4 12 (by decide) 0⟩
               have i1_82 : i1 M n_80 := by rw [en_80]; exact (i1.pn i1_73 _ (by decide))
               have i5_83 : i5 n_80 K := by rw [en_80]; exact (i5.pn i5_74 _ (by decide))
               have i6_84 : i6 n_80 T_20 G := by rw [en_80]; exact (i6.pn i6_75 _ (by decide))
               have i7_85 : i7 n_80 G := by rw [en_80]; exact (i7.pn i7_76 _ (by decide))
               have i8_86 : i8 M n_80 gc G := by rw [en_80]; exact (i8.pn i8_77 _ (by decide))
               have i11_87 : i11 M n_80 gc f G F := by rw [en_80]; exact (i11.pn i11_78 _ (by decide))
               have hn_88 : n_80 0 = n_71 0 := by rw [en_80]; rw [u1_ne _ _ (by decide)]
               have thn_88 := congrArg Int32.toInt hn_88
               exact by
                refine lv_aload_n hx hb dX9_anew_55 rfl (lv_at hl 1 rfl) ?_
                refine va_get (D := (dC, dI)) (ci := 9) (v := .ref (ad 48)) (C := RX9) (T := TX9) (N := 15) hx hb hg gb_9 hown hK hP 0 hQ.x0 rfl 13 (by decide) (hg _ gm_fieldLink_RX9_57_ErrandGuild_turns_LErrandGuild_Cells_) (fun _ h9 => h9) rfl dX9_anew_56 ?_
                have hCc : ([48] : List Nat).map (fun i => ws_81[i]?) = ([(ad 48, .inr (0, [.int (n_80 20), .ref (ga 2), .int (n_80 21)]))] : va_W).map some := mp1 hQ.x48
                have hNd : ([48] : List Nat).Nodup := (by decide)
                have hPc := hP.pick [48] hCc
                have hDc := hD.pick [48] hNd hCc
                have hKc := hK.sub (tys' := []) [] rfl
                have hFc := va_free (wc := [(ad 48, .inr (0, [.int (n_80 20), .ref (ga 2), .int (n_80 21)]))]) hD hS hA [48] hCc
                refine va_callv (va_runV (As := []) (rest := []) ⟨hx, hb, hml, hown, hg⟩ (c_X0_clear l dC dI (ad 48) (ga 2) (n_80 20) (n_80 21) H.size ) (cwV 0 hg (gw_V gm_methodLink_RX9_96_yX0_clear gm_instanceMethod_yX0_clear gm_selects_RX0_yX0_clear_yX0_clear gm_initialized_RX0 gm_code_yX0_clear_cX0_clear_1_none) rfl rfl rfl (by decide +kernel) ⟨Nat.le_of_ble_eq_true rfl, Nat.le_of_ble_eq_true rfl⟩) ⟨fun a U g mk q => by obtain ⟨q0, q1, qP, qK, qD, qN⟩ := q; exact ⟨q0, q1, qP, va_K.moved (u := U) (U := U.calling g mk a) (Vm.Alike.refl U.vm) qK, qD, nx_same (u := U) (U := U.calling g mk a) rfl qN⟩, va_recv hK hP (ci := 0) (q0 := 48) rfl hQ.x48, fun U hU hW => ⟨rfl, by rw [hU], by rw [hU]; exact hPc, va_K.moved hW.alike hKc, hDc.weaken (fun _ _ _ _ => trivial), nx_warm hW hN⟩⟩ rfl rfl hl.1 rfl (lv_room (Nat.le_of_ble_eq_true rfl)) dX9_anew_59 ⟨Nat.le_of_ble_eq_true rfl, Nat.le_of_ble_eq_true rfl⟩) hS (fun q _ h => hFc q h) hFc (fun u_90 t H1 locs ht hvm hw hB hz1 hk1 hS => ?_)
                obtain ⟨ad_91, ac_92, af_93, ag_94⟩ := u_90
                obtain ⟨hP1, hD1, hK1⟩ := hB
                rw [ht] at hP1
                obtain ⟨hP, hD⟩ := va_repl (w1 := [((ad 48), .inr (0, [.int (n_80 20), .ref (ga 2), .int 0]))]) hP hD [48] hCc hNd rfl hk1 hFc hP1 hD1
                obtain ⟨ws_96, n_95, en_95, hP, hD, hQ⟩ : ∃ (ws_96 : va_W) (n_95 : Nat → Int32), n_95 = u1 n_80 21 0 ∧ va_P (dC, dI) vwCl ws_96 H1 ∧ va_D A ws_96 ∧ Pic9 kc ws_96 ad ga gc M n_95 f T_20 G K F := ⟨_, _, rfl, hP, hD, hQ.grC2 0⟩
                have i1_97 : i1 M n_95 := by rw [en_95]; exact (i1.pn i1_82 _ (by decide))
                have i5_98 : i5 n_95 K := by rw [en_95]; exact (i5.pn i5_83 _ (by decide))
                have i6_99 : i6 n_95 T_20 G := by rw [en_95]; exact (i6.pn i6_84 _ (by decide))
                have i7_100 : i7 n_95 G := by rw [en_95]; exact (i7.pn i7_85 _ (by decide))
                have i8_101 : i8 M n_95 gc G := by rw [en_95]; exact (i8.pn i8_86 _ (by decide))
                have i11_102 : i11 M n_95 gc f G F := by rw [en_95]; exact (i11.cn2 i11_87)
                have hn_103 : n_95 0 = n_80 0 := by rw [en_95]; rw [u1_ne _ _ (by decide)]
                have thn_103 := congrArg Int32.toInt hn_103
                generalize H1 = H at hP hS ⊢
                exact by
                 refine lv_aload_n hx hb dX9_anew_62 rfl (lv_at hl 1 rfl) ?_
                 refine lv_iconst (v := 0) hx hb dX9_anew_63 (by decide) ?_
                 refine va_put (D := (dC, dI)) (ci := 9) (v := .int (0)) (ty := .int) (C := RX9) (T := TX9) (N := 15) hx hb hg gb_9 tyX9 tyX9_ok nmX9 hown hK hP hD hS 0 hQ.x0 rfl 14 (by decide) (hg _ gm_fieldLink_RX9_97_ErrandGuild_turnCount_I_) (fun _ h9 => h9) rfl (by decide +kernel) rfl rfl (Nat.le_of_ble_eq_true rfl) dX9_anew_64 (fun H locs hP hD hS => ?_)
                 obtain ⟨ws_105, n_104, en_104, hP, hD, hQ⟩ : ∃ (ws_105 : va_W) (n_104 : Nat → Int32), n_104 = u1 n_95 5 0 ∧ va_P (dC, dI) vwCl ws_105 H ∧ va_D A ws_105 ∧ Pic9 kc ws_105 ad ga gc M n_104 f T_20 G K F := ⟨_, _, rfl, hP, hD, hQ.x9 5 14 (by decide) 0⟩
                 have i1_106 : i1 M n_104 := by rw [en_104]; exact (i1.pn i1_97 _ (by decide))
                 have i5_107 : i5 n_104 K := by rw [en_104]; exact (i5.pn i5_98 _ (by decide))
                 have i6_108 : i6 n_104 T_20 G := by rw [en_104]; exact (i6.pn i6_99 _ (by decide))
                 have i7_109 : i7 n_104 G := by rw [en_104]; exact (i7.pn i7_100 _ (by decide))
                 have i8_110 : i8 M n_104 gc G := by rw [en_104]; exact (i8.pn i8_101 _ (by decide))
                 have i11_111 : i11 M n_104 gc f G F := by rw [en_104]; exact (i11.pn i11_102 _ (by decide))
                 have hn_112 : n_104 0 = n_95 0 := by rw [en_104]; rw [u1_ne _ _ (by decide)]
                 have thn_112 := congrArg Int32.toInt hn_112
                 exact by
                  refine lv_iload_n hx hb dX9_anew_67 rfl (lv_at hl 2 rfl) ?_
                  refine lv_if_eq (tgt := 75) hx hb dX9_anew_68 (by decide) (fun c_113 => ?_) (fun c_113 => ?_)
                  · simp only [i_lt, i_le, i_eq, ti_0] at c_113
                    refine W_msr2 (fun hm1 hm2 hm3 => ?_)
                    exact W.vret hx hb hr (fun t ht hW => ⟨⟨(ad, ga, gc, M, n_104, f, T_20, G, K, F), rfl, ⟨(by show (C9.mk n_104 f T_20 G K F) = k_anew v1 (C9.mk n f T G K F); subst en_1; subst en_10; subst en_47; subst en_56; subst en_71; subst en_80; subst en_95; subst en_104; have hX := v_25; (first | rw [itr_go (by omega)] at hX | rw [itr_end (by omega)] at hX); (repeat (first | dsimp +instances only [c9n, c9f, c9T, c9G, c9K, c9F, b_come, b_leave, b_fill, awB, b_settle, b_wake, b_take, f_take, b_gather, f_gather, b_ask, a_ask, b_tell, c_close, d_close, k_add, k_rem, sco, k_clrF, k_mem, k_rebind, k_bnd, k_beg0, k_beg1, b_giveN, b_giveR, f_open, b_hand, k_op, b_turn, wlB, b_beat, f_anew, b_wipe, b_off, k_sadd, fits, frP, cntB, b_trace, b_child, k_lat, cond_true, cond_false, Option.elim_none, Option.elim_some, Option.getD_none, Option.getD_some] at hX | rw [if_pos (by first | with_reducible assumption | omega)] at hX | rw [if_neg (by first | with_reducible assumption | omega)] at hX | rw [jx_of (by omega)] at hX)); first | exact hX | (exfalso; omega) | exact hX), (by show (n_104 0).toInt = 0; omega)⟩, ws_105, by rw [ht]; exact hP, hD, hQ, ⟨i1_106, i2_30, i3_31, i4_32, i5_107, i6_108, i7_109, i8_110, i9_37, i10_38, i11_111⟩, by rw [ht]; show hpS H + (260 * M + 2 * S9 M gc) ≤ hpS s.heap + (260 * M + 2 * S9 M gc); omega, by rw [ht]; show 16 * H.size + (256 * M + S9 M gc) ≤ 16 * s.heap.size + (256 * M + S9 M gc); omega⟩, hS.F ht⟩) hS.2.2 dX9_anew_75
                  · simp only [i_lt, i_le, i_eq, ti_0] at c_113
                    refine lv_aload_n hx hb dX9_anew_71 rfl (lv_at hl 1 rfl) ?_
                    have hFc := free_all hD hS hA
                    refine va_callv (va_runV (As := []) (rest := []) ⟨hx, hb, hml, hown, hg⟩ (c_X9_wipeErrands l dC dI kc ws_105 ad ga gc M n_104 f T_20 G K F R H.size (hpS H) hQ ⟨i1_106, i2_30, i3_31, i4_32, i5_107, i6_108, i7_109, i8_110, i9_37, i10_38, i11_111⟩) (cwV 0 hg (gw_V gm_methodLink_RX9_100_yX9_wipeErrands gm_instanceMethod_yX9_wipeErrands gm_selects_RX9_yX9_wipeErrands_yX9_wipeErrands gm_initialized_RX9 gm_code_yX9_wipeErrands_cX9_wipeErrands_3_none) rfl rfl rfl (by decide +kernel) ⟨Nat.le_of_ble_eq_true rfl, Nat.le_of_ble_eq_true rfl⟩) ⟨fun a U g mk q => by obtain ⟨q0, q1, q2, qP, qK, qD, qN⟩ := q; exact ⟨q0, q1, q2, qP, va_K.moved (u := U) (U := U.calling g mk a) (Vm.Alike.refl U.vm) qK, qD, nx_same (u := U) (U := U.calling g mk a) rfl qN⟩, va_recv hK hP (ci := 9) (q0 := 0) rfl hQ.x0, fun U hU hW => ⟨rfl, by rw [hU], by rw [hU], by rw [hU]; exact hP, va_K.moved hW.alike hK, hD.weaken (fun _ _ _ _ => trivial), nx_warm hW hN⟩⟩ rfl rfl hl.1 rfl (lv_room (Nat.le_of_ble_eq_true rfl)) dX9_anew_72 ⟨Nat.le_of_ble_eq_true rfl, Nat.le_of_ble_eq_true rfl⟩) hS (fun q _ h => hFc q h) hFc (fun u_115 t H1 locs ht hvm hw hB hz1 hk1 hS => ?_)
                    obtain ⟨ad_116, ga_117, gc_118, M_119, n_120, f_121, T_122, G_123, K_124, F_125⟩ := u_115
                    have hB : ∃ w : va_W, va_P (dC, dI) vwCl w t.heap ∧ va_D (va_A ws_105 H.size) w ∧ Pic9 kc w ad ga gc M n_120 f T_20 G K F ∧ I9 M n_120 f T_20 gc G K F R ∧ hpS t.heap + (260 * M + 2 * S9 M gc) ≤ hpS H + (260 * M + 2 * S9 M gc) ∧ 16 * t.heap.size + (256 * M + S9 M gc) ≤ 16 * H.size + (256 * M + S9 M gc) ∧ (n_104 0).toInt ≤ (n_120 0).toInt := hB
                    rw [ht] at hB
                    obtain ⟨ws_126, hP, hD, hQ, hI_128, hy1, hy2, hn_127⟩ := hB
                    have hD := hD.weaken (fun k q _ h => hFc _ h)
                    obtain ⟨i1_129, i2_130, i3_131, i4_132, i5_133, i6_134, i7_135, i8_136, i9_137, i10_138, i11_139⟩ := id hI_128
                    have q1_ := i1_129
                    unfold i1 at q1_
                    generalize H1 = H at hP hS ⊢
                    have hc_141 : (C9.mk n_120 f T_20 G K F) = k_wipe (C9.mk n_104 f T_20 G K F) := hw.1
                    have w_140 : (n_120 0).toInt = (n_104 0).toInt := hw.2
                    refine W_msr2 (fun hm1 hm2 hm3 => ?_)
                    exact W.vret hx hb hr (fun t ht hW => ⟨⟨(ad, ga, gc, M, n_120, f, T_20, G, K, F), rfl, ⟨(by show (C9.mk n_120 f T_20 G K F) = k_anew v1 (C9.mk n f T G K F); subst en_1; subst en_10; subst en_47; subst en_56; subst en_71; subst en_80; subst en_95; subst en_104; have hX := v_25; (first | rw [itr_go (by omega)] at hX | rw [itr_end (by omega)] at hX); (repeat (first | dsimp +instances only [c9n, c9f, c9T, c9G, c9K, c9F, b_come, b_leave, b_fill, awB, b_settle, b_wake, b_take, f_take, b_gather, f_gather, b_ask, a_ask, b_tell, c_close, d_close, k_add, k_rem, sco, k_clrF, k_mem, k_rebind, k_bnd, k_beg0, k_beg1, b_giveN, b_giveR, f_open, b_hand, k_op, b_turn, wlB, b_beat, f_anew, b_wipe, b_off, k_sadd, fits, frP, cntB, b_trace, b_child, k_lat, cond_true, cond_false, Option.elim_none, Option.elim_some, Option.getD_none, Option.getD_some] at hX | rw [← hc_141] at hX | rw [if_pos (by first | with_reducible assumption | omega)] at hX | rw [if_neg (by first | with_reducible assumption | omega)] at hX | rw [jx_of (by omega)] at hX)); first | exact hX | (exfalso; omega) | exact hX), (by show (n_120 0).toInt = 0; omega)⟩, ws_126, by rw [ht]; exact hP, hD, hQ, ⟨i1_129, i2_130, i3_131, i4_132, i5_133, i6_134, i7_135, i8_136, i9_137, i10_138, i11_139⟩, by rw [ht]; show hpS H + (260 * M + 2 * S9 M gc) ≤ hpS s.heap + (260 * M + 2 * S9 M gc); omega, by rw [ht]; show 16 * H.size + (256 * M + S9 M gc) ≤ 16 * s.heap.size + (256 * M + S9 M gc); omega⟩, hS.F ht⟩) hS.2.2 dX9_anew_75
          · simp only [i_lt, i_le, i_eq, ti_6] at c_40
            refine lv_aload_n hx hb dX9_anew_18 rfl (lv_at hl 1 rfl) ?_
            refine va_get (D := (dC, dI)) (ci := 9) (v := .ref (ad 41)) (C := RX9) (T := TX9) (N := 15) hx hb hg gb_9 hown hK hP 0 hQ.x0 rfl 6 (by decide) (hg _ gm_fieldLink_RX9_35_ErrandGuild_onThreads_ALErrandGuild_Run_) (fun _ h9 => h9) rfl dX9_anew_19 ?_
            refine lv_iload_n hx hb dX9_anew_22 rfl (lv_at hl 0 rfl) ?_
            refine lv_null hx hb dX9_anew_23 ?_
            refine va_astqN hx hb hK hP hD hS 41 3 hQ.x41 rfl (vp_in_iff.mpr ⟨by omega, by omega⟩) dX9_anew_24 (fun H locs hP hD hS => ?_)
            obtain ⟨ws_143, T_142, eT_142, hP, hD, hQ⟩ : ∃ (ws_143 : va_W) (T_142 : Nat → Option Nat), T_142 = u1 T_20 (x_19.toInt.toNat) none ∧ va_P (dC, dI) vwCl ws_143 H ∧ va_D A ws_143 ∧ Pic9 kc ws_143 ad ga gc M n_10 f T_142 G K F := ⟨_, _, rfl, hP, hD, hQ.thr (x_19.toInt.toNat) none⟩
            have i2_144 : i2 M T_142 := by rw [eT_142]; exact i2.pT i2_30 _ (fun _ h => by cases h)
            have i6_145 : i6 n_10 T_142 G := by rw [eT_142]; exact i6.z (by omega)
            obtain ⟨y_146, ey_146⟩ : ∃ q : Int32, q = x_19 + (1) := ⟨_, rfl⟩
            refine lv_iinc (v := y_146) (lv' := [(2, .int y_146), (0, .ref (ad 0)), (1, .int v1)]) hx hb dX9_anew_25 hl (k := 0) rfl (by rw [ey_146]; rfl) (by decide) rfl (fun ls hl => ?_)
            have ty_146 : y_146.toInt = x_19.toInt + (1) := ar_add rfl ti_1 ey_146 (by omega)
            exact by
             refine lv_goto (tgt := 12) hx hb dX9_anew_28 (by decide) ?_
             exact ih_27 y_146   ws_143 T_142  H locs ls (by show (7 - y_146.toInt).toNat < _; omega) (by show 0 ≤ y_146.toInt ∧ y_146.toInt ≤ 6; omega) (by show (n_10 0).toInt = 0; omega) (by show itr b_off (f_anew v1) y_146.toInt.toNat (6 - y_146.toInt.toNat) (C9.mk n_10 f T_142 G K F) = k_anew v1 (C9.mk n f T G K F); subst en_1; subst en_10; subst eT_142; have hX := v_25; (first | rw [itr_go (by omega)] at hX | rw [itr_end (by omega)] at hX); (repeat (first | dsimp +instances only [c9n, c9f, c9T, c9G, c9K, c9F, b_come, b_leave, b_fill, awB, b_settle, b_wake, b_take, f_take, b_gather, f_gather, b_ask, a_ask, b_tell, c_close, d_close, k_add, k_rem, sco, k_clrF, k_mem, k_rebind, k_bnd, k_beg0, k_beg1, b_giveN, b_giveR, f_open, b_hand, k_op, b_turn, wlB, b_beat, f_anew, b_wipe, b_off, k_sadd, fits, frP, cntB, b_trace, b_child, k_lat, cond_true, cond_false, Option.elim_none, Option.elim_some, Option.getD_none, Option.getD_some] at hX | rw [if_pos (by first | with_reducible assumption | omega)] at hX | rw [if_neg (by first | with_reducible assumption | omega)] at hX | rw [jx_of (by omega)] at hX)); (rw [show y_146.toInt.toNat = x_19.toInt.toNat + 1 by omega]); first | exact hX | (exfalso; omega) | exact hX) hQ ⟨i1_29, i2_144, i3_31, i4_32, i5_33, i6_145, i7_35, i8_36, i9_37, i10_38, i11_39⟩ hP hD hS (lv_sub hl [0, 1, 2] rfl)
     exact L12 _ (0 : Int32)   ws_11 T  _ _ _ (Nat.lt_succ_self _) (by have t_0 := ti_0; show 0 ≤ (0 : Int32).toInt ∧ (0 : Int32).toInt ≤ 6; omega) (by have t_0 := ti_0; show (n_10 0).toInt = 0; omega) (by show itr b_off (f_anew v1) (0 : Int32).toInt.toNat (6 - (0 : Int32).toInt.toNat) (C9.mk n_10 f T G K F) = k_anew v1 (C9.mk n f T G K F); subst en_1; subst en_10; have hX := (k_anew.eq_1 v1 (C9.mk n f T G K F)).symm; (repeat (first | dsimp +instances only [c9n, c9f, c9T, c9G, c9K, c9F, b_come, b_leave, b_fill, awB, b_settle, b_wake, b_take, f_take, b_gather, f_gather, b_ask, a_ask, b_tell, c_close, d_close, k_add, k_rem, sco, k_clrF, k_mem, k_rebind, k_bnd, k_beg0, k_beg1, b_giveN, b_giveR, f_open, b_hand, k_op, b_turn, wlB, b_beat, f_anew, b_wipe, b_off, k_sadd, fits, frP, cntB, b_trace, b_child, k_lat, cond_true, cond_false, Option.elim_none, Option.elim_some, Option.getD_none, Option.getD_some] at hX | rw [if_pos (by first | with_reducible assumption | omega)] at hX | rw [if_neg (by first | with_reducible assumption | omega)] at hX | rw [jx_of (by omega)] at hX)); (skip); first | exact hX | (exfalso; omega) | exact hX) hQ ⟨i1_12, h_i2, h_i3, h_i4, i5_13, i6_14, i7_15, i8_16, h_i9, h_i10, i11_17⟩ hP hD hS (lv_sub hl [0, 1, 2] rfl)
