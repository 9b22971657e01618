set_option maxHeartbeats 8000000 in
set_option maxRecDepth 100000 in
theorem c_X9_hand (l : Launch) (dC : Nat → ClassId) (dI : Nat → Nat → Nat) (kc : Nat → ClassId) (ws : va_W) (ad : Nat → Nat) (ga : Nat → Nat) (gc : Nat → Nat) (M : Nat) (n : Nat → Int32) (f : Nat → Nat → Int32) (T : Nat → Option Nat) (G : Nat → Nat → Int32) (K : Nat → Nat → Option Nat) (F : Nat → Nat → Nat → Int32) (R : Nat) (i : Nat) (v2 : Int32) (v3 : Int32) (v4 : Int32) (sz hz : Nat) (hQ : Pic9 kc ws ad ga gc M n f T G K F) (hI : I9 M n f T gc G K F R) (hi : i < M) (hin : (i : Int) < (n 0).toInt) (hR : R ≤ 310000) : Met l yX9_hand (.code yX9_hand cX9_hand 7 (some .int) :: gw) ({ frames := 4, cells := 3500, slots := 59000, locals := 91 }) (va_Pc [.ref (ad 0), .ref (ad (50 + 16 * i)), .int v2, .int v3, .int v4] (fun U => U.heap.size = sz ∧ hpS U.heap = hz ∧ va_P (dC, dI) vwCl ws U.heap ∧ va_K (dC, dI) vwCl (t9 kc) U ∧ va_D (fun _ => True) ws ∧ nx U)) (va_Qi (fun (r : Int32) (u : (Nat → Nat) × (Nat → Nat) × (Nat → Nat) × Nat × (Nat → Int32) × (Nat → Nat → Int32) × (Nat → Option Nat) × (Nat → Nat → Int32) × (Nat → Nat → Option Nat) × (Nat → Nat → Nat → Int32)) => ((C9.mk u.2.2.2.2.1 f T u.2.2.2.2.2.2.2.1 u.2.2.2.2.2.2.2.2.1 u.2.2.2.2.2.2.2.2.2), r) = kh_hand i v2 v3 v4 (C9.mk n f T G K F) ∧ S9 u.2.2.2.1 u.2.2.1 + 16 * M ≤ S9 M gc + 16 * u.2.2.2.1) (fun u t => ∃ w : va_W, va_P (dC, dI) vwCl w t.heap ∧ va_D (va_A ws sz) w ∧ Pic9 kc w u.1 u.2.1 u.2.2.1 u.2.2.2.1 u.2.2.2.2.1 f T u.2.2.2.2.2.2.2.1 u.2.2.2.2.2.2.2.2.1 u.2.2.2.2.2.2.2.2.2 ∧ I9 u.2.2.2.1 u.2.2.2.2.1 f T u.2.2.1 u.2.2.2.2.2.2.2.1 u.2.2.2.2.2.2.2.2.1 u.2.2.2.2.2.2.2.2.2 R ∧ hpS t.heap + (260 * M + 2 * S9 M gc) ≤ hz + (260 * u.2.2.2.1 + 2 * S9 u.2.2.2.1 u.2.2.1) ∧ 16 * t.heap.size + (256 * M + S9 M gc) ≤ 16 * sz + (256 * u.2.2.2.1 + S9 u.2.2.2.1 u.2.2.1) ∧ (n 0).toInt ≤ (u.2.2.2.2.1 0).toInt ∧ (∀ q : Nat, q < 50 + 16 * M → u.1 q = ad q) ∧ M ≤ u.2.2.2.1) (va_A ws sz)) 3500 59000 (va_A ws sz) := by
  refine Met.ofW (cc := cX9_hand) (maxL := 7) (ret := (some .int)) (by decide) rfl ?_
  intro p e s m args below meth c s₁ B hml hv
  obtain ⟨rfl, hsz, rfl, hP, hK, hD0, hN⟩ := hv
  have hx := B.exec
  have hb := B.bytes
  have hr := B.returns
  have hts := atoms_spec (ws := .code yX9_hand cX9_hand 7 (some .int) :: gw) B.pre
  have hg : ∀ w ∈ gw, w.before _ s = true := fun w h => hts w (List.mem_cons_of_mem _ h)
  have hown : s.vm.findClass RX9 = some m.cls := findClass_of_methodNamed B.named
  have hlocks := B.notSynchronized
  subst hsz
  have hD := hD0.self (sz := s.heap.size)
  generalize hAe : va_A ws s.heap.size = A at hD ⊢
  have hA : ∀ q : Nat, s.heap.size ≤ q → A q := fun q h => by rw [← hAe]; exact Or.inr h
  clear hAe
  have hS : va_S A s.heap s.heap [] := va_S.rf
  have hl := lv_entry ([.ref (ad 0), .ref (ad (50 + 16 * i)), .int v2, .int v3, .int v4]) (n := 7) (Nat.le_of_ble_eq_true rfl)
  rw [lg_entry_eq]
  generalize (lg_sl ([.ref (ad 0), .ref (ad (50 + 16 * i)), .int v2, .int v3, .int v4]) ++ List.replicate (7 - (lg_sl ([.ref (ad 0), .ref (ad (50 + 16 * i)), .int v2, .int v3, .int v4])).length) Slot.unset).toArray = ls at hl ⊢
  have hl : lv_has ls 7 [(0, .ref (ad 0)), (1, .ref (ad (50 + 16 * i))), (2, .int v2), (3, .int v3), (4, .int v4)] := hl
  obtain ⟨h_i1, h_i2, h_i3, h_i4, h_i5, h_i6, h_i7, h_i8, h_i9, h_i10, h_i11⟩ := id hI
  have q1_ := h_i1
  unfold i1 at q1_
  have hSl0 := S9_le h_i8 h_i9
  have hb0_ := h_i8.2.1 0 (by omega)
  have hb1_ := h_i8.2.1 1 (by omega)
  have hb2_ := h_i8.2.1 2 (by omega)
  have hr1 : 0 + (260 * M + 2 * S9 M gc) ≤ (260 * M + 2 * S9 M gc) := by omega
  have hr2 : 16 * 0 + (256 * M + S9 M gc) ≤ (256 * M + S9 M gc) := by omega
  obtain ⟨ce, hce⟩ : ∃ q : Nat, q = 0 := ⟨_, rfl⟩
  obtain ⟨se, hse⟩ : ∃ q : Nat, q = 0 := ⟨_, rfl⟩
  rw [← hse] at hr1
  have hr2 : 16 * ce + (256 * M + S9 M gc) ≤ (256 * M + S9 M gc) := by omega
  refine W.widen (k := ce) (n := se) (Nat.zero_le _) (Nat.zero_le _) ?_
  have ub_ := i_ub v3
  exact by
   refine lv_iconst (v := 0) hx hb dX9_hand_0 (by decide) ?_
   refine lv_istore (lv' := [(5, .int 0), (0, .ref (ad 0)), (1, .ref (ad (50 + 16 * i))), (2, .int v2), (3, .int v3), (4, .int v4)]) hx hb dX9_hand_1 hl (by decide) rfl (fun ls hl => ?_)
   have L3 : ∀ (fuel : Nat) (x_1 : Int32)   (ws_10 : va_W) (ad_2 : Nat → Nat) (ga_3 : Nat → Nat) (gc_4 : Nat → Nat) (M_5 : Nat) (n_6 : Nat → Int32) (G_7 : Nat → Nat → Int32) (K_8 : Nat → Nat → Option Nat) (F_9 : Nat → Nat → Nat → Int32) (ce se : Nat) (H : Heap) (locs : List Loc) (ls : Array Slot), (201 - (n_6 0).toInt).toNat < fuel → ((i : Int) < (n_6 0).toInt) → (S9 M_5 gc_4 + 16 * M ≤ S9 M gc + 16 * M_5) → (0 ≤ x_1.toInt) → (itr (b_hand i v2 v4) (f_hand v4) x_1.toInt.toNat (v3.toInt.toNat - x_1.toInt.toNat) (C9.mk n_6 f T G_7 K_8 F_9) = kh_hand i v2 v3 v4 (C9.mk n f T G K F)) → ((n 0).toInt ≤ (n_6 0).toInt) → (M ≤ M_5) → (∀ q : Nat, q < 50 + 16 * M → ad_2 q = ad q) → Pic9 kc ws_10 ad_2 ga_3 gc_4 M_5 n_6 f T G_7 K_8 F_9 → I9 M_5 n_6 f T gc_4 G_7 K_8 F_9 R → (se + (260 * M + 2 * S9 M gc) ≤ (260 * M_5 + 2 * S9 M_5 gc_4)) → (16 * ce + (256 * M + S9 M gc) ≤ (256 * M_5 + S9 M_5 gc_4)) → va_P (dC, dI) vwCl ws_10 H → va_D A ws_10 → va_S A s.heap H locs → lv_has ls 7 [(5, .int x_1), (0, .ref (ad_2 0)), (1, .ref (ad_2 (50 + 16 * i))), (2, .int v2), (3, .int v3), (4, .int v4)] → W p l e (headSpec (.code yX9_hand cX9_hand 7 (some .int) :: gw) ({ frames := 4, cells := 3500, slots := 59000, locals := 91 })).room s m ([.ref (ad 0), .ref (ad (50 + 16 * i)), .int v2, .int v3, .int v4] : List Value).toArray below meth c H locs ce se (MQ below (va_Qi (fun (r : Int32) (u : (Nat → Nat) × (Nat → Nat) × (Nat → Nat) × Nat × (Nat → Int32) × (Nat → Nat → Int32) × (Nat → Option Nat) × (Nat → Nat → Int32) × (Nat → Nat → Option Nat) × (Nat → Nat → Nat → Int32)) => ((C9.mk u.2.2.2.2.1 f T u.2.2.2.2.2.2.2.1 u.2.2.2.2.2.2.2.2.1 u.2.2.2.2.2.2.2.2.2), r) = kh_hand i v2 v3 v4 (C9.mk n f T G K F) ∧ S9 u.2.2.2.1 u.2.2.1 + 16 * M ≤ S9 M gc + 16 * u.2.2.2.1) (fun u t => ∃ w : va_W, va_P (dC, dI) vwCl w t.heap ∧ va_D A w ∧ Pic9 kc w u.1 u.2.1 u.2.2.1 u.2.2.2.1 u.2.2.2.2.1 f T u.2.2.2.2.2.2.2.1 u.2.2.2.2.2.2.2.2.1 u.2.2.2.2.2.2.2.2.2 ∧ I9 u.2.2.2.1 u.2.2.2.2.1 f T u.2.2.1 u.2.2.2.2.2.2.2.1 u.2.2.2.2.2.2.2.2.1 u.2.2.2.2.2.2.2.2.2 R ∧ hpS t.heap + (260 * M + 2 * S9 M gc) ≤ (hpS s.heap) + (260 * u.2.2.2.1 + 2 * S9 u.2.2.2.1 u.2.2.1) ∧ 16 * t.heap.size + (256 * M + S9 M gc) ≤ 16 * s.heap.size + (256 * u.2.2.2.1 + S9 u.2.2.2.1 u.2.2.1) ∧ (n 0).toInt ≤ (u.2.2.2.2.1 0).toInt ∧ (∀ q : Nat, q < 50 + 16 * M → u.1 q = ad q) ∧ M ≤ u.2.2.2.1) A) ([.ref (ad 0), .ref (ad (50 + 16 * i)), .int v2, .int v3, .int v4] : List Value).toArray s 3500 59000 A) (F0 m 3 ls []) := by
     intro fuel
     induction fuel with
     | zero => intro x_1 ws_10 ad_2 ga_3 gc_4 M_5 n_6 G_7 K_8 F_9 ce se H locs ls hm; exact absurd hm (Nat.not_lt_zero _)
     | succ fuel_20 ih_19 =>
       intro x_1 ws_10 ad_2 ga_3 gc_4 M_5 n_6 G_7 K_8 F_9 ce se H locs ls hm_11 v_12 v_13 v_14 v_15 v_16 v_17 hE0 hQ hI_18 hr1 hr2 hP hD hS hl
       obtain ⟨i1_21, i2_22, i3_23, i4_24, i5_25, i6_26, i7_27, i8_28, i9_29, i10_30, i11_31⟩ := id hI_18
       have q1_ := i1_21
       unfold i1 at q1_
       have hl_32 : i < M_5 := by omega
       have hSl := S9_le i8_28 i9_29
       have hb0_ := i8_28.2.1 0 (by omega)
       have hb1_ := i8_28.2.1 1 (by omega)
       have hb2_ := i8_28.2.1 2 (by omega)
       exact by
        refine lv_iload hx hb dX9_hand_3 (lv_at hl 0 rfl) ?_
        refine lv_iload_n hx hb dX9_hand_5 rfl (lv_at hl 4 rfl) ?_
        refine lv_icmp_ge (tgt := 74) hx hb dX9_hand_6 (by decide) (fun c_33 => ?_) (fun c_33 => ?_)
        · simp only [i_lt, i_le, i_eq] at c_33
          refine lv_iload hx hb dX9_hand_74 (lv_at hl 5 rfl) ?_
          refine lv_if_eq (tgt := 84) hx hb dX9_hand_76 (by decide) (fun c_34 => ?_) (fun c_34 => ?_)
          · simp only [i_lt, i_le, i_eq, ti_0] at c_34
            refine lv_iconst (v := -1) hx hb dX9_hand_84 (by decide) ?_
            refine W_msr2 (fun hm1 hm2 hm3 => ?_)
            have hSl := S9_le i8_28 i9_29
            have hb0_ := i8_28.2.1 0 (by omega)
            have hb1_ := i8_28.2.1 1 (by omega)
            have hb2_ := i8_28.2.1 2 (by omega)
            refine W.widen (k := 3500) (n := 59000) (by omega) (by omega) ?_
            exact W.iret (v := -1) hx hb hr (fun t ht hW => ⟨⟨-1, (ad_2, ga_3, gc_4, M_5, n_6, f, T, G_7, K_8, F_9), rfl, ⟨(by show ((C9.mk n_6 f T G_7 K_8 F_9), (-1 : Int32)) = kh_hand i v2 v3 v4 (C9.mk n f T G K F); have hX := v_15; (first | rw [itr_go (by omega)] at hX | rw [itr_end (by omega)] at hX); (repeat (first | dsimp +instances only [c9n, c9f, c9T, c9G, c9K, c9F, b_come, b_leave, b_fill, awB, b_settle, b_wake, b_take, f_take, b_gather, f_gather, b_ask, a_ask, b_tell, c_close, d_close, k_add, k_rem, sco, k_clrF, k_mem, k_rebind, k_bnd, k_beg0, k_beg1, b_giveN, b_giveR, f_open, b_hand, k_op, b_turn, wlB, b_beat, f_anew, b_wipe, b_off, k_sadd, fits, frP, cntB, b_trace, b_child, k_lat, cond_true, cond_false, Option.elim_none, Option.elim_some, Option.getD_none, Option.getD_some, f_hand, kh_op, bh_turn, bh_beat] at hX | rw [if_pos (by first | with_reducible assumption | omega)] at hX | rw [if_neg (by first | with_reducible assumption | omega)] at hX | rw [jx_of (by omega)] at hX)); first | exact hX | (exfalso; omega) | exact hX), (by have t_ := ti_m1; show S9 M_5 gc_4 + 16 * M ≤ S9 M gc + 16 * M_5; omega)⟩, ws_10, by rw [ht]; exact hP, hD, hQ, ⟨i1_21, i2_22, i3_23, i4_24, i5_25, i6_26, i7_27, i8_28, i9_29, i10_30, i11_31⟩, by rw [ht]; show hpS H + (260 * M + 2 * S9 M gc) ≤ hpS s.heap + (260 * M_5 + 2 * S9 M_5 gc_4); omega, by rw [ht]; show 16 * H.size + (256 * M + S9 M gc) ≤ 16 * s.heap.size + (256 * M_5 + S9 M_5 gc_4); omega, by show (n 0).toInt ≤ (n_6 0).toInt; omega, hE0, by show M ≤ M_5; omega⟩, hS.F ht⟩) hS.2.2 dX9_hand_85
          · simp only [i_lt, i_le, i_eq, ti_0] at c_34
            exact by
             refine lv_bipush (v := -2) hx hb dX9_hand_79 (by decide) ?_
             refine lv_goto (tgt := 85) hx hb dX9_hand_81 (by decide) ?_
             refine W_msr2 (fun hm1 hm2 hm3 => ?_)
             have hSl := S9_le i8_28 i9_29
             have hb0_ := i8_28.2.1 0 (by omega)
             have hb1_ := i8_28.2.1 1 (by omega)
             have hb2_ := i8_28.2.1 2 (by omega)
             refine W.widen (k := 3500) (n := 59000) (by omega) (by omega) ?_
             exact W.iret (v := -2) hx hb hr (fun t ht hW => ⟨⟨-2, (ad_2, ga_3, gc_4, M_5, n_6, f, T, G_7, K_8, F_9), rfl, ⟨(by show ((C9.mk n_6 f T G_7 K_8 F_9), (-2 : Int32)) = kh_hand i v2 v3 v4 (C9.mk n f T G K F); have hX := v_15; (first | rw [itr_go (by omega)] at hX | rw [itr_end (by omega)] at hX); (repeat (first | dsimp +instances only [c9n, c9f, c9T, c9G, c9K, c9F, b_come, b_leave, b_fill, awB, b_settle, b_wake, b_take, f_take, b_gather, f_gather, b_ask, a_ask, b_tell, c_close, d_close, k_add, k_rem, sco, k_clrF, k_mem, k_rebind, k_bnd, k_beg0, k_beg1, b_giveN, b_giveR, f_open, b_hand, k_op, b_turn, wlB, b_beat, f_anew, b_wipe, b_off, k_sadd, fits, frP, cntB, b_trace, b_child, k_lat, cond_true, cond_false, Option.elim_none, Option.elim_some, Option.getD_none, Option.getD_some, f_hand, kh_op, bh_turn, bh_beat] at hX | rw [if_pos (by first | with_reducible assumption | omega)] at hX | rw [if_neg (by first | with_reducible assumption | omega)] at hX | rw [jx_of (by omega)] at hX)); first | exact hX | (exfalso; omega) | exact hX), (by have t_ := ti_m2; show S9 M_5 gc_4 + 16 * M ≤ S9 M gc + 16 * M_5; omega)⟩, ws_10, by rw [ht]; exact hP, hD, hQ, ⟨i1_21, i2_22, i3_23, i4_24, i5_25, i6_26, i7_27, i8_28, i9_29, i10_30, i11_31⟩, by rw [ht]; show hpS H + (260 * M + 2 * S9 M gc) ≤ hpS s.heap + (260 * M_5 + 2 * S9 M_5 gc_4); omega, by rw [ht]; show 16 * H.size + (256 * M + S9 M gc) ≤ 16 * s.heap.size + (256 * M_5 + S9 M_5 gc_4); omega, by show (n 0).toInt ≤ (n_6 0).toInt; omega, hE0, by show M ≤ M_5; omega⟩, hS.F ht⟩) hS.2.2 dX9_hand_85
        · simp only [i_lt, i_le, i_eq] at c_33
          refine lv_aload_n hx hb dX9_hand_9 rfl (lv_at hl 2 rfl) ?_
          refine va_get (D := (dC, dI)) (ci := 7) (v := .ref (ad_2 (50 + 16 * i + 1))) (C := RX7) (T := TX7) (N := 15) hx hb hg gb_7 hown hK hP (50 + 16 * i) (hQ.b0 hl_32) rfl 10 (by decide) (hg _ gm_fieldLink_RX9_151_ErrandGuild_Run_kin_LErrandGuild_Kin_) (fun _ h9 => h9) rfl dX9_hand_10 ?_
          refine va_get (D := (dC, dI)) (ci := 4) (v := .int (G_7 i 10)) (C := RX4) (T := TX4) (N := 9) hx hb hg gb_4 hown hK hP (50 + 16 * i + 1) (hQ.b1 hl_32) rfl 2 (by decide) (hg _ gm_fieldLink_RX9_165_ErrandGuild_Kin_depth_I_) (fun _ h9 => h9) rfl dX9_hand_13 ?_
          refine lv_bipush (v := 6) hx hb dX9_hand_16 (by decide) ?_
          refine lv_icmp_lt (tgt := 24) hx hb dX9_hand_18 (by decide) (fun c_35 => ?_) (fun c_35 => ?_)
          · simp only [i_lt, i_le, i_eq, ti_6] at c_35
            refine lv_aload_n hx hb dX9_hand_24 rfl (lv_at hl 1 rfl) ?_
            refine lv_iload_n hx hb dX9_hand_25 rfl (lv_at hl 3 rfl) ?_
            refine lv_aload_n hx hb dX9_hand_26 rfl (lv_at hl 2 rfl) ?_
            have hFc := free_all hD hS hA
            refine W_msr2 (fun hm1 hm2 hm3 => ?_)
            exact by
             refine va_callq (va_runV (As := [.int v2, .ref (ad_2 (50 + 16 * i))]) (rest := []) ⟨hx, hb, hml, hown, hg⟩ (c_X9_openRun_r l dC dI kc ws_10 ad_2 ga_3 gc_4 M_5 n_6 f T G_7 K_8 F_9 R v2 i H.size (hpS H) hQ ⟨i1_21, i2_22, i3_23, i4_24, i5_25, i6_26, i7_27, i8_28, i9_29, i10_30, i11_31⟩ (by show R ≤ 310000; omega) (by show i < M_5; omega)) (cwV 2 hg (gw_V gm_methodLink_RX9_114_yX9_openRun gm_instanceMethod_yX9_openRun gm_selects_RX9_yX9_openRun_yX9_openRun gm_initialized_RX9 gm_code_yX9_openRun_cX9_openRun_5_some_object_ErrandGuild_Run_) rfl rfl rfl (by decide +kernel) ⟨Nat.le_of_ble_eq_true rfl, Nat.le_of_ble_eq_true rfl⟩) ⟨fun a U g mk q => by obtain ⟨q0, q1, q2, qP, qK, qD, qN⟩ := q; exact ⟨q0, q1, q2, qP, va_K.moved (u := U) (U := U.calling g mk a) (Vm.Alike.refl U.vm) qK, qD, nx_same (u := U) (U := U.calling g mk a) rfl qN⟩, va_recv hK hP (ci := 9) (q0 := 0) rfl hQ.x0, fun U hU hW => ⟨rfl, by rw [hU], by rw [hU], by rw [hU]; exact hP, va_K.moved hW.alike hK, hD.weaken (fun _ _ _ _ => trivial), nx_warm hW hN⟩⟩ rfl rfl hl.1 rfl (lv_room (Nat.le_of_ble_eq_true rfl)) dX9_hand_27 ⟨by show ce + 20 ≤ 3500; omega, by show se + 300 ≤ 59000; omega⟩) hS (fun q _ h => hFc q h) hFc (fun r_36 u_37 t H1 locs ht hvm hw hB hz1 hk1 hS => ?_)
             obtain ⟨ad_38, ga_39, gc_40, M_41, n_42, f_43, T_44, G_45, K_46, F_47⟩ := u_37
             have hB : ∃ w : va_W, va_P (dC, dI) vwCl w t.heap ∧ va_D (va_A ws_10 H.size) w ∧ Pic9 kc w ad_38 ga_39 gc_40 M_41 n_42 f T G_45 K_46 F_47 ∧ I9 M_41 n_42 f T gc_40 G_45 K_46 F_47 R ∧ hpS t.heap + (260 * M_5 + 2 * S9 M_5 gc_4) ≤ hpS H + (260 * M_41 + 2 * S9 M_41 gc_40) ∧ 16 * t.heap.size + (256 * M_5 + S9 M_5 gc_4) ≤ 16 * H.size + (256 * M_41 + S9 M_41 gc_40) ∧ (n_6 0).toInt ≤ (n_42 0).toInt ∧ (∀ q : Nat, q < 50 + 16 * M_5 → ad_38 q = ad_2 q) ∧ M_5 ≤ M_41 := hB
             rw [ht] at hB
             obtain ⟨ws_48, hP, hD, hQ, hI_52, hy1, hy2, hn_49, hE_50, hM_51⟩ := hB
             have hD := hD.weaken (fun k q _ h => hFc _ h)
             obtain ⟨i1_53, i2_54, i3_55, i4_56, i5_57, i6_58, i7_59, i8_60, i9_61, i10_62, i11_63⟩ := id hI_52
             have hl_64 : i < M_41 := by omega
             have q1_ := i1_53
             unfold i1 at q1_
             have hSl := S9_le i8_60 i9_61
             have hb0_ := i8_60.2.1 0 (by omega)
             have hb1_ := i8_60.2.1 1 (by omega)
             have hb2_ := i8_60.2.1 2 (by omega)
             refine W_msr2 (fun hn1 hn2 hn3 => ?_)
             obtain ⟨ce2, se2, hk3, hk4, hr1, hr2⟩ : ∃ c2 s2 : Nat, H1.size ≤ s.heap.size + c2 ∧ hpS H1 ≤ hpS s.heap + s2 ∧ s2 + (260 * M + 2 * S9 M gc) ≤ (260 * M_41 + 2 * S9 M_41 gc_40) ∧ 16 * c2 + (256 * M + S9 M gc) ≤ (256 * M_41 + S9 M_41 gc_40) := ⟨H1.size - s.heap.size, hpS H1 - hpS s.heap, by omega, by omega, by have := hS.1; omega, by have := hS.1; omega⟩
             refine W_tightP hk3 hk4 ?_
             clear hm1 hm2 hm3 hn1 hn2 hn3 hk3 hk4
             clear hk1 hz1
             generalize ce2 = ce, se2 = se at hr1 hr2 ⊢
             generalize H1 = H at hP hS ⊢
             have hE_65 : ∀ q : Nat, q < 50 + 16 * M → ad_38 q = ad q := fun q hq => (hE_50 q (by omega)).trans (hE0 q hq)
             have hl : lv_has ls 7 [(5, .int x_1), (0, .ref (ad_38 0)), (1, .ref (ad_38 (50 + 16 * i))), (2, .int v2), (3, .int v3), (4, .int v4)] := by rw [hE_50 0 (by omega), hE_50 (50 + 16 * i) (by omega)]; exact hl
             rcases hw with ⟨rfl, w_66⟩ | ⟨rfl, w_66⟩
             · have hc_67 : (C9.mk n_42 f T G_45 K_46 F_47) = k_openR i v2 (C9.mk n_6 f T G_7 K_8 F_9) := w_66.1
               have w_66 : (n_42 0).toInt = (n_6 0).toInt + 1 ∧ S9 M_41 gc_40 + 16 * M_5 ≤ S9 M_5 gc_4 + 16 * M_41 ∧ (∀ a j : Nat, (a : Int) < (n_6 0).toInt → K_46 a 3 = some j → (j : Int) < (n_6 0).toInt) := w_66.2
               have hl_68 : (n_6 0).toInt.toNat < M_41 := by omega
               refine W.eq (g2 := F0 m 30 ls [.ref (ad_38 (50 + 16 * ((n_6 0).toInt.toNat)))]) (by first | rfl | (simp only [hE_50 0 (by omega), hE_50 (50 + 16 * i) (by omega)])) ?_
               exact by
                refine lv_astore (lv' := [(6, .ref (ad_38 (50 + 16 * ((n_6 0).toInt.toNat)))), (5, .int x_1), (0, .ref (ad_38 0)), (1, .ref (ad_38 (50 + 16 * i))), (2, .int v2), (3, .int v3), (4, .int v4)]) hx hb dX9_hand_30 hl (by decide) rfl (fun ls hl => ?_)
                refine lv_aload hx hb dX9_hand_32 (lv_at hl 0 rfl) ?_
                refine lv_ifnonnull (tgt := 40) hx hb dX9_hand_34 (by decide) ?_
                refine lv_aload_n hx hb dX9_hand_40 rfl (lv_at hl 3 rfl) ?_
                refine va_get (D := (dC, dI)) (ci := 7) (v := .ref (ad_38 (50 + 16 * i + 1))) (C := RX7) (T := TX7) (N := 15) hx hb hg gb_7 hown hK hP (50 + 16 * i) (hQ.b0 hl_64) rfl 10 (by decide) (hg _ gm_fieldLink_RX9_151_ErrandGuild_Run_kin_LErrandGuild_Kin_) (fun _ h9 => h9) rfl dX9_hand_41 ?_
                refine lv_aload hx hb dX9_hand_44 (lv_at hl 0 rfl) ?_
                have hFc := free_all hD hS hA
                refine W_msr2 (fun hm1 hm2 hm3 => ?_)
                refine va_callv (va_runV (As := [.ref (ad_38 (50 + 16 * ((n_6 0).toInt.toNat)))]) (rest := []) ⟨hx, hb, hml, hown, hg⟩ (c_X4_adopt l dC dI kc ws_48 ad_38 ga_39 gc_40 M_41 n_42 f T G_45 K_46 F_47 R i ((n_6 0).toInt.toNat) H.size (hpS H) hQ ⟨i1_53, i2_54, i3_55, i4_56, i5_57, i6_58, i7_59, i8_60, i9_61, i10_62, i11_63⟩ (by show i < M_41; omega) (by show ((n_6 0).toInt.toNat) < M_41; omega) (by show (((n_6 0).toInt.toNat) : Int) < (n_42 0).toInt; omega) (fun j hj => by have := w_66.2.2 i j (by omega) hj; omega)) (cwV 1 hg (gw_V gm_methodLink_RX9_376_yX4_adopt gm_instanceMethod_yX4_adopt gm_selects_RX4_yX4_adopt_yX4_adopt gm_initialized_RX4 gm_code_yX4_adopt_cX4_adopt_2_none) rfl rfl rfl (by decide +kernel) ⟨Nat.le_of_ble_eq_true rfl, Nat.le_of_ble_eq_true rfl⟩) ⟨fun a U g mk q => by obtain ⟨q0, q1, q2, qP, qK, qD, qN⟩ := q; exact ⟨q0, q1, q2, qP, va_K.moved (u := U) (U := U.calling g mk a) (Vm.Alike.refl U.vm) qK, qD, nx_same (u := U) (U := U.calling g mk a) rfl qN⟩, va_recv hK hP (ci := 4) (q0 := (50 + 16 * i + 1)) rfl (hQ.b1 hl_64), fun U hU hW => ⟨rfl, by rw [hU], by rw [hU], by rw [hU]; exact hP, va_K.moved hW.alike hK, hD.weaken (fun _ _ _ _ => trivial), nx_warm hW hN⟩⟩ rfl rfl hl.1 rfl (lv_room (Nat.le_of_ble_eq_true rfl)) dX9_hand_46 ⟨by show ce + 0 ≤ 3500; omega, by show se + 0 ≤ 59000; omega⟩) hS (fun q _ h => hFc q h) hFc (fun u_70 t H1 locs ht hvm hw hB hz1 hk1 hS => ?_)
                obtain ⟨ad_71, ga_72, gc_73, M_74, n_75, f_76, T_77, G_78, K_79, F_80⟩ := u_70
                have hB : ∃ w : va_W, va_P (dC, dI) vwCl w t.heap ∧ va_D (va_A ws_48 H.size) w ∧ Pic9 kc w ad_38 ga_39 gc_40 M_41 n_42 f T G_78 K_79 F_47 ∧ I9 M_41 n_42 f T gc_40 G_78 K_79 F_47 R ∧ hpS t.heap + (260 * M_41 + 2 * S9 M_41 gc_40) ≤ hpS H + (260 * M_41 + 2 * S9 M_41 gc_40) ∧ 16 * t.heap.size + (256 * M_41 + S9 M_41 gc_40) ≤ 16 * H.size + (256 * M_41 + S9 M_41 gc_40) := hB
                rw [ht] at hB
                obtain ⟨ws_81, hP, hD, hQ, hI_82, hy1, hy2⟩ := hB
                have hD := hD.weaken (fun k q _ h => hFc _ h)
                obtain ⟨i1_83, i2_84, i3_85, i4_86, i5_87, i6_88, i7_89, i8_90, i9_91, i10_92, i11_93⟩ := id hI_82
                have q1_ := i1_83
                unfold i1 at q1_
                have hSl := S9_le i8_90 i9_91
                have hb0_ := i8_90.2.1 0 (by omega)
                have hb1_ := i8_90.2.1 1 (by omega)
                have hb2_ := i8_90.2.1 2 (by omega)
                refine W_msr2 (fun hn1 hn2 hn3 => ?_)
                obtain ⟨ce2, se2, hk3, hk4, hr1, hr2⟩ : ∃ c2 s2 : Nat, H1.size ≤ s.heap.size + c2 ∧ hpS H1 ≤ hpS s.heap + s2 ∧ s2 + (260 * M + 2 * S9 M gc) ≤ (260 * M_41 + 2 * S9 M_41 gc_40) ∧ 16 * c2 + (256 * M + S9 M gc) ≤ (256 * M_41 + S9 M_41 gc_40) := ⟨H1.size - s.heap.size, hpS H1 - hpS s.heap, by omega, by omega, by have := hS.1; omega, by have := hS.1; omega⟩
                refine W_tightP hk3 hk4 ?_
                clear hm1 hm2 hm3 hn1 hn2 hn3 hk3 hk4
                clear hk1 hz1
                generalize ce2 = ce, se2 = se at hr1 hr2 ⊢
                generalize H1 = H at hP hS ⊢
                have hc_95 : (C9.mk n_42 f T G_78 K_79 F_47) = k_adopt i ((n_6 0).toInt.toNat) (C9.mk n_42 f T G_45 K_46 F_47) := hw
                exact by
                 refine lv_iload hx hb dX9_hand_49 (lv_at hl 6 rfl) ?_
                 refine lv_if_eq (tgt := 68) hx hb dX9_hand_51 (by decide) (fun c_96 => ?_) (fun c_96 => ?_)
                 · simp only [i_lt, i_le, i_eq, ti_0] at c_96
                   obtain ⟨y_97, ey_97⟩ : ∃ q : Int32, q = x_1 + (1) := ⟨_, rfl⟩
                   refine lv_iinc (v := y_97) (lv' := [(5, .int y_97), (6, .ref (ad_38 (50 + 16 * ((n_6 0).toInt.toNat)))), (0, .ref (ad_38 0)), (1, .ref (ad_38 (50 + 16 * i))), (2, .int v2), (3, .int v3), (4, .int v4)]) hx hb dX9_hand_68 hl (k := 1) rfl (by rw [ey_97]; rfl) (by decide) rfl (fun ls hl => ?_)
                   have ty_97 : y_97.toInt = x_1.toInt + (1) := ar_add rfl ti_1 ey_97 (by omega)
                   refine lv_goto (tgt := 3) hx hb dX9_hand_71 (by decide) ?_
                   exact ih_19 y_97   ws_81 ad_38 ga_39 gc_40 M_41 n_42 G_78 K_79 F_47 ce se H locs ls (by show (201 - (n_42 0).toInt).toNat < _; omega) (by show (i : Int) < (n_42 0).toInt; omega) (by show S9 M_41 gc_40 + 16 * M ≤ S9 M gc + 16 * M_41; omega) (by show 0 ≤ y_97.toInt; omega) (by show itr (b_hand i v2 v4) (f_hand v4) y_97.toInt.toNat (v3.toInt.toNat - y_97.toInt.toNat) (C9.mk n_42 f T G_78 K_79 F_47) = kh_hand i v2 v3 v4 (C9.mk n f T G K F); have hX := v_15; (first | rw [itr_go (by omega)] at hX | rw [itr_end (by omega)] at hX); (repeat (first | dsimp +instances only [c9n, c9f, c9T, c9G, c9K, c9F, b_come, b_leave, b_fill, awB, b_settle, b_wake, b_take, f_take, b_gather, f_gather, b_ask, a_ask, b_tell, c_close, d_close, k_add, k_rem, sco, k_clrF, k_mem, k_rebind, k_bnd, k_beg0, k_beg1, b_giveN, b_giveR, f_open, b_hand, k_op, b_turn, wlB, b_beat, f_anew, b_wipe, b_off, k_sadd, fits, frP, cntB, b_trace, b_child, k_lat, cond_true, cond_false, Option.elim_none, Option.elim_some, Option.getD_none, Option.getD_some, f_hand, kh_op, bh_turn, bh_beat] at hX | rw [← hc_67] at hX | rw [← hc_95] at hX | rw [if_pos (by first | with_reducible assumption | omega)] at hX | rw [if_neg (by first | with_reducible assumption | omega)] at hX | rw [jx_of (by omega)] at hX)); (rw [show y_97.toInt.toNat = x_1.toInt.toNat + 1 by omega]); first | exact hX | (exfalso; omega) | exact hX) (by show (n 0).toInt ≤ (n_42 0).toInt; omega) (by show M ≤ M_41; omega) hE_65 hQ ⟨i1_83, i2_84, i3_85, i4_86, i5_87, i6_88, i7_89, i8_90, i9_91, i10_92, i11_93⟩ hr1 hr2 hP hD hS (lv_sub hl [0, 2, 3, 4, 5, 6] rfl)
                 · simp only [i_lt, i_le, i_eq, ti_0] at c_96
                   refine lv_aload hx hb dX9_hand_54 (lv_at hl 0 rfl) ?_
                   refine va_get (D := (dC, dI)) (ci := 7) (v := .ref (ad_38 (50 + 16 * ((n_6 0).toInt.toNat) + 1))) (C := RX7) (T := TX7) (N := 15) hx hb hg gb_7 hown hK hP (50 + 16 * ((n_6 0).toInt.toNat)) (hQ.b0 hl_68) rfl 10 (by decide) (hg _ gm_fieldLink_RX9_151_ErrandGuild_Run_kin_LErrandGuild_Kin_) (fun _ h9 => h9) rfl dX9_hand_56 ?_
                   refine lv_iconst (v := 1) hx hb dX9_hand_59 (by decide) ?_
                   exact by
                    refine va_put (D := (dC, dI)) (ci := 4) (v := .int (1)) (ty := .int) (C := RX4) (T := TX4) (N := 9) hx hb hg gb_4 tyX4 tyX4_ok nmX4 hown hK hP hD hS (50 + 16 * ((n_6 0).toInt.toNat) + 1) (hQ.b1 hl_68) rfl 4 (by decide) (hg _ gm_fieldLink_RX9_379_ErrandGuild_Kin_claim_I_) (fun _ h9 => h9) rfl (by decide +kernel) rfl rfl (Nat.le_of_ble_eq_true rfl) dX9_hand_60 (fun H locs hP hD hS => ?_)
                    obtain ⟨ws_99, G_98, eG_98, hP, hD, hQ⟩ : ∃ (ws_99 : va_W) (G_98 : Nat → Nat → Int32), G_98 = u2 G_78 ((n_6 0).toInt.toNat) 12 1 ∧ va_P (dC, dI) vwCl ws_99 H ∧ va_D A ws_99 ∧ Pic9 kc ws_99 ad_38 ga_39 gc_40 M_41 n_42 f T G_98 K_79 F_47 := ⟨_, _, rfl, hP, hD, hQ.kinI hl_68 12 4 (by decide) 1⟩
                    have i10_100 : i10 M_41 G_98 K_79 F_47 := by rw [eG_98]; exact (i10.pG i10_92 hl_68 _ (by decide))
                    have i11_101 : i11 M_41 n_42 gc_40 f G_98 F_47 := by rw [eG_98]; exact (i11.pG i11_93 ((n_6 0).toInt.toNat) _ (by decide))
                    have i6_102 : i6 n_42 T G_98 := by rw [eG_98]; exact (i6.pG i6_88 ((n_6 0).toInt.toNat) _ (by decide))
                    have i7_103 : i7 n_42 G_98 := by rw [eG_98]; exact (i7.pG i7_89 ((n_6 0).toInt.toNat) _ (by decide))
                    have i8_104 : i8 M_41 n_42 gc_40 G_98 := by rw [eG_98]; exact (i8.pG i8_90 ((n_6 0).toInt.toNat) _ (by decide))
                    have i9_105 : i9 M_41 gc_40 G_98 R := by rw [eG_98]; exact (i9.pG i9_91 ((n_6 0).toInt.toNat) _ (by decide))
                    have eg_106 : G_98 ((n_6 0).toInt.toNat) 12 = 1 := by rw [eG_98, u2_eq]
                    refine lv_aload_n hx hb dX9_hand_63 rfl (lv_at hl 3 rfl) ?_
                    refine lv_iconst (v := 2) hx hb dX9_hand_64 (by decide) ?_
                    refine va_put (D := (dC, dI)) (ci := 7) (v := .int (2)) (ty := .int) (C := RX7) (T := TX7) (N := 15) hx hb hg gb_7 tyX7 tyX7_ok nmX7 hown hK hP hD hS (50 + 16 * i) (hQ.b0 hl_64) rfl 2 (by decide) (hg _ gm_fieldLink_RX9_145_ErrandGuild_Run_state_I_) (fun _ h9 => h9) rfl (by decide +kernel) rfl rfl (Nat.le_of_ble_eq_true rfl) dX9_hand_65 (fun H locs hP hD hS => ?_)
                    obtain ⟨ws_108, G_107, eG_107, hP, hD, hQ⟩ : ∃ (ws_108 : va_W) (G_107 : Nat → Nat → Int32), G_107 = u2 G_98 i 2 2 ∧ va_P (dC, dI) vwCl ws_108 H ∧ va_D A ws_108 ∧ Pic9 kc ws_108 ad_38 ga_39 gc_40 M_41 n_42 f T G_107 K_79 F_47 := ⟨_, _, rfl, hP, hD, hQ.run hl_64 2 (by decide) 2⟩
                    have i10_109 : i10 M_41 G_107 K_79 F_47 := by rw [eG_107]; exact (i10.pG i10_100 hl_64 _ (by decide))
                    have i11_110 : i11 M_41 n_42 gc_40 f G_107 F_47 := by rw [eG_107]; exact (i11.pG i11_101 i _ (by decide))
                    have i6_111 : i6 n_42 T G_107 := by rw [eG_107]; exact (i6.pG i6_102 i _ (by decide))
                    have i7_112 : i7 n_42 G_107 := by rw [eG_107]; exact (i7.st i7_103 i (by decide))
                    have i8_113 : i8 M_41 n_42 gc_40 G_107 := by rw [eG_107]; exact (i8.pG i8_104 i _ (by decide))
                    have i9_114 : i9 M_41 gc_40 G_107 R := by rw [eG_107]; exact (i9.pG i9_105 i _ (by decide))
                    have eg_115 : G_107 i 2 = 2 := by rw [eG_107, u2_eq]
                    obtain ⟨y_116, ey_116⟩ : ∃ q : Int32, q = x_1 + (1) := ⟨_, rfl⟩
                    exact by
                     refine lv_iinc (v := y_116) (lv' := [(5, .int y_116), (6, .ref (ad_38 (50 + 16 * ((n_6 0).toInt.toNat)))), (0, .ref (ad_38 0)), (1, .ref (ad_38 (50 + 16 * i))), (2, .int v2), (3, .int v3), (4, .int v4)]) hx hb dX9_hand_68 hl (k := 1) rfl (by rw [ey_116]; rfl) (by decide) rfl (fun ls hl => ?_)
                     have ty_116 : y_116.toInt = x_1.toInt + (1) := ar_add rfl ti_1 ey_116 (by omega)
                     refine lv_goto (tgt := 3) hx hb dX9_hand_71 (by decide) ?_
                     exact ih_19 y_116   ws_108 ad_38 ga_39 gc_40 M_41 n_42 G_107 K_79 F_47 ce se H locs ls (by show (201 - (n_42 0).toInt).toNat < _; omega) (by show (i : Int) < (n_42 0).toInt; omega) (by show S9 M_41 gc_40 + 16 * M ≤ S9 M gc + 16 * M_41; omega) (by show 0 ≤ y_116.toInt; omega) (by show itr (b_hand i v2 v4) (f_hand v4) y_116.toInt.toNat (v3.toInt.toNat - y_116.toInt.toNat) (C9.mk n_42 f T G_107 K_79 F_47) = kh_hand i v2 v3 v4 (C9.mk n f T G K F); subst eG_98; subst eG_107; have hX := v_15; (first | rw [itr_go (by omega)] at hX | rw [itr_end (by omega)] at hX); (repeat (first | dsimp +instances only [c9n, c9f, c9T, c9G, c9K, c9F, b_come, b_leave, b_fill, awB, b_settle, b_wake, b_take, f_take, b_gather, f_gather, b_ask, a_ask, b_tell, c_close, d_close, k_add, k_rem, sco, k_clrF, k_mem, k_rebind, k_bnd, k_beg0, k_beg1, b_giveN, b_giveR, f_open, b_hand, k_op, b_turn, wlB, b_beat, f_anew, b_wipe, b_off, k_sadd, fits, frP, cntB, b_trace, b_child, k_lat, cond_true, cond_false, Option.elim_none, Option.elim_some, Option.getD_none, Option.getD_some, f_hand, kh_op, bh_turn, bh_beat] at hX | rw [← hc_67] at hX | rw [← hc_95] at hX | rw [if_pos (by first | with_reducible assumption | omega)] at hX | rw [if_neg (by first | with_reducible assumption | omega)] at hX | rw [jx_of (by omega)] at hX)); (rw [show y_116.toInt.toNat = x_1.toInt.toNat + 1 by omega]); first | exact hX | (exfalso; omega) | exact hX) (by show (n 0).toInt ≤ (n_42 0).toInt; omega) (by show M ≤ M_41; omega) hE_65 hQ ⟨i1_83, i2_84, i3_85, i4_86, i5_87, i6_111, i7_112, i8_113, i9_114, i10_109, i11_110⟩ hr1 hr2 hP hD hS (lv_sub hl [0, 2, 3, 4, 5, 6] rfl)
             · have hc_117 : (C9.mk n_42 f T G_45 K_46 F_47) = k_openR i v2 (C9.mk n_6 f T G_7 K_8 F_9) := w_66.1
               have w_66 : (n_42 0).toInt = (n_6 0).toInt ∧ S9 M_41 gc_40 + 16 * M_5 ≤ S9 M_5 gc_4 + 16 * M_41 ∧ 200 ≤ (n_6 0).toInt := w_66.2
               refine W.eq (g2 := F0 m 30 ls [.null]) (by first | rfl | (simp only [hE_50 0 (by omega), hE_50 (50 + 16 * i) (by omega)])) ?_
               refine lv_astoreN (lv' := [(6, .null), (5, .int x_1), (0, .ref (ad_38 0)), (1, .ref (ad_38 (50 + 16 * i))), (2, .int v2), (3, .int v3), (4, .int v4)]) hx hb dX9_hand_30 hl (by decide) rfl (fun ls hl => ?_)
               refine lv_aloadN hx hb dX9_hand_32 (lv_at hl 0 rfl) ?_
               refine lv_ifnonnullN hx hb dX9_hand_34 ?_
               refine lv_bipush (v := 7) hx hb dX9_hand_37 (by decide) ?_
               refine W_msr2 (fun hm1 hm2 hm3 => ?_)
               have hSl := S9_le i8_60 i9_61
               have hb0_ := i8_60.2.1 0 (by omega)
               have hb1_ := i8_60.2.1 1 (by omega)
               have hb2_ := i8_60.2.1 2 (by omega)
               refine W.widen (k := 3500) (n := 59000) (by omega) (by omega) ?_
               exact W.iret (v := 7) hx hb hr (fun t ht hW => ⟨⟨7, (ad_38, ga_39, gc_40, M_41, n_42, f, T, G_45, K_46, F_47), rfl, ⟨(by show ((C9.mk n_42 f T G_45 K_46 F_47), (7 : Int32)) = kh_hand i v2 v3 v4 (C9.mk n f T G K F); have hX := v_15; (first | rw [itr_go (by omega)] at hX | rw [itr_end (by omega)] at hX); (repeat (first | dsimp +instances only [c9n, c9f, c9T, c9G, c9K, c9F, b_come, b_leave, b_fill, awB, b_settle, b_wake, b_take, f_take, b_gather, f_gather, b_ask, a_ask, b_tell, c_close, d_close, k_add, k_rem, sco, k_clrF, k_mem, k_rebind, k_bnd, k_beg0, k_beg1, b_giveN, b_giveR, f_open, b_hand, k_op, b_turn, wlB, b_beat, f_anew, b_wipe, b_off, k_sadd, fits, frP, cntB, b_trace, b_child, k_lat, cond_true, cond_false, Option.elim_none, Option.elim_some, Option.getD_none, Option.getD_some, f_hand, kh_op, bh_turn, bh_beat] at hX | rw [← hc_117] at hX | rw [if_pos (by first | with_reducible assumption | omega)] at hX | rw [if_neg (by first | with_reducible assumption | omega)] at hX | rw [jx_of (by omega)] at hX)); first | exact hX | (exfalso; omega) | exact hX), (by have t_ := ti_7; show S9 M_41 gc_40 + 16 * M ≤ S9 M gc + 16 * M_41; omega)⟩, ws_48, by rw [ht]; exact hP, hD, hQ, ⟨i1_53, i2_54, i3_55, i4_56, i5_57, i6_58, i7_59, i8_60, i9_61, i10_62, i11_63⟩, by rw [ht]; show hpS H + (260 * M + 2 * S9 M gc) ≤ hpS s.heap + (260 * M_41 + 2 * S9 M_41 gc_40); omega, by rw [ht]; show 16 * H.size + (256 * M + S9 M gc) ≤ 16 * s.heap.size + (256 * M_41 + S9 M_41 gc_40); omega, by show (n 0).toInt ≤ (n_42 0).toInt; omega, hE_65, by show M ≤ M_41; omega⟩, hS.F ht⟩) hS.2.2 dX9_hand_39
          · simp only [i_lt, i_le, i_eq, ti_6] at c_35
            refine lv_bipush (v := 6) hx hb dX9_hand_21 (by decide) ?_
            refine W_msr2 (fun hm1 hm2 hm3 => ?_)
            have hSl := S9_le i8_28 i9_29
            have hb0_ := i8_28.2.1 0 (by omega)
            have hb1_ := i8_28.2.1 1 (by omega)
            have hb2_ := i8_28.2.1 2 (by omega)
            refine W.widen (k := 3500) (n := 59000) (by omega) (by omega) ?_
            exact W.iret (v := 6) hx hb hr (fun t ht hW => ⟨⟨6, (ad_2, ga_3, gc_4, M_5, n_6, f, T, G_7, K_8, F_9), rfl, ⟨(by show ((C9.mk n_6 f T G_7 K_8 F_9), (6 : Int32)) = kh_hand i v2 v3 v4 (C9.mk n f T G K F); have hX := v_15; (first | rw [itr_go (by omega)] at hX | rw [itr_end (by omega)] at hX); (repeat (first | dsimp +instances only [c9n, c9f, c9T, c9G, c9K, c9F, b_come, b_leave, b_fill, awB, b_settle, b_wake, b_take, f_take, b_gather, f_gather, b_ask, a_ask, b_tell, c_close, d_close, k_add, k_rem, sco, k_clrF, k_mem, k_rebind, k_bnd, k_beg0, k_beg1, b_giveN, b_giveR, f_open, b_hand, k_op, b_turn, wlB, b_beat, f_anew, b_wipe, b_off, k_sadd, fits, frP, cntB, b_trace, b_child, k_lat, cond_true, cond_false, Option.elim_none, Option.elim_some, Option.getD_none, Option.getD_some, f_hand, kh_op, bh_turn, bh_beat] at hX | rw [if_pos (by first | with_reducible assumption | omega)] at hX | rw [if_neg (by first | with_reducible assumption | omega)] at hX | rw [jx_of (by omega)] at hX)); first | exact hX | (exfalso; omega) | exact hX), (by have t_ := ti_6; show S9 M_5 gc_4 + 16 * M ≤ S9 M gc + 16 * M_5; omega)⟩, ws_10, by rw [ht]; exact hP, hD, hQ, ⟨i1_21, i2_22, i3_23, i4_24, i5_25, i6_26, i7_27, i8_28, i9_29, i10_30, i11_31⟩, by rw [ht]; show hpS H + (260 * M + 2 * S9 M gc) ≤ hpS s.heap + (260 * M_5 + 2 * S9 M_5 gc_4); omega, by rw [ht]; show 16 * H.size + (256 * M + S9 M gc) ≤ 16 * s.heap.size + (256 * M_5 + S9 M_5 gc_4); omega, by show (n 0).toInt ≤ (n_6 0).toInt; omega, hE0, by show M ≤ M_5; omega⟩, hS.F ht⟩) hS.2.2 dX9_hand_23
   exact L3 _ (0 : Int32)   ws ad ga gc M n G K F ce se _ _ _ (Nat.lt_succ_self _) (by have t_0 := ti_0; show (i : Int) < (n 0).toInt; omega) (by have t_0 := ti_0; show S9 M gc + 16 * M ≤ S9 M gc + 16 * M; omega) (by have t_0 := ti_0; show 0 ≤ (0 : Int32).toInt; omega) (by show itr (b_hand i v2 v4) (f_hand v4) (0 : Int32).toInt.toNat (v3.toInt.toNat - (0 : Int32).toInt.toNat) (C9.mk n f T G K F) = kh_hand i v2 v3 v4 (C9.mk n f T G K F); have hX := (kh_hand.eq_1 i v2 v3 v4 (C9.mk n f T G K F)).symm; (repeat (first | dsimp +instances only [c9n, c9f, c9T, c9G, c9K, c9F, b_come, b_leave, b_fill, awB, b_settle, b_wake, b_take, f_take, b_gather, f_gather, b_ask, a_ask, b_tell, c_close, d_close, k_add, k_rem, sco, k_clrF, k_mem, k_rebind, k_bnd, k_beg0, k_beg1, b_giveN, b_giveR, f_open, b_hand, k_op, b_turn, wlB, b_beat, f_anew, b_wipe, b_off, k_sadd, fits, frP, cntB, b_trace, b_child, k_lat, cond_true, cond_false, Option.elim_none, Option.elim_some, Option.getD_none, Option.getD_some, f_hand, kh_op, bh_turn, bh_beat] at hX | rw [if_pos (by first | with_reducible assumption | omega)] at hX | rw [if_neg (by first | with_reducible assumption | omega)] at hX | rw [jx_of (by omega)] at hX)); (skip); first | exact hX | (exfalso; omega) | exact hX) (by have t_0 := ti_0; show (n 0).toInt ≤ (n 0).toInt; omega) (by have t_0 := ti_0; show M ≤ M; omega) (fun _ _ => rfl) hQ ⟨h_i1, h_i2, h_i3, h_i4, h_i5, h_i6, h_i7, h_i8, h_i9, h_i10, h_i11⟩ hr1 hr2 hP hD hS (lv_sub hl [0, 1, 2, 3, 4, 5] rfl)

set_option maxHeartbeats 8000000 in
set_option maxRecDepth 100000 in
theorem c_X9_submit (l : Launch) (dC : Nat → ClassId) (dI : Nat → Nat → Nat) (kc : Nat → ClassId) (ws : va_W) (ad : Nat → Nat) (ga : Nat → Nat) (gc : Nat → Nat) (M : Nat) (n : Nat → Int32) (f : Nat → Nat → Int32) (T : Nat → Option Nat) (G : Nat → Nat → Int32) (K : Nat → Nat → Option Nat) (F : Nat → Nat → Nat → Int32) (R : Nat) (v1 : Int32) (sz hz : Nat) (hQ : Pic9 kc ws ad ga gc M n f T G K F) (hI : I9 M n f T gc G K F R) (hR : R ≤ 310000) : Met l yX9_submit (.code yX9_submit cX9_submit 3 (some .int) :: gw) ({ frames := 4, cells := 3500, slots := 59000, locals := 86 }) (va_Pc [.ref (ad 0), .int v1] (fun U => U.heap.size = sz ∧ hpS U.heap = hz ∧ va_P (dC, dI) vwCl ws U.heap ∧ va_K (dC, dI) vwCl (t9 kc) U ∧ va_D (fun _ => True) ws ∧ nx U)) (va_Qi (fun (r : Int32) (u : (Nat → Nat) × (Nat → Nat) × (Nat → Nat) × Nat × (Nat → Int32) × (Nat → Nat → Int32) × (Nat → Option Nat) × (Nat → Nat → Int32) × (Nat → Nat → Option Nat) × (Nat → Nat → Nat → Int32)) => ((C9.mk u.2.2.2.2.1 f T u.2.2.2.2.2.2.2.1 u.2.2.2.2.2.2.2.2.1 u.2.2.2.2.2.2.2.2.2), r) = k_submit v1 (C9.mk n f T G K F) ∧ ((u.2.2.2.2.1 0).toInt = (n 0).toInt ∨ (u.2.2.2.2.1 0).toInt = (n 0).toInt + 1) ∧ (0 ≤ v1.toInt → v1.toInt < 8 → (n 0).toInt < 200 → (u.2.2.2.2.1 0).toInt = (n 0).toInt + 1) ∧ (¬ (0 ≤ v1.toInt ∧ v1.toInt < 8) → (u.2.2.2.2.1 0).toInt = (n 0).toInt)) (fun u t => ∃ w : va_W, va_P (dC, dI) vwCl w t.heap ∧ va_D (va_A ws sz) w ∧ Pic9 kc w u.1 u.2.1 u.2.2.1 u.2.2.2.1 u.2.2.2.2.1 f T u.2.2.2.2.2.2.2.1 u.2.2.2.2.2.2.2.2.1 u.2.2.2.2.2.2.2.2.2 ∧ I9 u.2.2.2.1 u.2.2.2.2.1 f T u.2.2.1 u.2.2.2.2.2.2.2.1 u.2.2.2.2.2.2.2.2.1 u.2.2.2.2.2.2.2.2.2 R ∧ hpS t.heap + (260 * M + 2 * S9 M gc) ≤ hz + (260 * u.2.2.2.1 + 2 * S9 u.2.2.2.1 u.2.2.1) ∧ 16 * t.heap.size + (256 * M + S9 M gc) ≤ 16 * sz + (256 * u.2.2.2.1 + S9 u.2.2.2.1 u.2.2.1) ∧ (n 0).toInt ≤ (u.2.2.2.2.1 0).toInt ∧ (∀ q : Nat, q < 50 + 16 * M → u.1 q = ad q) ∧ M ≤ u.2.2.2.1) (va_A ws sz)) 3500 59000 (va_A ws sz) := by
  refine Met.ofW (cc := cX9_submit) (maxL := 3) (ret := (some .int)) (by decide) rfl ?_
  intro p e s m args below meth c s₁ B hml hv
  obtain ⟨rfl, hsz, rfl, hP, hK, hD0, hN⟩ := hv
  have hx := B.exec
  have hb := B.bytes
  have hr := B.returns
  have hts := atoms_spec (ws := .code yX9_submit cX9_submit 3 (some .int) :: gw) B.pre
  have hg : ∀ w ∈ gw, w.before _ s = true := fun w h => hts w (List.mem_cons_of_mem _ h)
  have hown : s.vm.findClass RX9 = some m.cls := findClass_of_methodNamed B.named
  have hlocks := B.notSynchronized
  subst hsz
  have hD := hD0.self (sz := s.heap.size)
  generalize hAe : va_A ws s.heap.size = A at hD ⊢
  have hA : ∀ q : Nat, s.heap.size ≤ q → A q := fun q h => by rw [← hAe]; exact Or.inr h
  clear hAe
  have hS : va_S A s.heap s.heap [] := va_S.rf
  have hl := lv_entry ([.ref (ad 0), .int v1]) (n := 3) (Nat.le_of_ble_eq_true rfl)
  rw [lg_entry_eq]
  generalize (lg_sl ([.ref (ad 0), .int v1]) ++ List.replicate (3 - (lg_sl ([.ref (ad 0), .int v1])).length) Slot.unset).toArray = ls at hl ⊢
  have hl : lv_has ls 3 [(0, .ref (ad 0)), (1, .int v1)] := hl
  obtain ⟨h_i1, h_i2, h_i3, h_i4, h_i5, h_i6, h_i7, h_i8, h_i9, h_i10, h_i11⟩ := id hI
  have q1_ := h_i1
  unfold i1 at q1_
  have hSl0 := S9_le h_i8 h_i9
  have hb0_ := h_i8.2.1 0 (by omega)
  have hb1_ := h_i8.2.1 1 (by omega)
  have hb2_ := h_i8.2.1 2 (by omega)
  have hr1 : 0 + (260 * M + 2 * S9 M gc) ≤ (260 * M + 2 * S9 M gc) := by omega
  have hr2 : 16 * 0 + (256 * M + S9 M gc) ≤ (256 * M + S9 M gc) := by omega
  obtain ⟨ce, hce⟩ : ∃ q : Nat, q = 0 := ⟨_, rfl⟩
  obtain ⟨se, hse⟩ : ∃ q : Nat, q = 0 := ⟨_, rfl⟩
  rw [← hse] at hr1
  have hr2 : 16 * ce + (256 * M + S9 M gc) ≤ (256 * M + S9 M gc) := by omega
  refine W.widen (k := ce) (n := se) (Nat.zero_le _) (Nat.zero_le _) ?_
  exact by
   refine lv_iload_n hx hb dX9_submit_0 rfl (lv_at hl 1 rfl) ?_
   have hCc : ([] : List Nat).map (fun i => ws[i]?) = ([] : va_W).map some := rfl
   have hNd : ([] : List Nat).Nodup := List.nodup_nil
   have hPc := hP.pick [] hCc
   have hDc := hD.pick [] hNd hCc
   have hKc := hK.sub (tys' := []) [] rfl
   have hFc := va_free (wc := []) hD hS hA [] hCc
   refine W_msr2 (fun hm1 hm2 hm3 => ?_)
   refine va_calli (va_runS (As := [.int v1]) (rest := []) ⟨hx, hb, hml, hown, hg⟩ (c_X9_isErrand l dC dI v1 s.heap.size ) (va_cwS 1 hg (gw_S gm_methodLink_RX9_111_yX9_isErrand gm_static_yX9_isErrand gm_initialized_RX9 gm_code_yX9_isErrand_cX9_isErrand_1_some_boolean_) rfl rfl rfl (by decide +kernel) ⟨Nat.le_of_ble_eq_true rfl, Nat.le_of_ble_eq_true rfl⟩) ⟨fun a U g mk q => by obtain ⟨q0, q1, qP, qK, qD, qN⟩ := q; exact ⟨q0, q1, qP, va_K.moved (u := U) (U := U.calling g mk a) (Vm.Alike.refl U.vm) qK, qD, nx_same (u := U) (U := U.calling g mk a) rfl qN⟩, fun U hU hW => ⟨rfl, by rw [hU], by rw [hU]; exact hPc, va_K.moved hW.alike hKc, hDc.weaken (fun _ _ _ _ => trivial), nx_warm hW hN⟩⟩ rfl rfl hl.1 rfl (lv_room (Nat.le_of_ble_eq_true rfl)) dX9_submit_1 ⟨by show ce + 0 ≤ 3500; omega, by show se + 0 ≤ 59000; omega⟩) hS (fun q _ h => hFc q h) hFc (fun r_1 u_2 t H1 locs ht hvm hw hB hz1 hk1 hS => ?_)
   obtain ⟨hP, hD⟩ := va_replS hP hD [] rfl List.nodup_nil hk1 hFc nil_P nil_D
   refine W.widen (k := ce) (n := se) (Nat.le_refl _) (Nat.le_refl _) ?_
   generalize H1 = H at hP hS ⊢
   rcases hw with ⟨rfl, w_3⟩ | ⟨rfl, w_3⟩
   · refine lv_if_ne (tgt := 9) hx hb dX9_submit_4 (by decide) (fun _ => ?_) (fun c_4 => absurd c_4 (by decide))
     exact by
      refine lv_aload_n hx hb dX9_submit_9 rfl (lv_at hl 0 rfl) ?_
      refine lv_iload_n hx hb dX9_submit_10 rfl (lv_at hl 1 rfl) ?_
      refine lv_null hx hb dX9_submit_11 ?_
      have hFc := free_all hD hS hA
      refine W_msr2 (fun hm1 hm2 hm3 => ?_)
      refine va_callq (va_runV (As := [.int v1, .null]) (rest := []) ⟨hx, hb, hml, hown, hg⟩ (c_X9_openRun_n l dC dI kc ws ad ga gc M n f T G K F R v1 H.size (hpS H) hQ ⟨h_i1, h_i2, h_i3, h_i4, h_i5, h_i6, h_i7, h_i8, h_i9, h_i10, h_i11⟩ (by show R ≤ 310000; omega)) (cwV 2 hg (gw_V gm_methodLink_RX9_114_yX9_openRun gm_instanceMethod_yX9_openRun gm_selects_RX9_yX9_openRun_yX9_openRun gm_initialized_RX9 gm_code_yX9_openRun_cX9_openRun_5_some_object_ErrandGuild_Run_) rfl rfl rfl (by decide +kernel) ⟨Nat.le_of_ble_eq_true rfl, Nat.le_of_ble_eq_true rfl⟩) ⟨fun a U g mk q => by obtain ⟨q0, q1, q2, qP, qK, qD, qN⟩ := q; exact ⟨q0, q1, q2, qP, va_K.moved (u := U) (U := U.calling g mk a) (Vm.Alike.refl U.vm) qK, qD, nx_same (u := U) (U := U.calling g mk a) rfl qN⟩, va_recv hK hP (ci := 9) (q0 := 0) rfl hQ.x0, fun U hU hW => ⟨rfl, by rw [hU], by rw [hU], by rw [hU]; exact hP, va_K.moved hW.alike hK, hD.weaken (fun _ _ _ _ => trivial), nx_warm hW hN⟩⟩ rfl rfl hl.1 rfl (lv_room (Nat.le_of_ble_eq_true rfl)) dX9_submit_12 ⟨by show ce + 20 ≤ 3500; omega, by show se + 300 ≤ 59000; omega⟩) hS (fun q _ h => hFc q h) hFc (fun r_5 u_6 t H1 locs ht hvm hw hB hz1 hk1 hS => ?_)
      obtain ⟨ad_7, ga_8, gc_9, M_10, n_11, f_12, T_13, G_14, K_15, F_16⟩ := u_6
      have hB : ∃ w : va_W, va_P (dC, dI) vwCl w t.heap ∧ va_D (va_A ws H.size) w ∧ Pic9 kc w ad_7 ga_8 gc_9 M_10 n_11 f T G_14 K_15 F_16 ∧ I9 M_10 n_11 f T gc_9 G_14 K_15 F_16 R ∧ hpS t.heap + (260 * M + 2 * S9 M gc) ≤ hpS H + (260 * M_10 + 2 * S9 M_10 gc_9) ∧ 16 * t.heap.size + (256 * M + S9 M gc) ≤ 16 * H.size + (256 * M_10 + S9 M_10 gc_9) ∧ (n 0).toInt ≤ (n_11 0).toInt ∧ (∀ q : Nat, q < 50 + 16 * M → ad_7 q = ad q) ∧ M ≤ M_10 := hB
      rw [ht] at hB
      obtain ⟨ws_17, hP, hD, hQ, hI_21, hy1, hy2, hn_18, hE_19, hM_20⟩ := hB
      have hD := hD.weaken (fun k q _ h => hFc _ h)
      obtain ⟨i1_22, i2_23, i3_24, i4_25, i5_26, i6_27, i7_28, i8_29, i9_30, i10_31, i11_32⟩ := id hI_21
      have q1_ := i1_22
      unfold i1 at q1_
      have hSl := S9_le i8_29 i9_30
      have hb0_ := i8_29.2.1 0 (by omega)
      have hb1_ := i8_29.2.1 1 (by omega)
      have hb2_ := i8_29.2.1 2 (by omega)
      refine W_msr2 (fun hn1 hn2 hn3 => ?_)
      obtain ⟨ce2, se2, hk3, hk4, hr1, hr2⟩ : ∃ c2 s2 : Nat, H1.size ≤ s.heap.size + c2 ∧ hpS H1 ≤ hpS s.heap + s2 ∧ s2 + (260 * M + 2 * S9 M gc) ≤ (260 * M_10 + 2 * S9 M_10 gc_9) ∧ 16 * c2 + (256 * M + S9 M gc) ≤ (256 * M_10 + S9 M_10 gc_9) := ⟨H1.size - s.heap.size, hpS H1 - hpS s.heap, by omega, by omega, by have := hS.1; omega, by have := hS.1; omega⟩
      refine W_tightP hk3 hk4 ?_
      clear hm1 hm2 hm3 hn1 hn2 hn3 hk3 hk4
      clear hk1 hz1
      generalize ce2 = ce, se2 = se at hr1 hr2 ⊢
      generalize H1 = H at hP hS ⊢
      have hl : lv_has ls 3 [(0, .ref (ad_7 0)), (1, .int v1)] := by rw [hE_19 0 (by omega)]; exact hl
      rcases hw with ⟨rfl, w_33⟩ | ⟨rfl, w_33⟩
      · have hc_34 : (C9.mk n_11 f T G_14 K_15 F_16) = k_openN v1 (C9.mk n f T G K F) := w_33.1
        have w_33 : (n_11 0).toInt = (n 0).toInt + 1 ∧ S9 M_10 gc_9 + 16 * M ≤ S9 M gc + 16 * M_10 ∧ (∀ a j : Nat, (a : Int) < (n 0).toInt → K_15 a 3 = some j → (j : Int) < (n 0).toInt) := w_33.2
        have hl_35 : (n 0).toInt.toNat < M_10 := by omega
        refine W.eq (g2 := F0 m 15 ls [.ref (ad_7 (50 + 16 * ((n 0).toInt.toNat)))]) (by first | rfl | (simp only [hE_19 0 (by omega)])) ?_
        exact by
         refine lv_astore_n (lv' := [(2, .ref (ad_7 (50 + 16 * ((n 0).toInt.toNat)))), (0, .ref (ad_7 0)), (1, .int v1)]) hx hb dX9_submit_15 rfl hl (by decide) rfl (fun ls hl => ?_)
         refine lv_aload_n hx hb dX9_submit_16 rfl (lv_at hl 0 rfl) ?_
         refine lv_ifnonnull (tgt := 24) hx hb dX9_submit_17 (by decide) ?_
         refine lv_aload_n hx hb dX9_submit_24 rfl (lv_at hl 0 rfl) ?_
         refine va_get (D := (dC, dI)) (ci := 7) (v := .int (G_14 ((n 0).toInt.toNat) 0)) (C := RX7) (T := TX7) (N := 15) hx hb hg gb_7 hown hK hP (50 + 16 * ((n 0).toInt.toNat)) (hQ.b0 hl_35) rfl 0 (by decide) (hg _ gm_fieldLink_RX9_118_ErrandGuild_Run_number_I_) (fun _ h9 => h9) rfl dX9_submit_25 ?_
         refine W_msr2 (fun hm1 hm2 hm3 => ?_)
         have hSl := S9_le i8_29 i9_30
         have hb0_ := i8_29.2.1 0 (by omega)
         have hb1_ := i8_29.2.1 1 (by omega)
         have hb2_ := i8_29.2.1 2 (by omega)
         refine W.widen (k := 3500) (n := 59000) (by omega) (by omega) ?_
         exact W.iret (v := G_14 ((n 0).toInt.toNat) 0) hx hb hr (fun t ht hW => ⟨⟨G_14 ((n 0).toInt.toNat) 0, (ad_7, ga_8, gc_9, M_10, n_11, f, T, G_14, K_15, F_16), rfl, ⟨(by show ((C9.mk n_11 f T G_14 K_15 F_16), G_14 ((n 0).toInt.toNat) 0) = k_submit v1 (C9.mk n f T G K F); have hX := (k_submit.eq_1 v1 (C9.mk n f T G K F)).symm; (repeat (first | dsimp +instances only [c9n, c9f, c9T, c9G, c9K, c9F, b_come, b_leave, b_fill, awB, b_settle, b_wake, b_take, f_take, b_gather, f_gather, b_ask, a_ask, b_tell, c_close, d_close, k_add, k_rem, sco, k_clrF, k_mem, k_rebind, k_bnd, k_beg0, k_beg1, b_giveN, b_giveR, f_open, b_hand, k_op, b_turn, wlB, b_beat, f_anew, b_wipe, b_off, k_sadd, fits, frP, cntB, b_trace, b_child, k_lat, cond_true, cond_false, Option.elim_none, Option.elim_some, Option.getD_none, Option.getD_some] at hX | rw [← hc_34] at hX | rw [if_pos (by first | with_reducible assumption | omega)] at hX | rw [if_neg (by first | with_reducible assumption | omega)] at hX | rw [jx_of (by omega)] at hX)); first | exact hX | (exfalso; omega) | exact hX), (by show ((n_11 0).toInt = (n 0).toInt ∨ (n_11 0).toInt = (n 0).toInt + 1) ∧ (0 ≤ v1.toInt → v1.toInt < 8 → (n 0).toInt < 200 → (n_11 0).toInt = (n 0).toInt + 1) ∧ (¬ (0 ≤ v1.toInt ∧ v1.toInt < 8) → (n_11 0).toInt = (n 0).toInt); omega)⟩, ws_17, by rw [ht]; exact hP, hD, hQ, ⟨i1_22, i2_23, i3_24, i4_25, i5_26, i6_27, i7_28, i8_29, i9_30, i10_31, i11_32⟩, by rw [ht]; show hpS H + (260 * M + 2 * S9 M gc) ≤ hpS s.heap + (260 * M_10 + 2 * S9 M_10 gc_9); omega, by rw [ht]; show 16 * H.size + (256 * M + S9 M gc) ≤ 16 * s.heap.size + (256 * M_10 + S9 M_10 gc_9); omega, by show (n 0).toInt ≤ (n_11 0).toInt; omega, hE_19, by show M ≤ M_10; omega⟩, hS.F ht⟩) hS.2.2 dX9_submit_28
      · have hc_36 : (C9.mk n_11 f T G_14 K_15 F_16) = k_openN v1 (C9.mk n f T G K F) := w_33.1
        have w_33 : (n_11 0).toInt = (n 0).toInt ∧ S9 M_10 gc_9 + 16 * M ≤ S9 M gc + 16 * M_10 ∧ 200 ≤ (n 0).toInt := w_33.2
        refine W.eq (g2 := F0 m 15 ls [.null]) (by first | rfl | (simp only [hE_19 0 (by omega)])) ?_
        refine lv_astore_nN (lv' := [(2, .null), (0, .ref (ad_7 0)), (1, .int v1)]) hx hb dX9_submit_15 rfl hl (by decide) rfl (fun ls hl => ?_)
        refine lv_aload_nN hx hb dX9_submit_16 rfl (lv_at hl 0 rfl) ?_
        refine lv_ifnonnullN hx hb dX9_submit_17 ?_
        refine lv_iconst (v := -1) hx hb dX9_submit_20 (by decide) ?_
        refine lv_goto (tgt := 28) hx hb dX9_submit_21 (by decide) ?_
        refine W_msr2 (fun hm1 hm2 hm3 => ?_)
        have hSl := S9_le i8_29 i9_30
        have hb0_ := i8_29.2.1 0 (by omega)
        have hb1_ := i8_29.2.1 1 (by omega)
        have hb2_ := i8_29.2.1 2 (by omega)
        refine W.widen (k := 3500) (n := 59000) (by omega) (by omega) ?_
        exact W.iret (v := -1) hx hb hr (fun t ht hW => ⟨⟨-1, (ad_7, ga_8, gc_9, M_10, n_11, f, T, G_14, K_15, F_16), rfl, ⟨(by show ((C9.mk n_11 f T G_14 K_15 F_16), (-1 : Int32)) = k_submit v1 (C9.mk n f T G K F); have hX := (k_submit.eq_1 v1 (C9.mk n f T G K F)).symm; (repeat (first | dsimp +instances only [c9n, c9f, c9T, c9G, c9K, c9F, b_come, b_leave, b_fill, awB, b_settle, b_wake, b_take, f_take, b_gather, f_gather, b_ask, a_ask, b_tell, c_close, d_close, k_add, k_rem, sco, k_clrF, k_mem, k_rebind, k_bnd, k_beg0, k_beg1, b_giveN, b_giveR, f_open, b_hand, k_op, b_turn, wlB, b_beat, f_anew, b_wipe, b_off, k_sadd, fits, frP, cntB, b_trace, b_child, k_lat, cond_true, cond_false, Option.elim_none, Option.elim_some, Option.getD_none, Option.getD_some] at hX | rw [← hc_36] at hX | rw [if_pos (by first | with_reducible assumption | omega)] at hX | rw [if_neg (by first | with_reducible assumption | omega)] at hX | rw [jx_of (by omega)] at hX)); first | exact hX | (exfalso; omega) | exact hX), (by have t_ := ti_m1; show ((n_11 0).toInt = (n 0).toInt ∨ (n_11 0).toInt = (n 0).toInt + 1) ∧ (0 ≤ v1.toInt → v1.toInt < 8 → (n 0).toInt < 200 → (n_11 0).toInt = (n 0).toInt + 1) ∧ (¬ (0 ≤ v1.toInt ∧ v1.toInt < 8) → (n_11 0).toInt = (n 0).toInt); omega)⟩, ws_17, by rw [ht]; exact hP, hD, hQ, ⟨i1_22, i2_23, i3_24, i4_25, i5_26, i6_27, i7_28, i8_29, i9_30, i10_31, i11_32⟩, by rw [ht]; show hpS H + (260 * M + 2 * S9 M gc) ≤ hpS s.heap + (260 * M_10 + 2 * S9 M_10 gc_9); omega, by rw [ht]; show 16 * H.size + (256 * M + S9 M gc) ≤ 16 * s.heap.size + (256 * M_10 + S9 M_10 gc_9); omega, by show (n 0).toInt ≤ (n_11 0).toInt; omega, hE_19, by show M ≤ M_10; omega⟩, hS.F ht⟩) hS.2.2 dX9_submit_28
   · refine lv_if_ne (tgt := 9) hx hb dX9_submit_4 (by decide) (fun c_37 => absurd c_37 (by decide)) (fun _ => ?_)
     refine lv_iconst (v := -1) hx hb dX9_submit_7 (by decide) ?_
     refine W_msr2 (fun hm1 hm2 hm3 => ?_)
     have hSl := S9_le h_i8 h_i9
     have hb0_ := h_i8.2.1 0 (by omega)
     have hb1_ := h_i8.2.1 1 (by omega)
     have hb2_ := h_i8.2.1 2 (by omega)
     refine W.widen (k := 3500) (n := 59000) (by omega) (by omega) ?_
     exact W.iret (v := -1) hx hb hr (fun t ht hW => ⟨⟨-1, (ad, ga, gc, M, n, f, T, G, K, F), rfl, ⟨(by show ((C9.mk n f T G K F), (-1 : Int32)) = k_submit v1 (C9.mk n f T G K F); have hX := (k_submit.eq_1 v1 (C9.mk n f T G K F)).symm; (repeat (first | dsimp +instances only [c9n, c9f, c9T, c9G, c9K, c9F, b_come, b_leave, b_fill, awB, b_settle, b_wake, b_take, f_take, b_gather, f_gather, b_ask, a_ask, b_tell, c_close, d_close, k_add, k_rem, sco, k_clrF, k_mem, k_rebind, k_bnd, k_beg0, k_beg1, b_giveN, b_giveR, f_open, b_hand, k_op, b_turn, wlB, b_beat, f_anew, b_wipe, b_off, k_sadd, fits, frP, cntB, b_trace, b_child, k_lat, cond_true, cond_false, Option.elim_none, Option.elim_some, Option.getD_none, Option.getD_some] at hX | rw [if_pos (by first | with_reducible assumption | omega)] at hX | rw [if_neg (by first | with_reducible assumption | omega)] at hX | rw [jx_of (by omega)] at hX)); first | exact hX | (exfalso; omega) | exact hX), (by have t_ := ti_m1; show ((n 0).toInt = (n 0).toInt ∨ (n 0).toInt = (n 0).toInt + 1) ∧ (0 ≤ v1.toInt → v1.toInt < 8 → (n 0).toInt < 200 → (n 0).toInt = (n 0).toInt + 1) ∧ (¬ (0 ≤ v1.toInt ∧ v1.toInt < 8) → (n 0).toInt = (n 0).toInt); omega)⟩, ws, by rw [ht]; exact hP, hD, hQ, ⟨h_i1, h_i2, h_i3, h_i4, h_i5, h_i6, h_i7, h_i8, h_i9, h_i10, h_i11⟩, by rw [ht]; show hpS H + (260 * M + 2 * S9 M gc) ≤ hpS s.heap + (260 * M + 2 * S9 M gc); omega, by rw [ht]; show 16 * H.size + (256 * M + S9 M gc) ≤ 16 * s.heap.size + (256 * M + S9 M gc); omega, by show (n 0).toInt ≤ (n 0).toInt; omega, (fun _ _ => rfl), by show M ≤ M; omega⟩, hS.F ht⟩) hS.2.2 dX9_submit_8
