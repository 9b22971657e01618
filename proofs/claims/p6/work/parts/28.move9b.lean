set_option maxHeartbeats 8000000 in
set_option maxRecDepth 100000 in
theorem c_X9_fillThreads (l : Launch) (dC : Nat → ClassId) (dI : Nat → Nat → Nat) (kc : Nat → ClassId) (ws : va_W) (ad : Nat → Nat) (ga : Nat → Nat) (gc : Nat → Nat) (M : Nat) (n : Nat → Int32) (f : Nat → Nat → Int32) (T : Nat → Option Nat) (G : Nat → Nat → Int32) (K : Nat → Nat → Option Nat) (F : Nat → Nat → Nat → Int32) (R : Nat) (sz hz : Nat) (hQ : Pic9 kc ws ad ga gc M n f T G K F) (hI : I9 M n T gc G K R) : Met l yX9_fillThreads (.code yX9_fillThreads cX9_fillThreads 3 none :: gw) ({ frames := 1, cells := 0, slots := 0, locals := 22 }) (va_Pc [.ref (ad 0)] (fun U => U.heap.size = sz ∧ hpS U.heap = hz ∧ va_P (dC, dI) vwCl ws U.heap ∧ va_K (dC, dI) vwCl (t9 kc) U ∧ va_D (fun _ => True) ws ∧ nx U)) (va_Qv (fun (u : (Nat → Nat) × (Nat → Nat) × (Nat → Nat) × Nat × (Nat → Int32) × (Nat → Nat → Int32) × (Nat → Option Nat) × (Nat → Nat → Int32) × (Nat → Nat → Option Nat) × (Nat → Nat → Nat → Int32)) => True) (fun u t => ∃ w : va_W, va_P (dC, dI) vwCl w t.heap ∧ va_D (va_A ws sz) w ∧ Pic9 kc w ad ga gc M n f u.2.2.2.2.2.2.1 u.2.2.2.2.2.2.2.1 K F ∧ I9 M n u.2.2.2.2.2.2.1 gc u.2.2.2.2.2.2.2.1 K R ∧ hpS t.heap + (260 * M + 2 * S9 M gc) ≤ hz + (260 * M + 2 * S9 M gc) ∧ 16 * t.heap.size + (256 * M + S9 M gc) ≤ 16 * sz + (256 * M + S9 M gc)) (va_A ws sz)) 0 0 (va_A ws sz) := by
  refine Met.ofW (cc := cX9_fillThreads) (maxL := 3) (ret := none) (by decide) rfl ?_
  intro p e s m args below meth c s₁ B hml hv
  obtain ⟨rfl, hsz, rfl, hP, hK, hD0, hN⟩ := hv
  have hx := B.exec
  have hb := B.bytes
  have hr := B.returns
  have hts := atoms_spec (ws := .code yX9_fillThreads cX9_fillThreads 3 none :: gw) B.pre
  have hg : ∀ w ∈ gw, w.before _ s = true := fun w h => hts w (List.mem_cons_of_mem _ h)
  have hown : s.vm.findClass RX9 = some m.cls := findClass_of_methodNamed B.named
  have hlocks := B.notSynchronized
  subst hsz
  have hD := hD0.self (sz := s.heap.size)
  generalize hAe : va_A ws s.heap.size = A at hD ⊢
  have hA : ∀ q : Nat, s.heap.size ≤ q → A q := fun q h => by rw [← hAe]; exact Or.inr h
  clear hAe
  have hS : va_S A s.heap s.heap [] := va_S.rf
  have hl := lv_entry ([.ref (ad 0)]) (n := 3) (Nat.le_of_ble_eq_true rfl)
  rw [lg_entry_eq]
  generalize (lg_sl ([.ref (ad 0)]) ++ List.replicate (3 - (lg_sl ([.ref (ad 0)])).length) Slot.unset).toArray = ls at hl ⊢
  have hl : lv_has ls 3 [(0, .ref (ad 0))] := hl
  obtain ⟨h_i1, h_i2, h_i3, h_i4, h_i5, h_i6, h_i7, h_i8, h_i9⟩ := id hI
  have q1_ := h_i1
  unfold i1 at q1_
  refine lv_iconst (v := 0) hx hb dX9_fillThreads_0 (by decide) ?_
  refine lv_istore_n (lv' := [(1, .int 0), (0, .ref (ad 0))]) hx hb dX9_fillThreads_1 rfl hl (by decide) rfl (fun ls hl => ?_)
  have L2 : ∀ (fuel : Nat) (x_1 : Int32)   (ws_4 : va_W) (T_2 : Nat → Option Nat) (G_3 : Nat → Nat → Int32)  (H : Heap) (locs : List Loc) (ls : Array Slot), (201 - x_1.toInt).toNat < fuel → (0 ≤ x_1.toInt ∧ x_1.toInt ≤ 200) → Pic9 kc ws_4 ad ga gc M n f T_2 G_3 K F → I9 M n T_2 gc G_3 K R → va_P (dC, dI) vwCl ws_4 H → va_D A ws_4 → va_S A s.heap H locs → lv_has ls 3 [(1, .int x_1), (0, .ref (ad 0))] → W p l e (headSpec (.code yX9_fillThreads cX9_fillThreads 3 none :: gw) ({ frames := 1, cells := 0, slots := 0, locals := 22 })).room s m ([.ref (ad 0)] : List Value).toArray below meth c H locs 0 0 (MQ below (va_Qv (fun (u : (Nat → Nat) × (Nat → Nat) × (Nat → Nat) × Nat × (Nat → Int32) × (Nat → Nat → Int32) × (Nat → Option Nat) × (Nat → Nat → Int32) × (Nat → Nat → Option Nat) × (Nat → Nat → Nat → Int32)) => True) (fun u t => ∃ w : va_W, va_P (dC, dI) vwCl w t.heap ∧ va_D A w ∧ Pic9 kc w ad ga gc M n f u.2.2.2.2.2.2.1 u.2.2.2.2.2.2.2.1 K F ∧ I9 M n u.2.2.2.2.2.2.1 gc u.2.2.2.2.2.2.2.1 K R ∧ hpS t.heap + (260 * M + 2 * S9 M gc) ≤ (hpS s.heap) + (260 * M + 2 * S9 M gc) ∧ 16 * t.heap.size + (256 * M + S9 M gc) ≤ 16 * s.heap.size + (256 * M + S9 M gc)) A) ([.ref (ad 0)] : List Value).toArray s 0 0 A) (F0 m 2 ls []) := by
    intro fuel
    induction fuel with
    | zero => intro x_1 ws_4 T_2 G_3 H locs ls hm; exact absurd hm (Nat.not_lt_zero _)
    | succ fuel_9 ih_8 =>
      intro x_1 ws_4 T_2 G_3 H locs ls hm_5 v_6 hQ hI_7 hP hD hS hl
      obtain ⟨i1_10, i2_11, i3_12, i4_13, i5_14, i6_15, i7_16, i8_17, i9_18⟩ := id hI_7
      have q1_ := i1_10
      unfold i1 at q1_
      refine lv_iload_n hx hb dX9_fillThreads_2 rfl (lv_at hl 0 rfl) ?_
      refine lv_aload_n hx hb dX9_fillThreads_3 rfl (lv_at hl 1 rfl) ?_
      refine va_get (D := (dC, dI)) (ci := 9) (v := .int (n 0)) (C := RX9) (T := TX9) (N := 15) hx hb hg gb_9 hown hK hP 0 hQ.x0 rfl 5 (by decide) (hg _ gm_fieldLink_RX9_66_ErrandGuild_runCount_I_) (fun _ h9 => h9) rfl dX9_fillThreads_4 ?_
      refine lv_icmp_ge (tgt := 38) hx hb dX9_fillThreads_7 (by decide) (fun c_19 => ?_) (fun c_19 => ?_)
      · simp only [i_lt, i_le, i_eq] at c_19
        refine W_msr2 (fun hm1 hm2 hm3 => ?_)
        exact W.vret hx hb hr (fun t ht hW => ⟨⟨(ad, ga, gc, M, n, f, T_2, G_3, K, F), rfl, trivial, ws_4, by rw [ht]; exact hP, hD, hQ, ⟨i1_10, i2_11, i3_12, i4_13, i5_14, i6_15, i7_16, i8_17, i9_18⟩, by rw [ht]; show hpS H + (260 * M + 2 * S9 M gc) ≤ hpS s.heap + (260 * M + 2 * S9 M gc); omega, by rw [ht]; show 16 * H.size + (256 * M + S9 M gc) ≤ 16 * s.heap.size + (256 * M + S9 M gc); omega⟩, hS.F ht⟩) hS.2.2 dX9_fillThreads_38
      · simp only [i_lt, i_le, i_eq] at c_19
        refine lv_aload_n hx hb dX9_fillThreads_10 rfl (lv_at hl 1 rfl) ?_
        refine lv_iload_n hx hb dX9_fillThreads_11 rfl (lv_at hl 0 rfl) ?_
        have hFc := free_all hD hS hA
        refine va_callq (va_runV (As := [.int x_1]) (rest := []) ⟨hx, hb, hml, hown, hg⟩ (c_X9_runAt l dC dI kc ws_4 ad ga gc M n f T_2 G_3 K F R x_1 H.size (hpS H) hQ ⟨i1_10, i2_11, i3_12, i4_13, i5_14, i6_15, i7_16, i8_17, i9_18⟩) (cwV 1 hg (gw_V gm_methodLink_RX9_134_yX9_runAt gm_instanceMethod_yX9_runAt gm_selects_RX9_yX9_runAt_yX9_runAt gm_initialized_RX9 gm_code_yX9_runAt_cX9_runAt_2_some_object_ErrandGuild_Run_) rfl rfl rfl (by decide +kernel) ⟨Nat.le_of_ble_eq_true rfl, Nat.le_of_ble_eq_true rfl⟩) ⟨fun a U g mk q => by obtain ⟨q0, q1, q2, qP, qK, qD, qN⟩ := q; exact ⟨q0, q1, q2, qP, va_K.moved (u := U) (U := U.calling g mk a) (Vm.Alike.refl U.vm) qK, qD, nx_same (u := U) (U := U.calling g mk a) rfl qN⟩, va_recv hK hP (ci := 9) (q0 := 0) rfl hQ.x0, fun U hU hW => ⟨rfl, by rw [hU], by rw [hU], by rw [hU]; exact hP, va_K.moved hW.alike hK, hD.weaken (fun _ _ _ _ => trivial), nx_warm hW hN⟩⟩ rfl rfl hl.1 rfl (lv_room (Nat.le_of_ble_eq_true rfl)) dX9_fillThreads_12 ⟨Nat.le_of_ble_eq_true rfl, Nat.le_of_ble_eq_true rfl⟩) hS (fun q _ h => hFc q h) hFc (fun r_20 u_21 t H1 locs ht hvm hw hB hz1 hk1 hS => ?_)
        obtain ⟨hP, hD, hy1, hy2⟩ := hB
        rw [ht] at hP hy1 hy2
        have hD := hD.weaken (fun k q _ h => hFc _ h)
        have q1_ := i1_10
        unfold i1 at q1_
        generalize H1 = H at hP hS ⊢
        rcases hw with ⟨rfl, w_22⟩ | ⟨rfl, w_22⟩
        · have w_22 : (0 ≤ x_1.toInt ∧ x_1.toInt < (n 0).toInt) := w_22
          have hl_23 : x_1.toInt.toNat < M := by omega
          refine W.eq (g2 := F0 m 15 ls [.ref (ad (50 + 16 * x_1.toInt.toNat))]) rfl ?_
          refine lv_astore_n (lv' := [(2, .ref (ad (50 + 16 * x_1.toInt.toNat))), (1, .int x_1), (0, .ref (ad 0))]) hx hb dX9_fillThreads_15 rfl hl (by decide) rfl (fun ls hl => ?_)
          refine lv_aload_n hx hb dX9_fillThreads_16 rfl (lv_at hl 0 rfl) ?_
          refine lv_ifnull hx hb dX9_fillThreads_17 ?_
          refine lv_aload_n hx hb dX9_fillThreads_20 rfl (lv_at hl 0 rfl) ?_
          refine va_get (D := (dC, dI)) (ci := 7) (v := .int (G_3 x_1.toInt.toNat 2)) (C := RX7) (T := TX7) (N := 15) hx hb hg gb_7 hown hK hP (50 + 16 * x_1.toInt.toNat) (hQ.b0 hl_23) rfl 2 (by decide) (hg _ gm_fieldLink_RX9_145_ErrandGuild_Run_state_I_) (fun _ h9 => h9) rfl dX9_fillThreads_21 ?_
          refine lv_if_ne (tgt := 32) hx hb dX9_fillThreads_24 (by decide) (fun c_24 => ?_) (fun c_24 => ?_)
          · simp only [i_lt, i_le, i_eq, ti_0] at c_24
            obtain ⟨y_25, ey_25⟩ : ∃ q : Int32, q = x_1 + (1) := ⟨_, rfl⟩
            refine lv_iinc (v := y_25) (lv' := [(1, .int y_25), (2, .ref (ad (50 + 16 * x_1.toInt.toNat))), (0, .ref (ad 0))]) hx hb dX9_fillThreads_32 hl (k := 1) rfl (by rw [ey_25]; rfl) (by decide) rfl (fun ls hl => ?_)
            have ty_25 : y_25.toInt = x_1.toInt + (1) := ar_add rfl ti_1 ey_25 (by omega)
            refine lv_goto (tgt := 2) hx hb dX9_fillThreads_35 (by decide) ?_
            exact ih_8 y_25   ws_4 T_2 G_3  H locs ls (by show (201 - y_25.toInt).toNat < _; omega) (by show 0 ≤ y_25.toInt ∧ y_25.toInt ≤ 200; omega) hQ ⟨i1_10, i2_11, i3_12, i4_13, i5_14, i6_15, i7_16, i8_17, i9_18⟩ hP hD hS (lv_sub hl [0, 2] rfl)
          · simp only [i_lt, i_le, i_eq, ti_0] at c_24
            refine lv_aload_n hx hb dX9_fillThreads_27 rfl (lv_at hl 2 rfl) ?_
            refine lv_aload_n hx hb dX9_fillThreads_28 rfl (lv_at hl 0 rfl) ?_
            have hFc := free_all hD hS hA
            refine va_callv (va_runV (As := [.ref (ad (50 + 16 * x_1.toInt.toNat))]) (rest := []) ⟨hx, hb, hml, hown, hg⟩ (c_X9_comeToThread l dC dI kc ws_4 ad ga gc M n f T_2 G_3 K F R x_1.toInt.toNat H.size (hpS H) hQ ⟨i1_10, i2_11, i3_12, i4_13, i5_14, i6_15, i7_16, i8_17, i9_18⟩ (by show x_1.toInt.toNat < M; omega)) (cwV 1 hg (gw_V gm_methodLink_RX9_282_yX9_comeToThread gm_instanceMethod_yX9_comeToThread gm_selects_RX9_yX9_comeToThread_yX9_comeToThread gm_initialized_RX9 gm_code_yX9_comeToThread_cX9_comeToThread_3_none) rfl rfl rfl (by decide +kernel) ⟨Nat.le_of_ble_eq_true rfl, Nat.le_of_ble_eq_true rfl⟩) ⟨fun a U g mk q => by obtain ⟨q0, q1, q2, qP, qK, qD, qN⟩ := q; exact ⟨q0, q1, q2, qP, va_K.moved (u := U) (U := U.calling g mk a) (Vm.Alike.refl U.vm) qK, qD, nx_same (u := U) (U := U.calling g mk a) rfl qN⟩, va_recv hK hP (ci := 9) (q0 := 0) rfl hQ.x0, fun U hU hW => ⟨rfl, by rw [hU], by rw [hU], by rw [hU]; exact hP, va_K.moved hW.alike hK, hD.weaken (fun _ _ _ _ => trivial), nx_warm hW hN⟩⟩ rfl rfl hl.1 rfl (lv_room (Nat.le_of_ble_eq_true rfl)) dX9_fillThreads_29 ⟨Nat.le_of_ble_eq_true rfl, Nat.le_of_ble_eq_true rfl⟩) hS (fun q _ h => hFc q h) hFc (fun u_27 t H1 locs ht hvm hw hB hz1 hk1 hS => ?_)
            obtain ⟨ad_28, ga_29, gc_30, M_31, n_32, f_33, T_34, G_35, K_36, F_37⟩ := u_27
            have hB : ∃ w : va_W, va_P (dC, dI) vwCl w t.heap ∧ va_D (va_A ws_4 H.size) w ∧ Pic9 kc w ad ga gc M n f T_34 G_35 K F ∧ I9 M n T_34 gc G_35 K R ∧ hpS t.heap + (260 * M + 2 * S9 M gc) ≤ hpS H + (260 * M + 2 * S9 M gc) ∧ 16 * t.heap.size + (256 * M + S9 M gc) ≤ 16 * H.size + (256 * M + S9 M gc) := hB
            rw [ht] at hB
            obtain ⟨ws_38, hP, hD, hQ, hI_39, hy1, hy2⟩ := hB
            have hD := hD.weaken (fun k q _ h => hFc _ h)
            obtain ⟨i1_40, i2_41, i3_42, i4_43, i5_44, i6_45, i7_46, i8_47, i9_48⟩ := id hI_39
            have q1_ := i1_40
            unfold i1 at q1_
            generalize H1 = H at hP hS ⊢
            obtain ⟨y_49, ey_49⟩ : ∃ q : Int32, q = x_1 + (1) := ⟨_, rfl⟩
            refine lv_iinc (v := y_49) (lv' := [(1, .int y_49), (2, .ref (ad (50 + 16 * x_1.toInt.toNat))), (0, .ref (ad 0))]) hx hb dX9_fillThreads_32 hl (k := 1) rfl (by rw [ey_49]; rfl) (by decide) rfl (fun ls hl => ?_)
            have ty_49 : y_49.toInt = x_1.toInt + (1) := ar_add rfl ti_1 ey_49 (by omega)
            refine lv_goto (tgt := 2) hx hb dX9_fillThreads_35 (by decide) ?_
            exact ih_8 y_49   ws_38 T_34 G_35  H locs ls (by show (201 - y_49.toInt).toNat < _; omega) (by show 0 ≤ y_49.toInt ∧ y_49.toInt ≤ 200; omega) hQ ⟨i1_40, i2_41, i3_42, i4_43, i5_44, i6_45, i7_46, i8_47, i9_48⟩ hP hD hS (lv_sub hl [0, 2] rfl)
        · have w_22 : ¬ (0 ≤ x_1.toInt ∧ x_1.toInt < (n 0).toInt) := w_22
          refine W.eq (g2 := F0 m 15 ls [.null]) rfl ?_
          refine lv_astore_nN (lv' := [(2, .null), (1, .int x_1), (0, .ref (ad 0))]) hx hb dX9_fillThreads_15 rfl hl (by decide) rfl (fun ls hl => ?_)
          refine lv_aload_nN hx hb dX9_fillThreads_16 rfl (lv_at hl 0 rfl) ?_
          refine lv_ifnullN (tgt := 32) hx hb dX9_fillThreads_17 (by decide) ?_
          obtain ⟨y_50, ey_50⟩ : ∃ q : Int32, q = x_1 + (1) := ⟨_, rfl⟩
          refine lv_iinc (v := y_50) (lv' := [(1, .int y_50), (2, .null), (0, .ref (ad 0))]) hx hb dX9_fillThreads_32 hl (k := 1) rfl (by rw [ey_50]; rfl) (by decide) rfl (fun ls hl => ?_)
          have ty_50 : y_50.toInt = x_1.toInt + (1) := ar_add rfl ti_1 ey_50 (by omega)
          refine lv_goto (tgt := 2) hx hb dX9_fillThreads_35 (by decide) ?_
          exact ih_8 y_50   ws_4 T_2 G_3  H locs ls (by show (201 - y_50.toInt).toNat < _; omega) (by show 0 ≤ y_50.toInt ∧ y_50.toInt ≤ 200; omega) hQ ⟨i1_10, i2_11, i3_12, i4_13, i5_14, i6_15, i7_16, i8_17, i9_18⟩ hP hD hS (lv_sub hl [0, 2] rfl)
  exact L2 _ (0 : Int32)   ws T G  _ _ _ (Nat.lt_succ_self _) (by have t_0 := ti_0; show 0 ≤ (0 : Int32).toInt ∧ (0 : Int32).toInt ≤ 200; omega) hQ ⟨h_i1, h_i2, h_i3, h_i4, h_i5, h_i6, h_i7, h_i8, h_i9⟩ hP hD hS (lv_sub hl [0, 1] rfl)

set_option maxHeartbeats 8000000 in
set_option maxRecDepth 100000 in
theorem c_X9_wakeWaiting (l : Launch) (dC : Nat → ClassId) (dI : Nat → Nat → Nat) (kc : Nat → ClassId) (ws : va_W) (ad : Nat → Nat) (ga : Nat → Nat) (gc : Nat → Nat) (M : Nat) (n : Nat → Int32) (f : Nat → Nat → Int32) (T : Nat → Option Nat) (G : Nat → Nat → Int32) (K : Nat → Nat → Option Nat) (F : Nat → Nat → Nat → Int32) (R : Nat) (sz hz : Nat) (hQ : Pic9 kc ws ad ga gc M n f T G K F) (hI : I9 M n T gc G K R) : Met l yX9_wakeWaiting (.code yX9_wakeWaiting cX9_wakeWaiting 3 none :: gw) ({ frames := 2, cells := 0, slots := 0, locals := 41 }) (va_Pc [.ref (ad 0)] (fun U => U.heap.size = sz ∧ hpS U.heap = hz ∧ va_P (dC, dI) vwCl ws U.heap ∧ va_K (dC, dI) vwCl (t9 kc) U ∧ va_D (fun _ => True) ws ∧ nx U)) (va_Qv (fun (u : (Nat → Nat) × (Nat → Nat) × (Nat → Nat) × Nat × (Nat → Int32) × (Nat → Nat → Int32) × (Nat → Option Nat) × (Nat → Nat → Int32) × (Nat → Nat → Option Nat) × (Nat → Nat → Nat → Int32)) => True) (fun u t => ∃ w : va_W, va_P (dC, dI) vwCl w t.heap ∧ va_D (va_A ws sz) w ∧ Pic9 kc w ad ga gc M n f T u.2.2.2.2.2.2.2.1 K F ∧ I9 M n T gc u.2.2.2.2.2.2.2.1 K R ∧ hpS t.heap + (260 * M + 2 * S9 M gc) ≤ hz + (260 * M + 2 * S9 M gc) ∧ 16 * t.heap.size + (256 * M + S9 M gc) ≤ 16 * sz + (256 * M + S9 M gc)) (va_A ws sz)) 0 0 (va_A ws sz) := by
  refine Met.ofW (cc := cX9_wakeWaiting) (maxL := 3) (ret := none) (by decide) rfl ?_
  intro p e s m args below meth c s₁ B hml hv
  obtain ⟨rfl, hsz, rfl, hP, hK, hD0, hN⟩ := hv
  have hx := B.exec
  have hb := B.bytes
  have hr := B.returns
  have hts := atoms_spec (ws := .code yX9_wakeWaiting cX9_wakeWaiting 3 none :: gw) B.pre
  have hg : ∀ w ∈ gw, w.before _ s = true := fun w h => hts w (List.mem_cons_of_mem _ h)
  have hown : s.vm.findClass RX9 = some m.cls := findClass_of_methodNamed B.named
  have hlocks := B.notSynchronized
  subst hsz
  have hD := hD0.self (sz := s.heap.size)
  generalize hAe : va_A ws s.heap.size = A at hD ⊢
  have hA : ∀ q : Nat, s.heap.size ≤ q → A q := fun q h => by rw [← hAe]; exact Or.inr h
  clear hAe
  have hS : va_S A s.heap s.heap [] := va_S.rf
  have hl := lv_entry ([.ref (ad 0)]) (n := 3) (Nat.le_of_ble_eq_true rfl)
  rw [lg_entry_eq]
  generalize (lg_sl ([.ref (ad 0)]) ++ List.replicate (3 - (lg_sl ([.ref (ad 0)])).length) Slot.unset).toArray = ls at hl ⊢
  have hl : lv_has ls 3 [(0, .ref (ad 0))] := hl
  obtain ⟨h_i1, h_i2, h_i3, h_i4, h_i5, h_i6, h_i7, h_i8, h_i9⟩ := id hI
  have q1_ := h_i1
  unfold i1 at q1_
  refine lv_iconst (v := 0) hx hb dX9_wakeWaiting_0 (by decide) ?_
  refine lv_istore_n (lv' := [(1, .int 0), (0, .ref (ad 0))]) hx hb dX9_wakeWaiting_1 rfl hl (by decide) rfl (fun ls hl => ?_)
  have L2 : ∀ (fuel : Nat) (x_1 : Int32)   (ws_3 : va_W) (G_2 : Nat → Nat → Int32)  (H : Heap) (locs : List Loc) (ls : Array Slot), (201 - x_1.toInt).toNat < fuel → (0 ≤ x_1.toInt ∧ x_1.toInt ≤ 200) → Pic9 kc ws_3 ad ga gc M n f T G_2 K F → I9 M n T gc G_2 K R → va_P (dC, dI) vwCl ws_3 H → va_D A ws_3 → va_S A s.heap H locs → lv_has ls 3 [(1, .int x_1), (0, .ref (ad 0))] → W p l e (headSpec (.code yX9_wakeWaiting cX9_wakeWaiting 3 none :: gw) ({ frames := 2, cells := 0, slots := 0, locals := 41 })).room s m ([.ref (ad 0)] : List Value).toArray below meth c H locs 0 0 (MQ below (va_Qv (fun (u : (Nat → Nat) × (Nat → Nat) × (Nat → Nat) × Nat × (Nat → Int32) × (Nat → Nat → Int32) × (Nat → Option Nat) × (Nat → Nat → Int32) × (Nat → Nat → Option Nat) × (Nat → Nat → Nat → Int32)) => True) (fun u t => ∃ w : va_W, va_P (dC, dI) vwCl w t.heap ∧ va_D A w ∧ Pic9 kc w ad ga gc M n f T u.2.2.2.2.2.2.2.1 K F ∧ I9 M n T gc u.2.2.2.2.2.2.2.1 K R ∧ hpS t.heap + (260 * M + 2 * S9 M gc) ≤ (hpS s.heap) + (260 * M + 2 * S9 M gc) ∧ 16 * t.heap.size + (256 * M + S9 M gc) ≤ 16 * s.heap.size + (256 * M + S9 M gc)) A) ([.ref (ad 0)] : List Value).toArray s 0 0 A) (F0 m 2 ls []) := by
    intro fuel
    induction fuel with
    | zero => intro x_1 ws_3 G_2 H locs ls hm; exact absurd hm (Nat.not_lt_zero _)
    | succ fuel_8 ih_7 =>
      intro x_1 ws_3 G_2 H locs ls hm_4 v_5 hQ hI_6 hP hD hS hl
      obtain ⟨i1_9, i2_10, i3_11, i4_12, i5_13, i6_14, i7_15, i8_16, i9_17⟩ := id hI_6
      have q1_ := i1_9
      unfold i1 at q1_
      refine lv_iload_n hx hb dX9_wakeWaiting_2 rfl (lv_at hl 0 rfl) ?_
      refine lv_aload_n hx hb dX9_wakeWaiting_3 rfl (lv_at hl 1 rfl) ?_
      refine va_get (D := (dC, dI)) (ci := 9) (v := .int (n 0)) (C := RX9) (T := TX9) (N := 15) hx hb hg gb_9 hown hK hP 0 hQ.x0 rfl 5 (by decide) (hg _ gm_fieldLink_RX9_66_ErrandGuild_runCount_I_) (fun _ h9 => h9) rfl dX9_wakeWaiting_4 ?_
      refine lv_icmp_ge (tgt := 51) hx hb dX9_wakeWaiting_7 (by decide) (fun c_18 => ?_) (fun c_18 => ?_)
      · simp only [i_lt, i_le, i_eq] at c_18
        refine W_msr2 (fun hm1 hm2 hm3 => ?_)
        exact W.vret hx hb hr (fun t ht hW => ⟨⟨(ad, ga, gc, M, n, f, T, G_2, K, F), rfl, trivial, ws_3, by rw [ht]; exact hP, hD, hQ, ⟨i1_9, i2_10, i3_11, i4_12, i5_13, i6_14, i7_15, i8_16, i9_17⟩, by rw [ht]; show hpS H + (260 * M + 2 * S9 M gc) ≤ hpS s.heap + (260 * M + 2 * S9 M gc); omega, by rw [ht]; show 16 * H.size + (256 * M + S9 M gc) ≤ 16 * s.heap.size + (256 * M + S9 M gc); omega⟩, hS.F ht⟩) hS.2.2 dX9_wakeWaiting_51
      · simp only [i_lt, i_le, i_eq] at c_18
        refine lv_aload_n hx hb dX9_wakeWaiting_10 rfl (lv_at hl 1 rfl) ?_
        refine lv_iload_n hx hb dX9_wakeWaiting_11 rfl (lv_at hl 0 rfl) ?_
        have hFc := free_all hD hS hA
        refine va_callq (va_runV (As := [.int x_1]) (rest := []) ⟨hx, hb, hml, hown, hg⟩ (c_X9_runAt l dC dI kc ws_3 ad ga gc M n f T G_2 K F R x_1 H.size (hpS H) hQ ⟨i1_9, i2_10, i3_11, i4_12, i5_13, i6_14, i7_15, i8_16, i9_17⟩) (cwV 1 hg (gw_V gm_methodLink_RX9_134_yX9_runAt gm_instanceMethod_yX9_runAt gm_selects_RX9_yX9_runAt_yX9_runAt gm_initialized_RX9 gm_code_yX9_runAt_cX9_runAt_2_some_object_ErrandGuild_Run_) rfl rfl rfl (by decide +kernel) ⟨Nat.le_of_ble_eq_true rfl, Nat.le_of_ble_eq_true rfl⟩) ⟨fun a U g mk q => by obtain ⟨q0, q1, q2, qP, qK, qD, qN⟩ := q; exact ⟨q0, q1, q2, qP, va_K.moved (u := U) (U := U.calling g mk a) (Vm.Alike.refl U.vm) qK, qD, nx_same (u := U) (U := U.calling g mk a) rfl qN⟩, va_recv hK hP (ci := 9) (q0 := 0) rfl hQ.x0, fun U hU hW => ⟨rfl, by rw [hU], by rw [hU], by rw [hU]; exact hP, va_K.moved hW.alike hK, hD.weaken (fun _ _ _ _ => trivial), nx_warm hW hN⟩⟩ rfl rfl hl.1 rfl (lv_room (Nat.le_of_ble_eq_true rfl)) dX9_wakeWaiting_12 ⟨Nat.le_of_ble_eq_true rfl, Nat.le_of_ble_eq_true rfl⟩) hS (fun q _ h => hFc q h) hFc (fun r_19 u_20 t H1 locs ht hvm hw hB hz1 hk1 hS => ?_)
        obtain ⟨hP, hD, hy1, hy2⟩ := hB
        rw [ht] at hP hy1 hy2
        have hD := hD.weaken (fun k q _ h => hFc _ h)
        have q1_ := i1_9
        unfold i1 at q1_
        generalize H1 = H at hP hS ⊢
        rcases hw with ⟨rfl, w_21⟩ | ⟨rfl, w_21⟩
        · have w_21 : (0 ≤ x_1.toInt ∧ x_1.toInt < (n 0).toInt) := w_21
          have hl_22 : x_1.toInt.toNat < M := by omega
          refine W.eq (g2 := F0 m 15 ls [.ref (ad (50 + 16 * x_1.toInt.toNat))]) rfl ?_
          refine lv_astore_n (lv' := [(2, .ref (ad (50 + 16 * x_1.toInt.toNat))), (1, .int x_1), (0, .ref (ad 0))]) hx hb dX9_wakeWaiting_15 rfl hl (by decide) rfl (fun ls hl => ?_)
          refine lv_aload_n hx hb dX9_wakeWaiting_16 rfl (lv_at hl 0 rfl) ?_
          refine lv_ifnull hx hb dX9_wakeWaiting_17 ?_
          refine lv_aload_n hx hb dX9_wakeWaiting_20 rfl (lv_at hl 0 rfl) ?_
          refine va_get (D := (dC, dI)) (ci := 7) (v := .int (G_2 x_1.toInt.toNat 2)) (C := RX7) (T := TX7) (N := 15) hx hb hg gb_7 hown hK hP (50 + 16 * x_1.toInt.toNat) (hQ.b0 hl_22) rfl 2 (by decide) (hg _ gm_fieldLink_RX9_145_ErrandGuild_Run_state_I_) (fun _ h9 => h9) rfl dX9_wakeWaiting_21 ?_
          refine lv_iconst (v := 2) hx hb dX9_wakeWaiting_24 (by decide) ?_
          refine lv_icmp_ne (tgt := 45) hx hb dX9_wakeWaiting_25 (by decide) (fun c_23 => ?_) (fun c_23 => ?_)
          · simp only [i_lt, i_le, i_eq, ti_2] at c_23
            obtain ⟨y_24, ey_24⟩ : ∃ q : Int32, q = x_1 + (1) := ⟨_, rfl⟩
            refine lv_iinc (v := y_24) (lv' := [(1, .int y_24), (2, .ref (ad (50 + 16 * x_1.toInt.toNat))), (0, .ref (ad 0))]) hx hb dX9_wakeWaiting_45 hl (k := 1) rfl (by rw [ey_24]; rfl) (by decide) rfl (fun ls hl => ?_)
            have ty_24 : y_24.toInt = x_1.toInt + (1) := ar_add rfl ti_1 ey_24 (by omega)
            refine lv_goto (tgt := 2) hx hb dX9_wakeWaiting_48 (by decide) ?_
            exact ih_7 y_24   ws_3 G_2  H locs ls (by show (201 - y_24.toInt).toNat < _; omega) (by show 0 ≤ y_24.toInt ∧ y_24.toInt ≤ 200; omega) hQ ⟨i1_9, i2_10, i3_11, i4_12, i5_13, i6_14, i7_15, i8_16, i9_17⟩ hP hD hS (lv_sub hl [0, 2] rfl)
          · simp only [i_lt, i_le, i_eq, ti_2] at c_23
            refine lv_aload_n hx hb dX9_wakeWaiting_28 rfl (lv_at hl 0 rfl) ?_
            have hFc := free_all hD hS hA
            refine va_calli (va_runS (As := [.ref (ad (50 + 16 * x_1.toInt.toNat))]) (rest := []) ⟨hx, hb, hml, hown, hg⟩ (c_X9_areAwaitedOver l dC dI kc ws_3 ad ga gc M n f T G_2 K F R x_1.toInt.toNat H.size (hpS H) hQ ⟨i1_9, i2_10, i3_11, i4_12, i5_13, i6_14, i7_15, i8_16, i9_17⟩ (by show x_1.toInt.toNat < M; omega)) (va_cwS 1 hg (gw_S gm_methodLink_RX9_303_yX9_areAwaitedOver gm_static_yX9_areAwaitedOver gm_initialized_RX9 gm_code_yX9_areAwaitedOver_cX9_areAwaitedOver_2_some_boolean_) rfl rfl rfl (by decide +kernel) ⟨Nat.le_of_ble_eq_true rfl, Nat.le_of_ble_eq_true rfl⟩) ⟨fun a U g mk q => by obtain ⟨q0, q1, q2, qP, qK, qD, qN⟩ := q; exact ⟨q0, q1, q2, qP, va_K.moved (u := U) (U := U.calling g mk a) (Vm.Alike.refl U.vm) qK, qD, nx_same (u := U) (U := U.calling g mk a) rfl qN⟩, fun U hU hW => ⟨rfl, by rw [hU], by rw [hU], by rw [hU]; exact hP, va_K.moved hW.alike hK, hD.weaken (fun _ _ _ _ => trivial), nx_warm hW hN⟩⟩ rfl rfl hl.1 rfl (lv_room (Nat.le_of_ble_eq_true rfl)) dX9_wakeWaiting_29 ⟨Nat.le_of_ble_eq_true rfl, Nat.le_of_ble_eq_true rfl⟩) hS (fun q _ h => hFc q h) hFc (fun r_25 u_26 t H1 locs ht hvm hw hB hz1 hk1 hS => ?_)
            obtain ⟨hP, hD, hy1, hy2⟩ := hB
            rw [ht] at hP hy1 hy2
            have hD := hD.weaken (fun k q _ h => hFc _ h)
            have q1_ := i1_9
            unfold i1 at q1_
            generalize H1 = H at hP hS ⊢
            rcases hw with ⟨rfl, w_27⟩ | ⟨rfl, w_27⟩
            · refine lv_if_eq (tgt := 45) hx hb dX9_wakeWaiting_32 (by decide) (fun c_28 => absurd c_28 (by decide)) (fun _ => ?_)
              refine lv_aload_n hx hb dX9_wakeWaiting_35 rfl (lv_at hl 0 rfl) ?_
              refine lv_iconst (v := 0) hx hb dX9_wakeWaiting_36 (by decide) ?_
              refine va_put (D := (dC, dI)) (ci := 7) (v := .int (0)) (ty := .int) (C := RX7) (T := TX7) (N := 15) hx hb hg gb_7 tyX7 tyX7_ok nmX7 hown hK hP hD hS (50 + 16 * x_1.toInt.toNat) (hQ.b0 hl_22) rfl 2 (by decide) (hg _ gm_fieldLink_RX9_145_ErrandGuild_Run_state_I_) (fun _ h9 => h9) rfl (by decide +kernel) rfl rfl (Nat.le_of_ble_eq_true rfl) dX9_wakeWaiting_37 (fun H locs hP hD hS => ?_)
              obtain ⟨ws_30, G_29, eG_29, hP, hD, hQ⟩ : ∃ (ws_30 : va_W) (G_29 : Nat → Nat → Int32), G_29 = u2 G_2 x_1.toInt.toNat 2 0 ∧ va_P (dC, dI) vwCl ws_30 H ∧ va_D A ws_30 ∧ Pic9 kc ws_30 ad ga gc M n f T G_29 K F := ⟨_, _, rfl, hP, hD, hQ.run hl_22 2 (by decide) 0⟩
              have i6_31 : i6 n T G_29 := by rw [eG_29]; exact (i6.pG i6_14 x_1.toInt.toNat _ (by decide))
              have i7_32 : i7 n G_29 := by rw [eG_29]; exact (i7.st i7_15 x_1.toInt.toNat (by decide))
              have i8_33 : i8 M n gc G_29 := by rw [eG_29]; exact (i8.pG i8_16 x_1.toInt.toNat _ (by decide))
              have i9_34 : i9 M gc G_29 R := by rw [eG_29]; exact (i9.pG i9_17 x_1.toInt.toNat _ (by decide))
              have eg_35 : G_29 x_1.toInt.toNat 2 = 0 := by rw [eG_29, u2_eq]
              refine lv_aload_n hx hb dX9_wakeWaiting_40 rfl (lv_at hl 0 rfl) ?_
              refine lv_iconst (v := 1) hx hb dX9_wakeWaiting_41 (by decide) ?_
              refine va_put (D := (dC, dI)) (ci := 7) (v := .int (1)) (ty := .boolean) (C := RX7) (T := TX7) (N := 15) hx hb hg gb_7 tyX7 tyX7_ok nmX7 hown hK hP hD hS (50 + 16 * x_1.toInt.toNat) (hQ.b0 hl_22) rfl 9 (by decide) (hg _ gm_fieldLink_RX9_289_ErrandGuild_Run_returning_Z_) (fun _ h9 => h9) rfl (by decide +kernel) rfl rfl (Nat.le_of_ble_eq_true rfl) dX9_wakeWaiting_42 (fun H locs hP hD hS => ?_)
              obtain ⟨ws_37, G_36, eG_36, hP, hD, hQ⟩ : ∃ (ws_37 : va_W) (G_36 : Nat → Nat → Int32), G_36 = u2 G_29 x_1.toInt.toNat 9 1 ∧ va_P (dC, dI) vwCl ws_37 H ∧ va_D A ws_37 ∧ Pic9 kc ws_37 ad ga gc M n f T G_36 K F := ⟨_, _, rfl, hP, hD, hQ.run hl_22 9 (by decide) 1⟩
              have i6_38 : i6 n T G_36 := by rw [eG_36]; exact (i6.pG i6_31 x_1.toInt.toNat _ (by decide))
              have i7_39 : i7 n G_36 := by rw [eG_36]; exact (i7.pG i7_32 x_1.toInt.toNat _ (by decide))
              have i8_40 : i8 M n gc G_36 := by rw [eG_36]; exact (i8.pG i8_33 x_1.toInt.toNat _ (by decide))
              have i9_41 : i9 M gc G_36 R := by rw [eG_36]; exact (i9.pG i9_34 x_1.toInt.toNat _ (by decide))
              have eg_42 : G_36 x_1.toInt.toNat 9 = 1 := by rw [eG_36, u2_eq]
              obtain ⟨y_43, ey_43⟩ : ∃ q : Int32, q = x_1 + (1) := ⟨_, rfl⟩
              refine lv_iinc (v := y_43) (lv' := [(1, .int y_43), (2, .ref (ad (50 + 16 * x_1.toInt.toNat))), (0, .ref (ad 0))]) hx hb dX9_wakeWaiting_45 hl (k := 1) rfl (by rw [ey_43]; rfl) (by decide) rfl (fun ls hl => ?_)
              have ty_43 : y_43.toInt = x_1.toInt + (1) := ar_add rfl ti_1 ey_43 (by omega)
              refine lv_goto (tgt := 2) hx hb dX9_wakeWaiting_48 (by decide) ?_
              exact ih_7 y_43   ws_37 G_36  H locs ls (by show (201 - y_43.toInt).toNat < _; omega) (by show 0 ≤ y_43.toInt ∧ y_43.toInt ≤ 200; omega) hQ ⟨i1_9, i2_10, i3_11, i4_12, i5_13, i6_38, i7_39, i8_40, i9_41⟩ hP hD hS (lv_sub hl [0, 2] rfl)
            · refine lv_if_eq (tgt := 45) hx hb dX9_wakeWaiting_32 (by decide) (fun _ => ?_) (fun c_44 => absurd c_44 (by decide))
              obtain ⟨y_45, ey_45⟩ : ∃ q : Int32, q = x_1 + (1) := ⟨_, rfl⟩
              refine lv_iinc (v := y_45) (lv' := [(1, .int y_45), (2, .ref (ad (50 + 16 * x_1.toInt.toNat))), (0, .ref (ad 0))]) hx hb dX9_wakeWaiting_45 hl (k := 1) rfl (by rw [ey_45]; rfl) (by decide) rfl (fun ls hl => ?_)
              have ty_45 : y_45.toInt = x_1.toInt + (1) := ar_add rfl ti_1 ey_45 (by omega)
              refine lv_goto (tgt := 2) hx hb dX9_wakeWaiting_48 (by decide) ?_
              exact ih_7 y_45   ws_3 G_2  H locs ls (by show (201 - y_45.toInt).toNat < _; omega) (by show 0 ≤ y_45.toInt ∧ y_45.toInt ≤ 200; omega) hQ ⟨i1_9, i2_10, i3_11, i4_12, i5_13, i6_14, i7_15, i8_16, i9_17⟩ hP hD hS (lv_sub hl [0, 2] rfl)
        · have w_21 : ¬ (0 ≤ x_1.toInt ∧ x_1.toInt < (n 0).toInt) := w_21
          refine W.eq (g2 := F0 m 15 ls [.null]) rfl ?_
          refine lv_astore_nN (lv' := [(2, .null), (1, .int x_1), (0, .ref (ad 0))]) hx hb dX9_wakeWaiting_15 rfl hl (by decide) rfl (fun ls hl => ?_)
          refine lv_aload_nN hx hb dX9_wakeWaiting_16 rfl (lv_at hl 0 rfl) ?_
          refine lv_ifnullN (tgt := 45) hx hb dX9_wakeWaiting_17 (by decide) ?_
          obtain ⟨y_46, ey_46⟩ : ∃ q : Int32, q = x_1 + (1) := ⟨_, rfl⟩
          refine lv_iinc (v := y_46) (lv' := [(1, .int y_46), (2, .null), (0, .ref (ad 0))]) hx hb dX9_wakeWaiting_45 hl (k := 1) rfl (by rw [ey_46]; rfl) (by decide) rfl (fun ls hl => ?_)
          have ty_46 : y_46.toInt = x_1.toInt + (1) := ar_add rfl ti_1 ey_46 (by omega)
          refine lv_goto (tgt := 2) hx hb dX9_wakeWaiting_48 (by decide) ?_
          exact ih_7 y_46   ws_3 G_2  H locs ls (by show (201 - y_46.toInt).toNat < _; omega) (by show 0 ≤ y_46.toInt ∧ y_46.toInt ≤ 200; omega) hQ ⟨i1_9, i2_10, i3_11, i4_12, i5_13, i6_14, i7_15, i8_16, i9_17⟩ hP hD hS (lv_sub hl [0, 2] rfl)
  exact L2 _ (0 : Int32)   ws G  _ _ _ (Nat.lt_succ_self _) (by have t_0 := ti_0; show 0 ≤ (0 : Int32).toInt ∧ (0 : Int32).toInt ≤ 200; omega) hQ ⟨h_i1, h_i2, h_i3, h_i4, h_i5, h_i6, h_i7, h_i8, h_i9⟩ hP hD hS (lv_sub hl [0, 1] rfl)

set_option maxHeartbeats 8000000 in
set_option maxRecDepth 100000 in
theorem c_X9_noticeInterrupt (l : Launch) (dC : Nat → ClassId) (dI : Nat → Nat → Nat) (kc : Nat → ClassId) (ws : va_W) (ad : Nat → Nat) (ga : Nat → Nat) (gc : Nat → Nat) (M : Nat) (n : Nat → Int32) (f : Nat → Nat → Int32) (T : Nat → Option Nat) (G : Nat → Nat → Int32) (K : Nat → Nat → Option Nat) (F : Nat → Nat → Nat → Int32) (R : Nat) (i : Nat) (sz hz : Nat) (hQ : Pic9 kc ws ad ga gc M n f T G K F) (hI : I9 M n T gc G K R) (hi : i < M) : Met l yX9_noticeInterrupt (.code yX9_noticeInterrupt cX9_noticeInterrupt 1 (some .int) :: gw) ({ frames := 1, cells := 0, slots := 0, locals := 21 }) (va_Pc [.ref (ad (50 + 16 * i))] (fun U => U.heap.size = sz ∧ hpS U.heap = hz ∧ va_P (dC, dI) vwCl ws U.heap ∧ va_K (dC, dI) vwCl (t9 kc) U ∧ va_D (fun _ => True) ws ∧ nx U)) (va_Qi (fun (r : Int32) (u : (Nat → Nat) × (Nat → Nat) × (Nat → Nat) × Nat × (Nat → Int32) × (Nat → Nat → Int32) × (Nat → Option Nat) × (Nat → Nat → Int32) × (Nat → Nat → Option Nat) × (Nat → Nat → Nat → Int32)) => True) (fun u t => ∃ w : va_W, va_P (dC, dI) vwCl w t.heap ∧ va_D (va_A ws sz) w ∧ Pic9 kc w ad ga gc M n f T u.2.2.2.2.2.2.2.1 K F ∧ I9 M n T gc u.2.2.2.2.2.2.2.1 K R ∧ hpS t.heap + (260 * M + 2 * S9 M gc) ≤ hz + (260 * M + 2 * S9 M gc) ∧ 16 * t.heap.size + (256 * M + S9 M gc) ≤ 16 * sz + (256 * M + S9 M gc)) (va_A ws sz)) 0 0 (va_A ws sz) := by
  refine Met.ofW (cc := cX9_noticeInterrupt) (maxL := 1) (ret := (some .int)) (by decide) rfl ?_
  intro p e s m args below meth c s₁ B hml hv
  obtain ⟨rfl, hsz, rfl, hP, hK, hD0, hN⟩ := hv
  have hx := B.exec
  have hb := B.bytes
  have hr := B.returns
  have hts := atoms_spec (ws := .code yX9_noticeInterrupt cX9_noticeInterrupt 1 (some .int) :: gw) B.pre
  have hg : ∀ w ∈ gw, w.before _ s = true := fun w h => hts w (List.mem_cons_of_mem _ h)
  have hown : s.vm.findClass RX9 = some m.cls := findClass_of_methodNamed B.named
  have hlocks := B.notSynchronized
  subst hsz
  have hD := hD0.self (sz := s.heap.size)
  generalize hAe : va_A ws s.heap.size = A at hD ⊢
  have hA : ∀ q : Nat, s.heap.size ≤ q → A q := fun q h => by rw [← hAe]; exact Or.inr h
  clear hAe
  have hS : va_S A s.heap s.heap [] := va_S.rf
  have hl := lv_entry ([.ref (ad (50 + 16 * i))]) (n := 1) (Nat.le_of_ble_eq_true rfl)
  rw [lg_entry_eq]
  generalize (lg_sl ([.ref (ad (50 + 16 * i))]) ++ List.replicate (1 - (lg_sl ([.ref (ad (50 + 16 * i))])).length) Slot.unset).toArray = ls at hl ⊢
  have hl : lv_has ls 1 [(0, .ref (ad (50 + 16 * i)))] := hl
  obtain ⟨h_i1, h_i2, h_i3, h_i4, h_i5, h_i6, h_i7, h_i8, h_i9⟩ := id hI
  have q1_ := h_i1
  unfold i1 at q1_
  refine lv_aload_n hx hb dX9_noticeInterrupt_0 rfl (lv_at hl 0 rfl) ?_
  refine lv_iconst (v := 0) hx hb dX9_noticeInterrupt_1 (by decide) ?_
  refine va_put (D := (dC, dI)) (ci := 7) (v := .int (0)) (ty := .boolean) (C := RX7) (T := TX7) (N := 15) hx hb hg gb_7 tyX7 tyX7_ok nmX7 hown hK hP hD hS (50 + 16 * i) (hQ.b0 hi) rfl 8 (by decide) (hg _ gm_fieldLink_RX9_141_ErrandGuild_Run_interrupted_Z_) (fun _ h9 => h9) rfl (by decide +kernel) rfl rfl (Nat.le_of_ble_eq_true rfl) dX9_noticeInterrupt_2 (fun H locs hP hD hS => ?_)
  obtain ⟨ws_2, G_1, eG_1, hP, hD, hQ⟩ : ∃ (ws_2 : va_W) (G_1 : Nat → Nat → Int32), G_1 = u2 G i 8 0 ∧ va_P (dC, dI) vwCl ws_2 H ∧ va_D A ws_2 ∧ Pic9 kc ws_2 ad ga gc M n f T G_1 K F := ⟨_, _, rfl, hP, hD, hQ.run hi 8 (by decide) 0⟩
  have i6_3 : i6 n T G_1 := by rw [eG_1]; exact (i6.pG h_i6 i _ (by decide))
  have i7_4 : i7 n G_1 := by rw [eG_1]; exact (i7.pG h_i7 i _ (by decide))
  have i8_5 : i8 M n gc G_1 := by rw [eG_1]; exact (i8.pG h_i8 i _ (by decide))
  have i9_6 : i9 M gc G_1 R := by rw [eG_1]; exact (i9.pG h_i9 i _ (by decide))
  have eg_7 : G_1 i 8 = 0 := by rw [eG_1, u2_eq]
  refine lv_aload_n hx hb dX9_noticeInterrupt_5 rfl (lv_at hl 0 rfl) ?_
  refine lv_iconst (v := 0) hx hb dX9_noticeInterrupt_6 (by decide) ?_
  refine va_put (D := (dC, dI)) (ci := 7) (v := .int (0)) (ty := .boolean) (C := RX7) (T := TX7) (N := 15) hx hb hg gb_7 tyX7 tyX7_ok nmX7 hown hK hP hD hS (50 + 16 * i) (hQ.b0 hi) rfl 9 (by decide) (hg _ gm_fieldLink_RX9_289_ErrandGuild_Run_returning_Z_) (fun _ h9 => h9) rfl (by decide +kernel) rfl rfl (Nat.le_of_ble_eq_true rfl) dX9_noticeInterrupt_7 (fun H locs hP hD hS => ?_)
  obtain ⟨ws_9, G_8, eG_8, hP, hD, hQ⟩ : ∃ (ws_9 : va_W) (G_8 : Nat → Nat → Int32), G_8 = u2 G_1 i 9 0 ∧ va_P (dC, dI) vwCl ws_9 H ∧ va_D A ws_9 ∧ Pic9 kc ws_9 ad ga gc M n f T G_8 K F := ⟨_, _, rfl, hP, hD, hQ.run hi 9 (by decide) 0⟩
  have i6_10 : i6 n T G_8 := by rw [eG_8]; exact (i6.pG i6_3 i _ (by decide))
  have i7_11 : i7 n G_8 := by rw [eG_8]; exact (i7.pG i7_4 i _ (by decide))
  have i8_12 : i8 M n gc G_8 := by rw [eG_8]; exact (i8.pG i8_5 i _ (by decide))
  have i9_13 : i9 M gc G_8 R := by rw [eG_8]; exact (i9.pG i9_6 i _ (by decide))
  have eg_14 : G_8 i 9 = 0 := by rw [eG_8, u2_eq]
  refine lv_aload_n hx hb dX9_noticeInterrupt_10 rfl (lv_at hl 0 rfl) ?_
  have hFc := free_all hD hS hA
  refine va_callv (va_runS (As := [.ref (ad (50 + 16 * i))]) (rest := []) ⟨hx, hb, hml, hown, hg⟩ (c_X9_settleAwaited l dC dI kc ws_9 ad ga gc M n f T G_8 K F R i H.size (hpS H) hQ ⟨h_i1, h_i2, h_i3, h_i4, h_i5, i6_10, i7_11, i8_12, i9_13⟩ (by show i < M; omega)) (va_cwS 1 hg (gw_S gm_methodLink_RX9_382_yX9_settleAwaited gm_static_yX9_settleAwaited gm_initialized_RX9 gm_code_yX9_settleAwaited_cX9_settleAwaited_2_none) rfl rfl rfl (by decide +kernel) ⟨Nat.le_of_ble_eq_true rfl, Nat.le_of_ble_eq_true rfl⟩) ⟨fun a U g mk q => by obtain ⟨q0, q1, q2, qP, qK, qD, qN⟩ := q; exact ⟨q0, q1, q2, qP, va_K.moved (u := U) (U := U.calling g mk a) (Vm.Alike.refl U.vm) qK, qD, nx_same (u := U) (U := U.calling g mk a) rfl qN⟩, fun U hU hW => ⟨rfl, by rw [hU], by rw [hU], by rw [hU]; exact hP, va_K.moved hW.alike hK, hD.weaken (fun _ _ _ _ => trivial), nx_warm hW hN⟩⟩ rfl rfl hl.1 rfl (lv_room (Nat.le_of_ble_eq_true rfl)) dX9_noticeInterrupt_11 ⟨Nat.le_of_ble_eq_true rfl, Nat.le_of_ble_eq_true rfl⟩) hS (fun q _ h => hFc q h) hFc (fun u_16 t H1 locs ht hvm hw hB hz1 hk1 hS => ?_)
  obtain ⟨ad_17, ga_18, gc_19, M_20, n_21, f_22, T_23, G_24, K_25, F_26⟩ := u_16
  have hB : ∃ w : va_W, va_P (dC, dI) vwCl w t.heap ∧ va_D (va_A ws_9 H.size) w ∧ Pic9 kc w ad ga gc M n f T G_24 K F ∧ I9 M n T gc G_24 K R ∧ hpS t.heap + (260 * M + 2 * S9 M gc) ≤ hpS H + (260 * M + 2 * S9 M gc) ∧ 16 * t.heap.size + (256 * M + S9 M gc) ≤ 16 * H.size + (256 * M + S9 M gc) := hB
  rw [ht] at hB
  obtain ⟨ws_27, hP, hD, hQ, hI_28, hy1, hy2⟩ := hB
  have hD := hD.weaken (fun k q _ h => hFc _ h)
  obtain ⟨i1_29, i2_30, i3_31, i4_32, i5_33, i6_34, i7_35, i8_36, i9_37⟩ := id hI_28
  have q1_ := i1_29
  unfold i1 at q1_
  generalize H1 = H at hP hS ⊢
  refine lv_iconst (v := 4) hx hb dX9_noticeInterrupt_14 (by decide) ?_
  refine W_msr2 (fun hm1 hm2 hm3 => ?_)
  exact W.iret (v := 4) hx hb hr (fun t ht hW => ⟨⟨4, (ad, ga, gc, M, n, f, T, G_24, K, F), rfl, trivial, ws_27, by rw [ht]; exact hP, hD, hQ, ⟨i1_29, i2_30, i3_31, i4_32, i5_33, i6_34, i7_35, i8_36, i9_37⟩, by rw [ht]; show hpS H + (260 * M + 2 * S9 M gc) ≤ hpS s.heap + (260 * M + 2 * S9 M gc); omega, by rw [ht]; show 16 * H.size + (256 * M + S9 M gc) ≤ 16 * s.heap.size + (256 * M + S9 M gc); omega⟩, hS.F ht⟩) hS.2.2 dX9_noticeInterrupt_15

set_option maxHeartbeats 8000000 in
set_option maxRecDepth 100000 in
theorem c_X9_takeAnswers (l : Launch) (dC : Nat → ClassId) (dI : Nat → Nat → Nat) (kc : Nat → ClassId) (ws : va_W) (ad : Nat → Nat) (ga : Nat → Nat) (gc : Nat → Nat) (M : Nat) (n : Nat → Int32) (f : Nat → Nat → Int32) (T : Nat → Option Nat) (G : Nat → Nat → Int32) (K : Nat → Nat → Option Nat) (F : Nat → Nat → Nat → Int32) (R : Nat) (i : Nat) (sz hz : Nat) (hQ : Pic9 kc ws ad ga gc M n f T G K F) (hI : I9 M n T gc G K R) (hi : i < M) : Met l yX9_takeAnswers (.code yX9_takeAnswers cX9_takeAnswers 4 (some .int) :: gw) ({ frames := 1, cells := 0, slots := 0, locals := 21 }) (va_Pc [.ref (ad (50 + 16 * i))] (fun U => U.heap.size = sz ∧ hpS U.heap = hz ∧ va_P (dC, dI) vwCl ws U.heap ∧ va_K (dC, dI) vwCl (t9 kc) U ∧ va_D (fun _ => True) ws ∧ nx U)) (va_Qi (fun (r : Int32) (u : (Nat → Nat) × (Nat → Nat) × (Nat → Nat) × Nat × (Nat → Int32) × (Nat → Nat → Int32) × (Nat → Option Nat) × (Nat → Nat → Int32) × (Nat → Nat → Option Nat) × (Nat → Nat → Nat → Int32)) => True) (fun u t => ∃ w : va_W, va_P (dC, dI) vwCl w t.heap ∧ va_D (va_A ws sz) w ∧ Pic9 kc w ad ga gc M n f T u.2.2.2.2.2.2.2.1 K F ∧ I9 M n T gc u.2.2.2.2.2.2.2.1 K R ∧ hpS t.heap + (260 * M + 2 * S9 M gc) ≤ hz + (260 * M + 2 * S9 M gc) ∧ 16 * t.heap.size + (256 * M + S9 M gc) ≤ 16 * sz + (256 * M + S9 M gc)) (va_A ws sz)) 0 0 (va_A ws sz) := by
  refine Met.ofW (cc := cX9_takeAnswers) (maxL := 4) (ret := (some .int)) (by decide) rfl ?_
  intro p e s m args below meth c s₁ B hml hv
  obtain ⟨rfl, hsz, rfl, hP, hK, hD0, hN⟩ := hv
  have hx := B.exec
  have hb := B.bytes
  have hr := B.returns
  have hts := atoms_spec (ws := .code yX9_takeAnswers cX9_takeAnswers 4 (some .int) :: gw) B.pre
  have hg : ∀ w ∈ gw, w.before _ s = true := fun w h => hts w (List.mem_cons_of_mem _ h)
  have hown : s.vm.findClass RX9 = some m.cls := findClass_of_methodNamed B.named
  have hlocks := B.notSynchronized
  subst hsz
  have hD := hD0.self (sz := s.heap.size)
  generalize hAe : va_A ws s.heap.size = A at hD ⊢
  have hA : ∀ q : Nat, s.heap.size ≤ q → A q := fun q h => by rw [← hAe]; exact Or.inr h
  clear hAe
  have hS : va_S A s.heap s.heap [] := va_S.rf
  have hl := lv_entry ([.ref (ad (50 + 16 * i))]) (n := 4) (Nat.le_of_ble_eq_true rfl)
  rw [lg_entry_eq]
  generalize (lg_sl ([.ref (ad (50 + 16 * i))]) ++ List.replicate (4 - (lg_sl ([.ref (ad (50 + 16 * i))])).length) Slot.unset).toArray = ls at hl ⊢
  have hl : lv_has ls 4 [(0, .ref (ad (50 + 16 * i)))] := hl
  obtain ⟨h_i1, h_i2, h_i3, h_i4, h_i5, h_i6, h_i7, h_i8, h_i9⟩ := id hI
  have q1_ := h_i1
  unfold i1 at q1_
  refine lv_null hx hb dX9_takeAnswers_0 ?_
  refine lv_astore_nN (lv' := [(1, .null), (0, .ref (ad (50 + 16 * i)))]) hx hb dX9_takeAnswers_1 rfl hl (by decide) rfl (fun ls hl => ?_)
  refine lv_iconst (v := 0) hx hb dX9_takeAnswers_2 (by decide) ?_
  refine lv_istore_n (lv' := [(2, .int 0), (1, .null), (0, .ref (ad (50 + 16 * i)))]) hx hb dX9_takeAnswers_3 rfl hl (by decide) rfl (fun ls hl => ?_)
  refine lv_aload_n hx hb dX9_takeAnswers_4 rfl (lv_at hl 2 rfl) ?_
  refine va_get (D := (dC, dI)) (ci := 7) (v := .ref (ad (50 + 16 * i + 1))) (C := RX7) (T := TX7) (N := 15) hx hb hg gb_7 hown hK hP (50 + 16 * i) (hQ.b0 hi) rfl 10 (by decide) (hg _ gm_fieldLink_RX9_151_ErrandGuild_Run_kin_LErrandGuild_Kin_) (fun _ h9 => h9) rfl dX9_takeAnswers_5 ?_
  refine va_get (D := (dC, dI)) (ci := 4) (v := va_rf (rA9 ad (K i 2))) (C := RX4) (T := TX4) (N := 9) hx hb hg gb_4 hown hK hP (50 + 16 * i + 1) (hQ.b1 hi) rfl 5 (by decide) (hg _ gm_fieldLink_RX9_225_ErrandGuild_Kin_firstChild_LErrandGuild_Run_) (fun _ h9 => h9) rfl dX9_takeAnswers_8 ?_
  rcases eo_1 : K i 2 with _ | j_2
  · refine W.eq (g2 := F0 m 11 ls [.null]) (by first | rfl | (rw [eo_1]; rfl)) ?_
    refine lv_astore_nN (lv' := [(3, .null), (2, .int 0), (1, .null), (0, .ref (ad (50 + 16 * i)))]) hx hb dX9_takeAnswers_11 rfl hl (by decide) rfl (fun ls hl => ?_)
    have L12 : ∀ (fuel : Nat) (x_3 : Int32) (o_4 : Option Nat) (o_5 : Option Nat)  (ws_7 : va_W) (G_6 : Nat → Nat → Int32)  (H : Heap) (locs : List Loc) (ls : Array Slot), chM M o_5 < fuel → (∀ j : Nat, o_4 = some j → j < M) → (∀ j : Nat, o_5 = some j → j < M) → Pic9 kc ws_7 ad ga gc M n f T G_6 K F → I9 M n T gc G_6 K R → va_P (dC, dI) vwCl ws_7 H → va_D A ws_7 → va_S A s.heap H locs → lv_has ls 4 [(3, va_rf (rA9 ad o_5)), (2, .int x_3), (1, va_rf (rA9 ad o_4)), (0, .ref (ad (50 + 16 * i)))] → W p l e (headSpec (.code yX9_takeAnswers cX9_takeAnswers 4 (some .int) :: gw) ({ frames := 1, cells := 0, slots := 0, locals := 21 })).room s m ([.ref (ad (50 + 16 * i))] : List Value).toArray below meth c H locs 0 0 (MQ below (va_Qi (fun (r : Int32) (u : (Nat → Nat) × (Nat → Nat) × (Nat → Nat) × Nat × (Nat → Int32) × (Nat → Nat → Int32) × (Nat → Option Nat) × (Nat → Nat → Int32) × (Nat → Nat → Option Nat) × (Nat → Nat → Nat → Int32)) => True) (fun u t => ∃ w : va_W, va_P (dC, dI) vwCl w t.heap ∧ va_D A w ∧ Pic9 kc w ad ga gc M n f T u.2.2.2.2.2.2.2.1 K F ∧ I9 M n T gc u.2.2.2.2.2.2.2.1 K R ∧ hpS t.heap + (260 * M + 2 * S9 M gc) ≤ (hpS s.heap) + (260 * M + 2 * S9 M gc) ∧ 16 * t.heap.size + (256 * M + S9 M gc) ≤ 16 * s.heap.size + (256 * M + S9 M gc)) A) ([.ref (ad (50 + 16 * i))] : List Value).toArray s 0 0 A) (F0 m 12 ls []) := by
      intro fuel
      induction fuel with
      | zero => intro x_3 o_4 o_5 ws_7 G_6 H locs ls hm; exact absurd hm (Nat.not_lt_zero _)
      | succ fuel_13 ih_12 =>
        intro x_3 o_4 o_5 ws_7 G_6 H locs ls hm_8 v_9 v_10 hQ hI_11 hP hD hS hl
        obtain ⟨i1_14, i2_15, i3_16, i4_17, i5_18, i6_19, i7_20, i8_21, i9_22⟩ := id hI_11
        have q1_ := i1_14
        unfold i1 at q1_
        rcases o_4 with _ | j_23
        · have hl : lv_has ls 4 [(3, va_rf (rA9 ad o_5)), (2, .int x_3), (1, .null), (0, .ref (ad (50 + 16 * i)))] := hl
          rcases o_5 with _ | j_24
          · have hl : lv_has ls 4 [(3, .null), (2, .int x_3), (1, .null), (0, .ref (ad (50 + 16 * i)))] := hl
            refine lv_aload_nN hx hb dX9_takeAnswers_12 rfl (lv_at hl 0 rfl) ?_
            refine lv_ifnullN (tgt := 94) hx hb dX9_takeAnswers_13 (by decide) ?_
            refine lv_aload_n hx hb dX9_takeAnswers_94 rfl (lv_at hl 3 rfl) ?_
            have hFc := free_all hD hS hA
            refine va_callv (va_runS (As := [.ref (ad (50 + 16 * i))]) (rest := []) ⟨hx, hb, hml, hown, hg⟩ (c_X9_settleAwaited l dC dI kc ws_7 ad ga gc M n f T G_6 K F R i H.size (hpS H) hQ ⟨i1_14, i2_15, i3_16, i4_17, i5_18, i6_19, i7_20, i8_21, i9_22⟩ (by show i < M; omega)) (va_cwS 1 hg (gw_S gm_methodLink_RX9_382_yX9_settleAwaited gm_static_yX9_settleAwaited gm_initialized_RX9 gm_code_yX9_settleAwaited_cX9_settleAwaited_2_none) rfl rfl rfl (by decide +kernel) ⟨Nat.le_of_ble_eq_true rfl, Nat.le_of_ble_eq_true rfl⟩) ⟨fun a U g mk q => by obtain ⟨q0, q1, q2, qP, qK, qD, qN⟩ := q; exact ⟨q0, q1, q2, qP, va_K.moved (u := U) (U := U.calling g mk a) (Vm.Alike.refl U.vm) qK, qD, nx_same (u := U) (U := U.calling g mk a) rfl qN⟩, fun U hU hW => ⟨rfl, by rw [hU], by rw [hU], by rw [hU]; exact hP, va_K.moved hW.alike hK, hD.weaken (fun _ _ _ _ => trivial), nx_warm hW hN⟩⟩ rfl rfl hl.1 rfl (lv_room (Nat.le_of_ble_eq_true rfl)) dX9_takeAnswers_95 ⟨Nat.le_of_ble_eq_true rfl, Nat.le_of_ble_eq_true rfl⟩) hS (fun q _ h => hFc q h) hFc (fun u_26 t H1 locs ht hvm hw hB hz1 hk1 hS => ?_)
            obtain ⟨ad_27, ga_28, gc_29, M_30, n_31, f_32, T_33, G_34, K_35, F_36⟩ := u_26
            have hB : ∃ w : va_W, va_P (dC, dI) vwCl w t.heap ∧ va_D (va_A ws_7 H.size) w ∧ Pic9 kc w ad ga gc M n f T G_34 K F ∧ I9 M n T gc G_34 K R ∧ hpS t.heap + (260 * M + 2 * S9 M gc) ≤ hpS H + (260 * M + 2 * S9 M gc) ∧ 16 * t.heap.size + (256 * M + S9 M gc) ≤ 16 * H.size + (256 * M + S9 M gc) := hB
            rw [ht] at hB
            obtain ⟨ws_37, hP, hD, hQ, hI_38, hy1, hy2⟩ := hB
            have hD := hD.weaken (fun k q _ h => hFc _ h)
            obtain ⟨i1_39, i2_40, i3_41, i4_42, i5_43, i6_44, i7_45, i8_46, i9_47⟩ := id hI_38
            have q1_ := i1_39
            unfold i1 at q1_
            generalize H1 = H at hP hS ⊢
            refine lv_aload_n hx hb dX9_takeAnswers_98 rfl (lv_at hl 3 rfl) ?_
            refine lv_iconst (v := 0) hx hb dX9_takeAnswers_99 (by decide) ?_
            refine va_put (D := (dC, dI)) (ci := 7) (v := .int (0)) (ty := .boolean) (C := RX7) (T := TX7) (N := 15) hx hb hg gb_7 tyX7 tyX7_ok nmX7 hown hK hP hD hS (50 + 16 * i) (hQ.b0 hi) rfl 9 (by decide) (hg _ gm_fieldLink_RX9_289_ErrandGuild_Run_returning_Z_) (fun _ h9 => h9) rfl (by decide +kernel) rfl rfl (Nat.le_of_ble_eq_true rfl) dX9_takeAnswers_100 (fun H locs hP hD hS => ?_)
            obtain ⟨ws_49, G_48, eG_48, hP, hD, hQ⟩ : ∃ (ws_49 : va_W) (G_48 : Nat → Nat → Int32), G_48 = u2 G_34 i 9 0 ∧ va_P (dC, dI) vwCl ws_49 H ∧ va_D A ws_49 ∧ Pic9 kc ws_49 ad ga gc M n f T G_48 K F := ⟨_, _, rfl, hP, hD, hQ.run hi 9 (by decide) 0⟩
            have i6_50 : i6 n T G_48 := by rw [eG_48]; exact (i6.pG i6_44 i _ (by decide))
            have i7_51 : i7 n G_48 := by rw [eG_48]; exact (i7.pG i7_45 i _ (by decide))
            have i8_52 : i8 M n gc G_48 := by rw [eG_48]; exact (i8.pG i8_46 i _ (by decide))
            have i9_53 : i9 M gc G_48 R := by rw [eG_48]; exact (i9.pG i9_47 i _ (by decide))
            have eg_54 : G_48 i 9 = 0 := by rw [eG_48, u2_eq]
            refine lv_aload_nN hx hb dX9_takeAnswers_103 rfl (lv_at hl 2 rfl) ?_
            refine lv_ifnonnullN hx hb dX9_takeAnswers_104 ?_
            refine lv_iconst (v := -1) hx hb dX9_takeAnswers_107 (by decide) ?_
            refine W_msr2 (fun hm1 hm2 hm3 => ?_)
            exact W.iret (v := -1) hx hb hr (fun t ht hW => ⟨⟨-1, (ad, ga, gc, M, n, f, T, G_48, K, F), rfl, trivial, ws_49, by rw [ht]; exact hP, hD, hQ, ⟨i1_39, i2_40, i3_41, i4_42, i5_43, i6_50, i7_51, i8_52, i9_53⟩, by rw [ht]; show hpS H + (260 * M + 2 * S9 M gc) ≤ hpS s.heap + (260 * M + 2 * S9 M gc); omega, by rw [ht]; show 16 * H.size + (256 * M + S9 M gc) ≤ 16 * s.heap.size + (256 * M + S9 M gc); omega⟩, hS.F ht⟩) hS.2.2 dX9_takeAnswers_108
          · have hl : lv_has ls 4 [(3, .ref (ad (50 + 16 * j_24))), (2, .int x_3), (1, .null), (0, .ref (ad (50 + 16 * i)))] := hl
            have hj_24 : j_24 < M := v_10 _ rfl
            refine lv_aload_n hx hb dX9_takeAnswers_12 rfl (lv_at hl 0 rfl) ?_
            refine lv_ifnull hx hb dX9_takeAnswers_13 ?_
            refine lv_aload_n hx hb dX9_takeAnswers_16 rfl (lv_at hl 0 rfl) ?_
            refine va_get (D := (dC, dI)) (ci := 7) (v := .ref (ad (50 + 16 * j_24 + 1))) (C := RX7) (T := TX7) (N := 15) hx hb hg gb_7 hown hK hP (50 + 16 * j_24) (hQ.b0 hj_24) rfl 10 (by decide) (hg _ gm_fieldLink_RX9_151_ErrandGuild_Run_kin_LErrandGuild_Kin_) (fun _ h9 => h9) rfl dX9_takeAnswers_17 ?_
            refine va_get (D := (dC, dI)) (ci := 4) (v := .int (G_6 j_24 12)) (C := RX4) (T := TX4) (N := 9) hx hb hg gb_4 hown hK hP (50 + 16 * j_24 + 1) (hQ.b1 hj_24) rfl 4 (by decide) (hg _ gm_fieldLink_RX9_379_ErrandGuild_Kin_claim_I_) (fun _ h9 => h9) rfl dX9_takeAnswers_20 ?_
            refine lv_iconst (v := 1) hx hb dX9_takeAnswers_23 (by decide) ?_
            refine lv_icmp_ne (tgt := 51) hx hb dX9_takeAnswers_24 (by decide) (fun c_55 => ?_) (fun c_55 => ?_)
            · simp only [i_lt, i_le, i_eq, ti_1] at c_55
              refine lv_aload_n hx hb dX9_takeAnswers_51 rfl (lv_at hl 0 rfl) ?_
              refine va_get (D := (dC, dI)) (ci := 7) (v := .ref (ad (50 + 16 * j_24 + 1))) (C := RX7) (T := TX7) (N := 15) hx hb hg gb_7 hown hK hP (50 + 16 * j_24) (hQ.b0 hj_24) rfl 10 (by decide) (hg _ gm_fieldLink_RX9_151_ErrandGuild_Run_kin_LErrandGuild_Kin_) (fun _ h9 => h9) rfl dX9_takeAnswers_52 ?_
              refine va_get (D := (dC, dI)) (ci := 4) (v := .int (G_6 j_24 12)) (C := RX4) (T := TX4) (N := 9) hx hb hg gb_4 hown hK hP (50 + 16 * j_24 + 1) (hQ.b1 hj_24) rfl 4 (by decide) (hg _ gm_fieldLink_RX9_379_ErrandGuild_Kin_claim_I_) (fun _ h9 => h9) rfl dX9_takeAnswers_55 ?_
              refine lv_iconst (v := 1) hx hb dX9_takeAnswers_58 (by decide) ?_
              refine lv_icmp_ne (tgt := 83) hx hb dX9_takeAnswers_59 (by decide) (fun c_56 => ?_) (fun c_56 => ?_)
              · simp only [i_lt, i_le, i_eq, ti_1] at c_56
                refine lv_aload_n hx hb dX9_takeAnswers_83 rfl (lv_at hl 0 rfl) ?_
                refine va_get (D := (dC, dI)) (ci := 7) (v := .ref (ad (50 + 16 * j_24 + 1))) (C := RX7) (T := TX7) (N := 15) hx hb hg gb_7 hown hK hP (50 + 16 * j_24) (hQ.b0 hj_24) rfl 10 (by decide) (hg _ gm_fieldLink_RX9_151_ErrandGuild_Run_kin_LErrandGuild_Kin_) (fun _ h9 => h9) rfl dX9_takeAnswers_84 ?_
                refine va_get (D := (dC, dI)) (ci := 4) (v := va_rf (rA9 ad (K j_24 4))) (C := RX4) (T := TX4) (N := 9) hx hb hg gb_4 hown hK hP (50 + 16 * j_24 + 1) (hQ.b1 hj_24) rfl 7 (by decide) (hg _ gm_fieldLink_RX9_228_ErrandGuild_Kin_nextSibling_LErrandGuild_Run_) (fun _ h9 => h9) rfl dX9_takeAnswers_87 ?_
                rcases eo_57 : K j_24 4 with _ | j_58
                · refine W.eq (g2 := F0 m 90 ls [.null]) (by first | rfl | (rw [eo_57]; rfl)) ?_
                  refine lv_astore_nN (lv' := [(3, .null), (2, .int x_3), (1, .null), (0, .ref (ad (50 + 16 * i)))]) hx hb dX9_takeAnswers_90 rfl hl (by decide) rfl (fun ls hl => ?_)
                  refine lv_goto (tgt := 12) hx hb dX9_takeAnswers_91 (by decide) ?_
                  exact ih_12 x_3 none none  ws_7 G_6  H locs ls (by simp only [chM] at *; omega) (fun _ h => by cases h) (fun _ h => by cases h) hQ ⟨i1_14, i2_15, i3_16, i4_17, i5_18, i6_19, i7_20, i8_21, i9_22⟩ hP hD hS (lv_sub hl [0, 1, 2, 3] rfl)
                · refine W.eq (g2 := F0 m 90 ls [.ref (ad (50 + 16 * j_58))]) (by first | rfl | (rw [eo_57]; rfl)) ?_
                  have hj_58 : j_58 < M := i3_16 _ _ _ hj_24 eo_57
                  refine lv_astore_n (lv' := [(3, .ref (ad (50 + 16 * j_58))), (2, .int x_3), (1, .null), (0, .ref (ad (50 + 16 * i)))]) hx hb dX9_takeAnswers_90 rfl hl (by decide) rfl (fun ls hl => ?_)
                  refine lv_goto (tgt := 12) hx hb dX9_takeAnswers_91 (by decide) ?_
                  exact ih_12 x_3 none (some j_58)  ws_7 G_6  H locs ls (by have := i4_17 _ _ hj_24 eo_57; simp only [chM] at *; omega) (fun _ h => by cases h) (fun _ h => by cases h; exact hj_58) hQ ⟨i1_14, i2_15, i3_16, i4_17, i5_18, i6_19, i7_20, i8_21, i9_22⟩ hP hD hS (lv_sub hl [0, 1, 2, 3] rfl)
              · simp only [i_lt, i_le, i_eq, ti_1] at c_56
                refine lv_aload_n hx hb dX9_takeAnswers_62 rfl (lv_at hl 0 rfl) ?_
                refine va_get (D := (dC, dI)) (ci := 7) (v := .int (G_6 j_24 2)) (C := RX7) (T := TX7) (N := 15) hx hb hg gb_7 hown hK hP (50 + 16 * j_24) (hQ.b0 hj_24) rfl 2 (by decide) (hg _ gm_fieldLink_RX9_145_ErrandGuild_Run_state_I_) (fun _ h9 => h9) rfl dX9_takeAnswers_63 ?_
                refine lv_iconst (v := 4) hx hb dX9_takeAnswers_66 (by decide) ?_
                refine lv_icmp_ne (tgt := 83) hx hb dX9_takeAnswers_67 (by decide) (fun c_59 => ?_) (fun c_59 => ?_)
                · simp only [i_lt, i_le, i_eq, ti_4] at c_59
                  refine lv_aload_n hx hb dX9_takeAnswers_83 rfl (lv_at hl 0 rfl) ?_
                  refine va_get (D := (dC, dI)) (ci := 7) (v := .ref (ad (50 + 16 * j_24 + 1))) (C := RX7) (T := TX7) (N := 15) hx hb hg gb_7 hown hK hP (50 + 16 * j_24) (hQ.b0 hj_24) rfl 10 (by decide) (hg _ gm_fieldLink_RX9_151_ErrandGuild_Run_kin_LErrandGuild_Kin_) (fun _ h9 => h9) rfl dX9_takeAnswers_84 ?_
                  refine va_get (D := (dC, dI)) (ci := 4) (v := va_rf (rA9 ad (K j_24 4))) (C := RX4) (T := TX4) (N := 9) hx hb hg gb_4 hown hK hP (50 + 16 * j_24 + 1) (hQ.b1 hj_24) rfl 7 (by decide) (hg _ gm_fieldLink_RX9_228_ErrandGuild_Kin_nextSibling_LErrandGuild_Run_) (fun _ h9 => h9) rfl dX9_takeAnswers_87 ?_
                  rcases eo_60 : K j_24 4 with _ | j_61
                  · refine W.eq (g2 := F0 m 90 ls [.null]) (by first | rfl | (rw [eo_60]; rfl)) ?_
                    refine lv_astore_nN (lv' := [(3, .null), (2, .int x_3), (1, .null), (0, .ref (ad (50 + 16 * i)))]) hx hb dX9_takeAnswers_90 rfl hl (by decide) rfl (fun ls hl => ?_)
                    refine lv_goto (tgt := 12) hx hb dX9_takeAnswers_91 (by decide) ?_
                    exact ih_12 x_3 none none  ws_7 G_6  H locs ls (by simp only [chM] at *; omega) (fun _ h => by cases h) (fun _ h => by cases h) hQ ⟨i1_14, i2_15, i3_16, i4_17, i5_18, i6_19, i7_20, i8_21, i9_22⟩ hP hD hS (lv_sub hl [0, 1, 2, 3] rfl)
                  · refine W.eq (g2 := F0 m 90 ls [.ref (ad (50 + 16 * j_61))]) (by first | rfl | (rw [eo_60]; rfl)) ?_
                    have hj_61 : j_61 < M := i3_16 _ _ _ hj_24 eo_60
                    refine lv_astore_n (lv' := [(3, .ref (ad (50 + 16 * j_61))), (2, .int x_3), (1, .null), (0, .ref (ad (50 + 16 * i)))]) hx hb dX9_takeAnswers_90 rfl hl (by decide) rfl (fun ls hl => ?_)
                    refine lv_goto (tgt := 12) hx hb dX9_takeAnswers_91 (by decide) ?_
                    exact ih_12 x_3 none (some j_61)  ws_7 G_6  H locs ls (by have := i4_17 _ _ hj_24 eo_60; simp only [chM] at *; omega) (fun _ h => by cases h) (fun _ h => by cases h; exact hj_61) hQ ⟨i1_14, i2_15, i3_16, i4_17, i5_18, i6_19, i7_20, i8_21, i9_22⟩ hP hD hS (lv_sub hl [0, 1, 2, 3] rfl)
                · simp only [i_lt, i_le, i_eq, ti_4] at c_59
                  obtain ⟨y_62, ey_62⟩ : ∃ q : Int32, q = x_3 + (1) := ⟨_, rfl⟩
                  refine lv_iinc (v := y_62) (lv' := [(2, .int y_62), (3, .ref (ad (50 + 16 * j_24))), (1, .null), (0, .ref (ad (50 + 16 * i)))]) hx hb dX9_takeAnswers_70 hl (k := 1) rfl (by rw [ey_62]; rfl) (by decide) rfl (fun ls hl => ?_)
                  refine lv_aload_nN hx hb dX9_takeAnswers_73 rfl (lv_at hl 2 rfl) ?_
                  refine lv_ifnonnullN hx hb dX9_takeAnswers_74 ?_
                  refine lv_aload_n hx hb dX9_takeAnswers_77 rfl (lv_at hl 1 rfl) ?_
                  refine lv_goto (tgt := 82) hx hb dX9_takeAnswers_78 (by decide) ?_
                  refine lv_astore_n (lv' := [(1, .ref (ad (50 + 16 * j_24))), (2, .int y_62), (3, .ref (ad (50 + 16 * j_24))), (0, .ref (ad (50 + 16 * i)))]) hx hb dX9_takeAnswers_82 rfl hl (by decide) rfl (fun ls hl => ?_)
                  refine lv_aload_n hx hb dX9_takeAnswers_83 rfl (lv_at hl 2 rfl) ?_
                  refine va_get (D := (dC, dI)) (ci := 7) (v := .ref (ad (50 + 16 * j_24 + 1))) (C := RX7) (T := TX7) (N := 15) hx hb hg gb_7 hown hK hP (50 + 16 * j_24) (hQ.b0 hj_24) rfl 10 (by decide) (hg _ gm_fieldLink_RX9_151_ErrandGuild_Run_kin_LErrandGuild_Kin_) (fun _ h9 => h9) rfl dX9_takeAnswers_84 ?_
                  refine va_get (D := (dC, dI)) (ci := 4) (v := va_rf (rA9 ad (K j_24 4))) (C := RX4) (T := TX4) (N := 9) hx hb hg gb_4 hown hK hP (50 + 16 * j_24 + 1) (hQ.b1 hj_24) rfl 7 (by decide) (hg _ gm_fieldLink_RX9_228_ErrandGuild_Kin_nextSibling_LErrandGuild_Run_) (fun _ h9 => h9) rfl dX9_takeAnswers_87 ?_
                  rcases eo_63 : K j_24 4 with _ | j_64
                  · refine W.eq (g2 := F0 m 90 ls [.null]) (by first | rfl | (rw [eo_63]; rfl)) ?_
                    refine lv_astore_nN (lv' := [(3, .null), (1, .ref (ad (50 + 16 * j_24))), (2, .int y_62), (0, .ref (ad (50 + 16 * i)))]) hx hb dX9_takeAnswers_90 rfl hl (by decide) rfl (fun ls hl => ?_)
                    refine lv_goto (tgt := 12) hx hb dX9_takeAnswers_91 (by decide) ?_
                    exact ih_12 y_62 (some j_24) none  ws_7 G_6  H locs ls (by simp only [chM] at *; omega) (fun _ h => by cases h; exact hj_24) (fun _ h => by cases h) hQ ⟨i1_14, i2_15, i3_16, i4_17, i5_18, i6_19, i7_20, i8_21, i9_22⟩ hP hD hS (lv_sub hl [0, 2, 1, 3] rfl)
                  · refine W.eq (g2 := F0 m 90 ls [.ref (ad (50 + 16 * j_64))]) (by first | rfl | (rw [eo_63]; rfl)) ?_
                    have hj_64 : j_64 < M := i3_16 _ _ _ hj_24 eo_63
                    refine lv_astore_n (lv' := [(3, .ref (ad (50 + 16 * j_64))), (1, .ref (ad (50 + 16 * j_24))), (2, .int y_62), (0, .ref (ad (50 + 16 * i)))]) hx hb dX9_takeAnswers_90 rfl hl (by decide) rfl (fun ls hl => ?_)
                    refine lv_goto (tgt := 12) hx hb dX9_takeAnswers_91 (by decide) ?_
                    exact ih_12 y_62 (some j_24) (some j_64)  ws_7 G_6  H locs ls (by have := i4_17 _ _ hj_24 eo_63; simp only [chM] at *; omega) (fun _ h => by cases h; exact hj_24) (fun _ h => by cases h; exact hj_64) hQ ⟨i1_14, i2_15, i3_16, i4_17, i5_18, i6_19, i7_20, i8_21, i9_22⟩ hP hD hS (lv_sub hl [0, 2, 1, 3] rfl)
            · simp only [i_lt, i_le, i_eq, ti_1] at c_55
              refine lv_aload_n hx hb dX9_takeAnswers_27 rfl (lv_at hl 0 rfl) ?_
              refine va_get (D := (dC, dI)) (ci := 7) (v := .int (G_6 j_24 2)) (C := RX7) (T := TX7) (N := 15) hx hb hg gb_7 hown hK hP (50 + 16 * j_24) (hQ.b0 hj_24) rfl 2 (by decide) (hg _ gm_fieldLink_RX9_145_ErrandGuild_Run_state_I_) (fun _ h9 => h9) rfl dX9_takeAnswers_28 ?_
              refine lv_iconst (v := 3) hx hb dX9_takeAnswers_31 (by decide) ?_
              refine lv_icmp_ne (tgt := 51) hx hb dX9_takeAnswers_32 (by decide) (fun c_65 => ?_) (fun c_65 => ?_)
              · simp only [i_lt, i_le, i_eq, ti_3] at c_65
                refine lv_aload_n hx hb dX9_takeAnswers_51 rfl (lv_at hl 0 rfl) ?_
                refine va_get (D := (dC, dI)) (ci := 7) (v := .ref (ad (50 + 16 * j_24 + 1))) (C := RX7) (T := TX7) (N := 15) hx hb hg gb_7 hown hK hP (50 + 16 * j_24) (hQ.b0 hj_24) rfl 10 (by decide) (hg _ gm_fieldLink_RX9_151_ErrandGuild_Run_kin_LErrandGuild_Kin_) (fun _ h9 => h9) rfl dX9_takeAnswers_52 ?_
                refine va_get (D := (dC, dI)) (ci := 4) (v := .int (G_6 j_24 12)) (C := RX4) (T := TX4) (N := 9) hx hb hg gb_4 hown hK hP (50 + 16 * j_24 + 1) (hQ.b1 hj_24) rfl 4 (by decide) (hg _ gm_fieldLink_RX9_379_ErrandGuild_Kin_claim_I_) (fun _ h9 => h9) rfl dX9_takeAnswers_55 ?_
                refine lv_iconst (v := 1) hx hb dX9_takeAnswers_58 (by decide) ?_
                refine lv_icmp_ne (tgt := 83) hx hb dX9_takeAnswers_59 (by decide) (fun c_66 => ?_) (fun c_66 => ?_)
                · simp only [i_lt, i_le, i_eq, ti_1] at c_66
                  exfalso
                  omega
                · simp only [i_lt, i_le, i_eq, ti_1] at c_66
                  refine lv_aload_n hx hb dX9_takeAnswers_62 rfl (lv_at hl 0 rfl) ?_
                  refine va_get (D := (dC, dI)) (ci := 7) (v := .int (G_6 j_24 2)) (C := RX7) (T := TX7) (N := 15) hx hb hg gb_7 hown hK hP (50 + 16 * j_24) (hQ.b0 hj_24) rfl 2 (by decide) (hg _ gm_fieldLink_RX9_145_ErrandGuild_Run_state_I_) (fun _ h9 => h9) rfl dX9_takeAnswers_63 ?_
                  refine lv_iconst (v := 4) hx hb dX9_takeAnswers_66 (by decide) ?_
                  refine lv_icmp_ne (tgt := 83) hx hb dX9_takeAnswers_67 (by decide) (fun c_67 => ?_) (fun c_67 => ?_)
                  · simp only [i_lt, i_le, i_eq, ti_4] at c_67
                    refine lv_aload_n hx hb dX9_takeAnswers_83 rfl (lv_at hl 0 rfl) ?_
                    refine va_get (D := (dC, dI)) (ci := 7) (v := .ref (ad (50 + 16 * j_24 + 1))) (C := RX7) (T := TX7) (N := 15) hx hb hg gb_7 hown hK hP (50 + 16 * j_24) (hQ.b0 hj_24) rfl 10 (by decide) (hg _ gm_fieldLink_RX9_151_ErrandGuild_Run_kin_LErrandGuild_Kin_) (fun _ h9 => h9) rfl dX9_takeAnswers_84 ?_
                    refine va_get (D := (dC, dI)) (ci := 4) (v := va_rf (rA9 ad (K j_24 4))) (C := RX4) (T := TX4) (N := 9) hx hb hg gb_4 hown hK hP (50 + 16 * j_24 + 1) (hQ.b1 hj_24) rfl 7 (by decide) (hg _ gm_fieldLink_RX9_228_ErrandGuild_Kin_nextSibling_LErrandGuild_Run_) (fun _ h9 => h9) rfl dX9_takeAnswers_87 ?_
                    rcases eo_68 : K j_24 4 with _ | j_69
                    · refine W.eq (g2 := F0 m 90 ls [.null]) (by first | rfl | (rw [eo_68]; rfl)) ?_
                      refine lv_astore_nN (lv' := [(3, .null), (2, .int x_3), (1, .null), (0, .ref (ad (50 + 16 * i)))]) hx hb dX9_takeAnswers_90 rfl hl (by decide) rfl (fun ls hl => ?_)
                      refine lv_goto (tgt := 12) hx hb dX9_takeAnswers_91 (by decide) ?_
                      exact ih_12 x_3 none none  ws_7 G_6  H locs ls (by simp only [chM] at *; omega) (fun _ h => by cases h) (fun _ h => by cases h) hQ ⟨i1_14, i2_15, i3_16, i4_17, i5_18, i6_19, i7_20, i8_21, i9_22⟩ hP hD hS (lv_sub hl [0, 1, 2, 3] rfl)
                    · refine W.eq (g2 := F0 m 90 ls [.ref (ad (50 + 16 * j_69))]) (by first | rfl | (rw [eo_68]; rfl)) ?_
                      have hj_69 : j_69 < M := i3_16 _ _ _ hj_24 eo_68
                      refine lv_astore_n (lv' := [(3, .ref (ad (50 + 16 * j_69))), (2, .int x_3), (1, .null), (0, .ref (ad (50 + 16 * i)))]) hx hb dX9_takeAnswers_90 rfl hl (by decide) rfl (fun ls hl => ?_)
                      refine lv_goto (tgt := 12) hx hb dX9_takeAnswers_91 (by decide) ?_
                      exact ih_12 x_3 none (some j_69)  ws_7 G_6  H locs ls (by have := i4_17 _ _ hj_24 eo_68; simp only [chM] at *; omega) (fun _ h => by cases h) (fun _ h => by cases h; exact hj_69) hQ ⟨i1_14, i2_15, i3_16, i4_17, i5_18, i6_19, i7_20, i8_21, i9_22⟩ hP hD hS (lv_sub hl [0, 1, 2, 3] rfl)
                  · simp only [i_lt, i_le, i_eq, ti_4] at c_67
                    obtain ⟨y_70, ey_70⟩ : ∃ q : Int32, q = x_3 + (1) := ⟨_, rfl⟩
                    refine lv_iinc (v := y_70) (lv' := [(2, .int y_70), (3, .ref (ad (50 + 16 * j_24))), (1, .null), (0, .ref (ad (50 + 16 * i)))]) hx hb dX9_takeAnswers_70 hl (k := 1) rfl (by rw [ey_70]; rfl) (by decide) rfl (fun ls hl => ?_)
                    refine lv_aload_nN hx hb dX9_takeAnswers_73 rfl (lv_at hl 2 rfl) ?_
                    refine lv_ifnonnullN hx hb dX9_takeAnswers_74 ?_
                    refine lv_aload_n hx hb dX9_takeAnswers_77 rfl (lv_at hl 1 rfl) ?_
                    refine lv_goto (tgt := 82) hx hb dX9_takeAnswers_78 (by decide) ?_
                    refine lv_astore_n (lv' := [(1, .ref (ad (50 + 16 * j_24))), (2, .int y_70), (3, .ref (ad (50 + 16 * j_24))), (0, .ref (ad (50 + 16 * i)))]) hx hb dX9_takeAnswers_82 rfl hl (by decide) rfl (fun ls hl => ?_)
                    refine lv_aload_n hx hb dX9_takeAnswers_83 rfl (lv_at hl 2 rfl) ?_
                    refine va_get (D := (dC, dI)) (ci := 7) (v := .ref (ad (50 + 16 * j_24 + 1))) (C := RX7) (T := TX7) (N := 15) hx hb hg gb_7 hown hK hP (50 + 16 * j_24) (hQ.b0 hj_24) rfl 10 (by decide) (hg _ gm_fieldLink_RX9_151_ErrandGuild_Run_kin_LErrandGuild_Kin_) (fun _ h9 => h9) rfl dX9_takeAnswers_84 ?_
                    refine va_get (D := (dC, dI)) (ci := 4) (v := va_rf (rA9 ad (K j_24 4))) (C := RX4) (T := TX4) (N := 9) hx hb hg gb_4 hown hK hP (50 + 16 * j_24 + 1) (hQ.b1 hj_24) rfl 7 (by decide) (hg _ gm_fieldLink_RX9_228_ErrandGuild_Kin_nextSibling_LErrandGuild_Run_) (fun _ h9 => h9) rfl dX9_takeAnswers_87 ?_
                    rcases eo_71 : K j_24 4 with _ | j_72
                    · refine W.eq (g2 := F0 m 90 ls [.null]) (by first | rfl | (rw [eo_71]; rfl)) ?_
                      refine lv_astore_nN (lv' := [(3, .null), (1, .ref (ad (50 + 16 * j_24))), (2, .int y_70), (0, .ref (ad (50 + 16 * i)))]) hx hb dX9_takeAnswers_90 rfl hl (by decide) rfl (fun ls hl => ?_)
                      refine lv_goto (tgt := 12) hx hb dX9_takeAnswers_91 (by decide) ?_
                      exact ih_12 y_70 (some j_24) none  ws_7 G_6  H locs ls (by simp only [chM] at *; omega) (fun _ h => by cases h; exact hj_24) (fun _ h => by cases h) hQ ⟨i1_14, i2_15, i3_16, i4_17, i5_18, i6_19, i7_20, i8_21, i9_22⟩ hP hD hS (lv_sub hl [0, 2, 1, 3] rfl)
                    · refine W.eq (g2 := F0 m 90 ls [.ref (ad (50 + 16 * j_72))]) (by first | rfl | (rw [eo_71]; rfl)) ?_
                      have hj_72 : j_72 < M := i3_16 _ _ _ hj_24 eo_71
                      refine lv_astore_n (lv' := [(3, .ref (ad (50 + 16 * j_72))), (1, .ref (ad (50 + 16 * j_24))), (2, .int y_70), (0, .ref (ad (50 + 16 * i)))]) hx hb dX9_takeAnswers_90 rfl hl (by decide) rfl (fun ls hl => ?_)
                      refine lv_goto (tgt := 12) hx hb dX9_takeAnswers_91 (by decide) ?_
                      exact ih_12 y_70 (some j_24) (some j_72)  ws_7 G_6  H locs ls (by have := i4_17 _ _ hj_24 eo_71; simp only [chM] at *; omega) (fun _ h => by cases h; exact hj_24) (fun _ h => by cases h; exact hj_72) hQ ⟨i1_14, i2_15, i3_16, i4_17, i5_18, i6_19, i7_20, i8_21, i9_22⟩ hP hD hS (lv_sub hl [0, 2, 1, 3] rfl)
              · simp only [i_lt, i_le, i_eq, ti_3] at c_65
                refine lv_aload_n hx hb dX9_takeAnswers_35 rfl (lv_at hl 3 rfl) ?_
                refine lv_dup hx hb dX9_takeAnswers_36 rfl ?_
                refine va_get (D := (dC, dI)) (ci := 7) (v := .int (G_6 i 5)) (C := RX7) (T := TX7) (N := 15) hx hb hg gb_7 hown hK hP (50 + 16 * i) (hQ.b0 hi) rfl 5 (by decide) (hg _ gm_fieldLink_RX9_171_ErrandGuild_Run_sum_I_) (fun _ h9 => h9) rfl dX9_takeAnswers_37 ?_
                refine lv_aload_n hx hb dX9_takeAnswers_40 rfl (lv_at hl 0 rfl) ?_
                refine va_get (D := (dC, dI)) (ci := 7) (v := .int (G_6 j_24 5)) (C := RX7) (T := TX7) (N := 15) hx hb hg gb_7 hown hK hP (50 + 16 * j_24) (hQ.b0 hj_24) rfl 5 (by decide) (hg _ gm_fieldLink_RX9_171_ErrandGuild_Run_sum_I_) (fun _ h9 => h9) rfl dX9_takeAnswers_41 ?_
                refine lv_iadd hx hb dX9_takeAnswers_44 ?_
                refine lv_topi (fun z_73 ez_73 => ?_)
                refine va_put (D := (dC, dI)) (ci := 7) (v := .int (z_73)) (ty := .int) (C := RX7) (T := TX7) (N := 15) hx hb hg gb_7 tyX7 tyX7_ok nmX7 hown hK hP hD hS (50 + 16 * i) (hQ.b0 hi) rfl 5 (by decide) (hg _ gm_fieldLink_RX9_171_ErrandGuild_Run_sum_I_) (fun _ h9 => h9) rfl (by decide +kernel) rfl rfl (Nat.le_of_ble_eq_true rfl) dX9_takeAnswers_45 (fun H locs hP hD hS => ?_)
                obtain ⟨ws_75, G_74, eG_74, hP, hD, hQ⟩ : ∃ (ws_75 : va_W) (G_74 : Nat → Nat → Int32), G_74 = u2 G_6 i 5 z_73 ∧ va_P (dC, dI) vwCl ws_75 H ∧ va_D A ws_75 ∧ Pic9 kc ws_75 ad ga gc M n f T G_74 K F := ⟨_, _, rfl, hP, hD, hQ.run hi 5 (by decide) z_73⟩
                have i6_76 : i6 n T G_74 := by rw [eG_74]; exact (i6.pG i6_19 i _ (by decide))
                have i7_77 : i7 n G_74 := by rw [eG_74]; exact (i7.pG i7_20 i _ (by decide))
                have i8_78 : i8 M n gc G_74 := by rw [eG_74]; exact (i8.pG i8_21 i _ (by decide))
                have i9_79 : i9 M gc G_74 R := by rw [eG_74]; exact (i9.pG i9_22 i _ (by decide))
                have eg_80 : G_74 i 5 = z_73 := by rw [eG_74, u2_eq]
                refine lv_goto (tgt := 83) hx hb dX9_takeAnswers_48 (by decide) ?_
                refine lv_aload_n hx hb dX9_takeAnswers_83 rfl (lv_at hl 0 rfl) ?_
                refine va_get (D := (dC, dI)) (ci := 7) (v := .ref (ad (50 + 16 * j_24 + 1))) (C := RX7) (T := TX7) (N := 15) hx hb hg gb_7 hown hK hP (50 + 16 * j_24) (hQ.b0 hj_24) rfl 10 (by decide) (hg _ gm_fieldLink_RX9_151_ErrandGuild_Run_kin_LErrandGuild_Kin_) (fun _ h9 => h9) rfl dX9_takeAnswers_84 ?_
                refine va_get (D := (dC, dI)) (ci := 4) (v := va_rf (rA9 ad (K j_24 4))) (C := RX4) (T := TX4) (N := 9) hx hb hg gb_4 hown hK hP (50 + 16 * j_24 + 1) (hQ.b1 hj_24) rfl 7 (by decide) (hg _ gm_fieldLink_RX9_228_ErrandGuild_Kin_nextSibling_LErrandGuild_Run_) (fun _ h9 => h9) rfl dX9_takeAnswers_87 ?_
                rcases eo_81 : K j_24 4 with _ | j_82
                · refine W.eq (g2 := F0 m 90 ls [.null]) (by first | rfl | (rw [eo_81]; rfl)) ?_
                  refine lv_astore_nN (lv' := [(3, .null), (2, .int x_3), (1, .null), (0, .ref (ad (50 + 16 * i)))]) hx hb dX9_takeAnswers_90 rfl hl (by decide) rfl (fun ls hl => ?_)
                  refine lv_goto (tgt := 12) hx hb dX9_takeAnswers_91 (by decide) ?_
                  exact ih_12 x_3 none none  ws_75 G_74  H locs ls (by simp only [chM] at *; omega) (fun _ h => by cases h) (fun _ h => by cases h) hQ ⟨i1_14, i2_15, i3_16, i4_17, i5_18, i6_76, i7_77, i8_78, i9_79⟩ hP hD hS (lv_sub hl [0, 1, 2, 3] rfl)
                · refine W.eq (g2 := F0 m 90 ls [.ref (ad (50 + 16 * j_82))]) (by first | rfl | (rw [eo_81]; rfl)) ?_
                  have hj_82 : j_82 < M := i3_16 _ _ _ hj_24 eo_81
                  refine lv_astore_n (lv' := [(3, .ref (ad (50 + 16 * j_82))), (2, .int x_3), (1, .null), (0, .ref (ad (50 + 16 * i)))]) hx hb dX9_takeAnswers_90 rfl hl (by decide) rfl (fun ls hl => ?_)
                  refine lv_goto (tgt := 12) hx hb dX9_takeAnswers_91 (by decide) ?_
                  exact ih_12 x_3 none (some j_82)  ws_75 G_74  H locs ls (by have := i4_17 _ _ hj_24 eo_81; simp only [chM] at *; omega) (fun _ h => by cases h) (fun _ h => by cases h; exact hj_82) hQ ⟨i1_14, i2_15, i3_16, i4_17, i5_18, i6_76, i7_77, i8_78, i9_79⟩ hP hD hS (lv_sub hl [0, 1, 2, 3] rfl)
        · have hl : lv_has ls 4 [(3, va_rf (rA9 ad o_5)), (2, .int x_3), (1, .ref (ad (50 + 16 * j_23))), (0, .ref (ad (50 + 16 * i)))] := hl
          have hj_23 : j_23 < M := v_9 _ rfl
          rcases o_5 with _ | j_83
          · have hl : lv_has ls 4 [(3, .null), (2, .int x_3), (1, .ref (ad (50 + 16 * j_23))), (0, .ref (ad (50 + 16 * i)))] := hl
            refine lv_aload_nN hx hb dX9_takeAnswers_12 rfl (lv_at hl 0 rfl) ?_
            refine lv_ifnullN (tgt := 94) hx hb dX9_takeAnswers_13 (by decide) ?_
            refine lv_aload_n hx hb dX9_takeAnswers_94 rfl (lv_at hl 3 rfl) ?_
            have hFc := free_all hD hS hA
            refine va_callv (va_runS (As := [.ref (ad (50 + 16 * i))]) (rest := []) ⟨hx, hb, hml, hown, hg⟩ (c_X9_settleAwaited l dC dI kc ws_7 ad ga gc M n f T G_6 K F R i H.size (hpS H) hQ ⟨i1_14, i2_15, i3_16, i4_17, i5_18, i6_19, i7_20, i8_21, i9_22⟩ (by show i < M; omega)) (va_cwS 1 hg (gw_S gm_methodLink_RX9_382_yX9_settleAwaited gm_static_yX9_settleAwaited gm_initialized_RX9 gm_code_yX9_settleAwaited_cX9_settleAwaited_2_none) rfl rfl rfl (by decide +kernel) ⟨Nat.le_of_ble_eq_true rfl, Nat.le_of_ble_eq_true rfl⟩) ⟨fun a U g mk q => by obtain ⟨q0, q1, q2, qP, qK, qD, qN⟩ := q; exact ⟨q0, q1, q2, qP, va_K.moved (u := U) (U := U.calling g mk a) (Vm.Alike.refl U.vm) qK, qD, nx_same (u := U) (U := U.calling g mk a) rfl qN⟩, fun U hU hW => ⟨rfl, by rw [hU], by rw [hU], by rw [hU]; exact hP, va_K.moved hW.alike hK, hD.weaken (fun _ _ _ _ => trivial), nx_warm hW hN⟩⟩ rfl rfl hl.1 rfl (lv_room (Nat.le_of_ble_eq_true rfl)) dX9_takeAnswers_95 ⟨Nat.le_of_ble_eq_true rfl, Nat.le_of_ble_eq_true rfl⟩) hS (fun q _ h => hFc q h) hFc (fun u_85 t H1 locs ht hvm hw hB hz1 hk1 hS => ?_)
            obtain ⟨ad_86, ga_87, gc_88, M_89, n_90, f_91, T_92, G_93, K_94, F_95⟩ := u_85
            have hB : ∃ w : va_W, va_P (dC, dI) vwCl w t.heap ∧ va_D (va_A ws_7 H.size) w ∧ Pic9 kc w ad ga gc M n f T G_93 K F ∧ I9 M n T gc G_93 K R ∧ hpS t.heap + (260 * M + 2 * S9 M gc) ≤ hpS H + (260 * M + 2 * S9 M gc) ∧ 16 * t.heap.size + (256 * M + S9 M gc) ≤ 16 * H.size + (256 * M + S9 M gc) := hB
            rw [ht] at hB
            obtain ⟨ws_96, hP, hD, hQ, hI_97, hy1, hy2⟩ := hB
            have hD := hD.weaken (fun k q _ h => hFc _ h)
            obtain ⟨i1_98, i2_99, i3_100, i4_101, i5_102, i6_103, i7_104, i8_105, i9_106⟩ := id hI_97
            have q1_ := i1_98
            unfold i1 at q1_
            generalize H1 = H at hP hS ⊢
            refine lv_aload_n hx hb dX9_takeAnswers_98 rfl (lv_at hl 3 rfl) ?_
            refine lv_iconst (v := 0) hx hb dX9_takeAnswers_99 (by decide) ?_
            refine va_put (D := (dC, dI)) (ci := 7) (v := .int (0)) (ty := .boolean) (C := RX7) (T := TX7) (N := 15) hx hb hg gb_7 tyX7 tyX7_ok nmX7 hown hK hP hD hS (50 + 16 * i) (hQ.b0 hi) rfl 9 (by decide) (hg _ gm_fieldLink_RX9_289_ErrandGuild_Run_returning_Z_) (fun _ h9 => h9) rfl (by decide +kernel) rfl rfl (Nat.le_of_ble_eq_true rfl) dX9_takeAnswers_100 (fun H locs hP hD hS => ?_)
            obtain ⟨ws_108, G_107, eG_107, hP, hD, hQ⟩ : ∃ (ws_108 : va_W) (G_107 : Nat → Nat → Int32), G_107 = u2 G_93 i 9 0 ∧ va_P (dC, dI) vwCl ws_108 H ∧ va_D A ws_108 ∧ Pic9 kc ws_108 ad ga gc M n f T G_107 K F := ⟨_, _, rfl, hP, hD, hQ.run hi 9 (by decide) 0⟩
            have i6_109 : i6 n T G_107 := by rw [eG_107]; exact (i6.pG i6_103 i _ (by decide))
            have i7_110 : i7 n G_107 := by rw [eG_107]; exact (i7.pG i7_104 i _ (by decide))
            have i8_111 : i8 M n gc G_107 := by rw [eG_107]; exact (i8.pG i8_105 i _ (by decide))
            have i9_112 : i9 M gc G_107 R := by rw [eG_107]; exact (i9.pG i9_106 i _ (by decide))
            have eg_113 : G_107 i 9 = 0 := by rw [eG_107, u2_eq]
            refine lv_aload_n hx hb dX9_takeAnswers_103 rfl (lv_at hl 2 rfl) ?_
            refine lv_ifnonnull (tgt := 109) hx hb dX9_takeAnswers_104 (by decide) ?_
            refine lv_aload_n hx hb dX9_takeAnswers_109 rfl (lv_at hl 3 rfl) ?_
            refine va_get (D := (dC, dI)) (ci := 7) (v := .ref (ad (50 + 16 * i + 13))) (C := RX7) (T := TX7) (N := 15) hx hb hg gb_7 hown hK hP (50 + 16 * i) (hQ.b0 hi) rfl 13 (by decide) (hg _ gm_fieldLink_RX9_201_ErrandGuild_Run_fault_LErrandGuild_Fault_) (fun _ h9 => h9) rfl dX9_takeAnswers_110 ?_
            refine lv_aload_n hx hb dX9_takeAnswers_113 rfl (lv_at hl 2 rfl) ?_
            refine va_get (D := (dC, dI)) (ci := 7) (v := .int (G_107 j_23 0)) (C := RX7) (T := TX7) (N := 15) hx hb hg gb_7 hown hK hP (50 + 16 * j_23) (hQ.b0 hj_23) rfl 0 (by decide) (hg _ gm_fieldLink_RX9_118_ErrandGuild_Run_number_I_) (fun _ h9 => h9) rfl dX9_takeAnswers_114 ?_
            refine va_put (D := (dC, dI)) (ci := 2) (v := .int (G_107 j_23 0)) (ty := .int) (C := RX2) (T := TX2) (N := 5) hx hb hg gb_2 tyX2 tyX2_ok nmX2 hown hK hP hD hS (50 + 16 * i + 13) (hQ.b13 hi) rfl 2 (by decide) (hg _ gm_fieldLink_RX9_213_ErrandGuild_Fault_cause_I_) (fun _ h9 => h9) rfl (by decide +kernel) rfl rfl (Nat.le_of_ble_eq_true rfl) dX9_takeAnswers_117 (fun H locs hP hD hS => ?_)
            obtain ⟨ws_115, G_114, eG_114, hP, hD, hQ⟩ : ∃ (ws_115 : va_W) (G_114 : Nat → Nat → Int32), G_114 = u2 G_107 i 19 (G_107 j_23 0) ∧ va_P (dC, dI) vwCl ws_115 H ∧ va_D A ws_115 ∧ Pic9 kc ws_115 ad ga gc M n f T G_114 K F := ⟨_, _, rfl, hP, hD, hQ.fltI hi 2 (by decide) (G_107 j_23 0)⟩
            have i6_116 : i6 n T G_114 := by rw [eG_114]; exact (i6.pG i6_109 i _ (by decide))
            have i7_117 : i7 n G_114 := by rw [eG_114]; exact (i7.pG i7_110 i _ (by decide))
            have i8_118 : i8 M n gc G_114 := by rw [eG_114]; exact (i8.pG i8_111 i _ (by decide))
            have i9_119 : i9 M gc G_114 R := by rw [eG_114]; exact (i9.pG i9_112 i _ (by decide))
            have eg_120 : G_114 i 19 = (G_107 j_23 0) := by rw [eG_114, u2_eq]
            refine lv_aload_n hx hb dX9_takeAnswers_120 rfl (lv_at hl 3 rfl) ?_
            refine va_get (D := (dC, dI)) (ci := 7) (v := .ref (ad (50 + 16 * i + 13))) (C := RX7) (T := TX7) (N := 15) hx hb hg gb_7 hown hK hP (50 + 16 * i) (hQ.b0 hi) rfl 13 (by decide) (hg _ gm_fieldLink_RX9_201_ErrandGuild_Run_fault_LErrandGuild_Fault_) (fun _ h9 => h9) rfl dX9_takeAnswers_121 ?_
            refine lv_iload_n hx hb dX9_takeAnswers_124 rfl (lv_at hl 1 rfl) ?_
            refine lv_iconst (v := 1) hx hb dX9_takeAnswers_125 (by decide) ?_
            refine lv_isub hx hb dX9_takeAnswers_126 ?_
            refine lv_topi (fun z_121 ez_121 => ?_)
            refine va_put (D := (dC, dI)) (ci := 2) (v := .int (z_121)) (ty := .int) (C := RX2) (T := TX2) (N := 5) hx hb hg gb_2 tyX2 tyX2_ok nmX2 hown hK hP hD hS (50 + 16 * i + 13) (hQ.b13 hi) rfl 3 (by decide) (hg _ gm_fieldLink_RX9_216_ErrandGuild_Fault_suppressed_I_) (fun _ h9 => h9) rfl (by decide +kernel) rfl rfl (Nat.le_of_ble_eq_true rfl) dX9_takeAnswers_127 (fun H locs hP hD hS => ?_)
            obtain ⟨ws_123, G_122, eG_122, hP, hD, hQ⟩ : ∃ (ws_123 : va_W) (G_122 : Nat → Nat → Int32), G_122 = u2 G_114 i 20 z_121 ∧ va_P (dC, dI) vwCl ws_123 H ∧ va_D A ws_123 ∧ Pic9 kc ws_123 ad ga gc M n f T G_122 K F := ⟨_, _, rfl, hP, hD, hQ.fltI hi 3 (by decide) z_121⟩
            have i6_124 : i6 n T G_122 := by rw [eG_122]; exact (i6.pG i6_116 i _ (by decide))
            have i7_125 : i7 n G_122 := by rw [eG_122]; exact (i7.pG i7_117 i _ (by decide))
            have i8_126 : i8 M n gc G_122 := by rw [eG_122]; exact (i8.pG i8_118 i _ (by decide))
            have i9_127 : i9 M gc G_122 R := by rw [eG_122]; exact (i9.pG i9_119 i _ (by decide))
            have eg_128 : G_122 i 20 = z_121 := by rw [eG_122, u2_eq]
            refine lv_aload_n hx hb dX9_takeAnswers_130 rfl (lv_at hl 2 rfl) ?_
            refine va_get (D := (dC, dI)) (ci := 7) (v := .ref (ad (50 + 16 * j_23 + 13))) (C := RX7) (T := TX7) (N := 15) hx hb hg gb_7 hown hK hP (50 + 16 * j_23) (hQ.b0 hj_23) rfl 13 (by decide) (hg _ gm_fieldLink_RX9_201_ErrandGuild_Run_fault_LErrandGuild_Fault_) (fun _ h9 => h9) rfl dX9_takeAnswers_131 ?_
            refine va_get (D := (dC, dI)) (ci := 2) (v := .int (G_122 j_23 17)) (C := RX2) (T := TX2) (N := 5) hx hb hg gb_2 hown hK hP (50 + 16 * j_23 + 13) (hQ.b13 hj_23) rfl 0 (by decide) (hg _ gm_fieldLink_RX9_205_ErrandGuild_Fault_kind_I_) (fun _ h9 => h9) rfl dX9_takeAnswers_134 ?_
            refine W_msr2 (fun hm1 hm2 hm3 => ?_)
            exact W.iret (v := G_122 j_23 17) hx hb hr (fun t ht hW => ⟨⟨G_122 j_23 17, (ad, ga, gc, M, n, f, T, G_122, K, F), rfl, trivial, ws_123, by rw [ht]; exact hP, hD, hQ, ⟨i1_98, i2_99, i3_100, i4_101, i5_102, i6_124, i7_125, i8_126, i9_127⟩, by rw [ht]; show hpS H + (260 * M + 2 * S9 M gc) ≤ hpS s.heap + (260 * M + 2 * S9 M gc); omega, by rw [ht]; show 16 * H.size + (256 * M + S9 M gc) ≤ 16 * s.heap.size + (256 * M + S9 M gc); omega⟩, hS.F ht⟩) hS.2.2 dX9_takeAnswers_137
          · have hl : lv_has ls 4 [(3, .ref (ad (50 + 16 * j_83))), (2, .int x_3), (1, .ref (ad (50 + 16 * j_23))), (0, .ref (ad (50 + 16 * i)))] := hl
            have hj_83 : j_83 < M := v_10 _ rfl
            refine lv_aload_n hx hb dX9_takeAnswers_12 rfl (lv_at hl 0 rfl) ?_
            refine lv_ifnull hx hb dX9_takeAnswers_13 ?_
            refine lv_aload_n hx hb dX9_takeAnswers_16 rfl (lv_at hl 0 rfl) ?_
            refine va_get (D := (dC, dI)) (ci := 7) (v := .ref (ad (50 + 16 * j_83 + 1))) (C := RX7) (T := TX7) (N := 15) hx hb hg gb_7 hown hK hP (50 + 16 * j_83) (hQ.b0 hj_83) rfl 10 (by decide) (hg _ gm_fieldLink_RX9_151_ErrandGuild_Run_kin_LErrandGuild_Kin_) (fun _ h9 => h9) rfl dX9_takeAnswers_17 ?_
            refine va_get (D := (dC, dI)) (ci := 4) (v := .int (G_6 j_83 12)) (C := RX4) (T := TX4) (N := 9) hx hb hg gb_4 hown hK hP (50 + 16 * j_83 + 1) (hQ.b1 hj_83) rfl 4 (by decide) (hg _ gm_fieldLink_RX9_379_ErrandGuild_Kin_claim_I_) (fun _ h9 => h9) rfl dX9_takeAnswers_20 ?_
            refine lv_iconst (v := 1) hx hb dX9_takeAnswers_23 (by decide) ?_
            refine lv_icmp_ne (tgt := 51) hx hb dX9_takeAnswers_24 (by decide) (fun c_129 => ?_) (fun c_129 => ?_)
            · simp only [i_lt, i_le, i_eq, ti_1] at c_129
              refine lv_aload_n hx hb dX9_takeAnswers_51 rfl (lv_at hl 0 rfl) ?_
              refine va_get (D := (dC, dI)) (ci := 7) (v := .ref (ad (50 + 16 * j_83 + 1))) (C := RX7) (T := TX7) (N := 15) hx hb hg gb_7 hown hK hP (50 + 16 * j_83) (hQ.b0 hj_83) rfl 10 (by decide) (hg _ gm_fieldLink_RX9_151_ErrandGuild_Run_kin_LErrandGuild_Kin_) (fun _ h9 => h9) rfl dX9_takeAnswers_52 ?_
              refine va_get (D := (dC, dI)) (ci := 4) (v := .int (G_6 j_83 12)) (C := RX4) (T := TX4) (N := 9) hx hb hg gb_4 hown hK hP (50 + 16 * j_83 + 1) (hQ.b1 hj_83) rfl 4 (by decide) (hg _ gm_fieldLink_RX9_379_ErrandGuild_Kin_claim_I_) (fun _ h9 => h9) rfl dX9_takeAnswers_55 ?_
              refine lv_iconst (v := 1) hx hb dX9_takeAnswers_58 (by decide) ?_
              refine lv_icmp_ne (tgt := 83) hx hb dX9_takeAnswers_59 (by decide) (fun c_130 => ?_) (fun c_130 => ?_)
              · simp only [i_lt, i_le, i_eq, ti_1] at c_130
                refine lv_aload_n hx hb dX9_takeAnswers_83 rfl (lv_at hl 0 rfl) ?_
                refine va_get (D := (dC, dI)) (ci := 7) (v := .ref (ad (50 + 16 * j_83 + 1))) (C := RX7) (T := TX7) (N := 15) hx hb hg gb_7 hown hK hP (50 + 16 * j_83) (hQ.b0 hj_83) rfl 10 (by decide) (hg _ gm_fieldLink_RX9_151_ErrandGuild_Run_kin_LErrandGuild_Kin_) (fun _ h9 => h9) rfl dX9_takeAnswers_84 ?_
                refine va_get (D := (dC, dI)) (ci := 4) (v := va_rf (rA9 ad (K j_83 4))) (C := RX4) (T := TX4) (N := 9) hx hb hg gb_4 hown hK hP (50 + 16 * j_83 + 1) (hQ.b1 hj_83) rfl 7 (by decide) (hg _ gm_fieldLink_RX9_228_ErrandGuild_Kin_nextSibling_LErrandGuild_Run_) (fun _ h9 => h9) rfl dX9_takeAnswers_87 ?_
                rcases eo_131 : K j_83 4 with _ | j_132
                · refine W.eq (g2 := F0 m 90 ls [.null]) (by first | rfl | (rw [eo_131]; rfl)) ?_
                  refine lv_astore_nN (lv' := [(3, .null), (2, .int x_3), (1, .ref (ad (50 + 16 * j_23))), (0, .ref (ad (50 + 16 * i)))]) hx hb dX9_takeAnswers_90 rfl hl (by decide) rfl (fun ls hl => ?_)
                  refine lv_goto (tgt := 12) hx hb dX9_takeAnswers_91 (by decide) ?_
                  exact ih_12 x_3 (some j_23) none  ws_7 G_6  H locs ls (by simp only [chM] at *; omega) (fun _ h => by cases h; exact hj_23) (fun _ h => by cases h) hQ ⟨i1_14, i2_15, i3_16, i4_17, i5_18, i6_19, i7_20, i8_21, i9_22⟩ hP hD hS (lv_sub hl [0, 1, 2, 3] rfl)
                · refine W.eq (g2 := F0 m 90 ls [.ref (ad (50 + 16 * j_132))]) (by first | rfl | (rw [eo_131]; rfl)) ?_
                  have hj_132 : j_132 < M := i3_16 _ _ _ hj_83 eo_131
                  refine lv_astore_n (lv' := [(3, .ref (ad (50 + 16 * j_132))), (2, .int x_3), (1, .ref (ad (50 + 16 * j_23))), (0, .ref (ad (50 + 16 * i)))]) hx hb dX9_takeAnswers_90 rfl hl (by decide) rfl (fun ls hl => ?_)
                  refine lv_goto (tgt := 12) hx hb dX9_takeAnswers_91 (by decide) ?_
                  exact ih_12 x_3 (some j_23) (some j_132)  ws_7 G_6  H locs ls (by have := i4_17 _ _ hj_83 eo_131; simp only [chM] at *; omega) (fun _ h => by cases h; exact hj_23) (fun _ h => by cases h; exact hj_132) hQ ⟨i1_14, i2_15, i3_16, i4_17, i5_18, i6_19, i7_20, i8_21, i9_22⟩ hP hD hS (lv_sub hl [0, 1, 2, 3] rfl)
              · simp only [i_lt, i_le, i_eq, ti_1] at c_130
                refine lv_aload_n hx hb dX9_takeAnswers_62 rfl (lv_at hl 0 rfl) ?_
                refine va_get (D := (dC, dI)) (ci := 7) (v := .int (G_6 j_83 2)) (C := RX7) (T := TX7) (N := 15) hx hb hg gb_7 hown hK hP (50 + 16 * j_83) (hQ.b0 hj_83) rfl 2 (by decide) (hg _ gm_fieldLink_RX9_145_ErrandGuild_Run_state_I_) (fun _ h9 => h9) rfl dX9_takeAnswers_63 ?_
                refine lv_iconst (v := 4) hx hb dX9_takeAnswers_66 (by decide) ?_
                refine lv_icmp_ne (tgt := 83) hx hb dX9_takeAnswers_67 (by decide) (fun c_133 => ?_) (fun c_133 => ?_)
                · simp only [i_lt, i_le, i_eq, ti_4] at c_133
                  refine lv_aload_n hx hb dX9_takeAnswers_83 rfl (lv_at hl 0 rfl) ?_
                  refine va_get (D := (dC, dI)) (ci := 7) (v := .ref (ad (50 + 16 * j_83 + 1))) (C := RX7) (T := TX7) (N := 15) hx hb hg gb_7 hown hK hP (50 + 16 * j_83) (hQ.b0 hj_83) rfl 10 (by decide) (hg _ gm_fieldLink_RX9_151_ErrandGuild_Run_kin_LErrandGuild_Kin_) (fun _ h9 => h9) rfl dX9_takeAnswers_84 ?_
                  refine va_get (D := (dC, dI)) (ci := 4) (v := va_rf (rA9 ad (K j_83 4))) (C := RX4) (T := TX4) (N := 9) hx hb hg gb_4 hown hK hP (50 + 16 * j_83 + 1) (hQ.b1 hj_83) rfl 7 (by decide) (hg _ gm_fieldLink_RX9_228_ErrandGuild_Kin_nextSibling_LErrandGuild_Run_) (fun _ h9 => h9) rfl dX9_takeAnswers_87 ?_
                  rcases eo_134 : K j_83 4 with _ | j_135
                  · refine W.eq (g2 := F0 m 90 ls [.null]) (by first | rfl | (rw [eo_134]; rfl)) ?_
                    refine lv_astore_nN (lv' := [(3, .null), (2, .int x_3), (1, .ref (ad (50 + 16 * j_23))), (0, .ref (ad (50 + 16 * i)))]) hx hb dX9_takeAnswers_90 rfl hl (by decide) rfl (fun ls hl => ?_)
                    refine lv_goto (tgt := 12) hx hb dX9_takeAnswers_91 (by decide) ?_
                    exact ih_12 x_3 (some j_23) none  ws_7 G_6  H locs ls (by simp only [chM] at *; omega) (fun _ h => by cases h; exact hj_23) (fun _ h => by cases h) hQ ⟨i1_14, i2_15, i3_16, i4_17, i5_18, i6_19, i7_20, i8_21, i9_22⟩ hP hD hS (lv_sub hl [0, 1, 2, 3] rfl)
                  · refine W.eq (g2 := F0 m 90 ls [.ref (ad (50 + 16 * j_135))]) (by first | rfl | (rw [eo_134]; rfl)) ?_
                    have hj_135 : j_135 < M := i3_16 _ _ _ hj_83 eo_134
                    refine lv_astore_n (lv' := [(3, .ref (ad (50 + 16 * j_135))), (2, .int x_3), (1, .ref (ad (50 + 16 * j_23))), (0, .ref (ad (50 + 16 * i)))]) hx hb dX9_takeAnswers_90 rfl hl (by decide) rfl (fun ls hl => ?_)
                    refine lv_goto (tgt := 12) hx hb dX9_takeAnswers_91 (by decide) ?_
                    exact ih_12 x_3 (some j_23) (some j_135)  ws_7 G_6  H locs ls (by have := i4_17 _ _ hj_83 eo_134; simp only [chM] at *; omega) (fun _ h => by cases h; exact hj_23) (fun _ h => by cases h; exact hj_135) hQ ⟨i1_14, i2_15, i3_16, i4_17, i5_18, i6_19, i7_20, i8_21, i9_22⟩ hP hD hS (lv_sub hl [0, 1, 2, 3] rfl)
                · simp only [i_lt, i_le, i_eq, ti_4] at c_133
                  obtain ⟨y_136, ey_136⟩ : ∃ q : Int32, q = x_3 + (1) := ⟨_, rfl⟩
                  refine lv_iinc (v := y_136) (lv' := [(2, .int y_136), (3, .ref (ad (50 + 16 * j_83))), (1, .ref (ad (50 + 16 * j_23))), (0, .ref (ad (50 + 16 * i)))]) hx hb dX9_takeAnswers_70 hl (k := 1) rfl (by rw [ey_136]; rfl) (by decide) rfl (fun ls hl => ?_)
                  refine lv_aload_n hx hb dX9_takeAnswers_73 rfl (lv_at hl 2 rfl) ?_
                  refine lv_ifnonnull (tgt := 81) hx hb dX9_takeAnswers_74 (by decide) ?_
                  refine lv_aload_n hx hb dX9_takeAnswers_81 rfl (lv_at hl 2 rfl) ?_
                  refine lv_astore_n (lv' := [(1, .ref (ad (50 + 16 * j_23))), (2, .int y_136), (3, .ref (ad (50 + 16 * j_83))), (0, .ref (ad (50 + 16 * i)))]) hx hb dX9_takeAnswers_82 rfl hl (by decide) rfl (fun ls hl => ?_)
                  refine lv_aload_n hx hb dX9_takeAnswers_83 rfl (lv_at hl 2 rfl) ?_
                  refine va_get (D := (dC, dI)) (ci := 7) (v := .ref (ad (50 + 16 * j_83 + 1))) (C := RX7) (T := TX7) (N := 15) hx hb hg gb_7 hown hK hP (50 + 16 * j_83) (hQ.b0 hj_83) rfl 10 (by decide) (hg _ gm_fieldLink_RX9_151_ErrandGuild_Run_kin_LErrandGuild_Kin_) (fun _ h9 => h9) rfl dX9_takeAnswers_84 ?_
                  refine va_get (D := (dC, dI)) (ci := 4) (v := va_rf (rA9 ad (K j_83 4))) (C := RX4) (T := TX4) (N := 9) hx hb hg gb_4 hown hK hP (50 + 16 * j_83 + 1) (hQ.b1 hj_83) rfl 7 (by decide) (hg _ gm_fieldLink_RX9_228_ErrandGuild_Kin_nextSibling_LErrandGuild_Run_) (fun _ h9 => h9) rfl dX9_takeAnswers_87 ?_
                  rcases eo_137 : K j_83 4 with _ | j_138
                  · refine W.eq (g2 := F0 m 90 ls [.null]) (by first | rfl | (rw [eo_137]; rfl)) ?_
                    refine lv_astore_nN (lv' := [(3, .null), (1, .ref (ad (50 + 16 * j_23))), (2, .int y_136), (0, .ref (ad (50 + 16 * i)))]) hx hb dX9_takeAnswers_90 rfl hl (by decide) rfl (fun ls hl => ?_)
                    refine lv_goto (tgt := 12) hx hb dX9_takeAnswers_91 (by decide) ?_
                    exact ih_12 y_136 (some j_23) none  ws_7 G_6  H locs ls (by simp only [chM] at *; omega) (fun _ h => by cases h; exact hj_23) (fun _ h => by cases h) hQ ⟨i1_14, i2_15, i3_16, i4_17, i5_18, i6_19, i7_20, i8_21, i9_22⟩ hP hD hS (lv_sub hl [0, 2, 1, 3] rfl)
                  · refine W.eq (g2 := F0 m 90 ls [.ref (ad (50 + 16 * j_138))]) (by first | rfl | (rw [eo_137]; rfl)) ?_
                    have hj_138 : j_138 < M := i3_16 _ _ _ hj_83 eo_137
                    refine lv_astore_n (lv' := [(3, .ref (ad (50 + 16 * j_138))), (1, .ref (ad (50 + 16 * j_23))), (2, .int y_136), (0, .ref (ad (50 + 16 * i)))]) hx hb dX9_takeAnswers_90 rfl hl (by decide) rfl (fun ls hl => ?_)
                    refine lv_goto (tgt := 12) hx hb dX9_takeAnswers_91 (by decide) ?_
                    exact ih_12 y_136 (some j_23) (some j_138)  ws_7 G_6  H locs ls (by have := i4_17 _ _ hj_83 eo_137; simp only [chM] at *; omega) (fun _ h => by cases h; exact hj_23) (fun _ h => by cases h; exact hj_138) hQ ⟨i1_14, i2_15, i3_16, i4_17, i5_18, i6_19, i7_20, i8_21, i9_22⟩ hP hD hS (lv_sub hl [0, 2, 1, 3] rfl)
            · simp only [i_lt, i_le, i_eq, ti_1] at c_129
              refine lv_aload_n hx hb dX9_takeAnswers_27 rfl (lv_at hl 0 rfl) ?_
              refine va_get (D := (dC, dI)) (ci := 7) (v := .int (G_6 j_83 2)) (C := RX7) (T := TX7) (N := 15) hx hb hg gb_7 hown hK hP (50 + 16 * j_83) (hQ.b0 hj_83) rfl 2 (by decide) (hg _ gm_fieldLink_RX9_145_ErrandGuild_Run_state_I_) (fun _ h9 => h9) rfl dX9_takeAnswers_28 ?_
              refine lv_iconst (v := 3) hx hb dX9_takeAnswers_31 (by decide) ?_
              refine lv_icmp_ne (tgt := 51) hx hb dX9_takeAnswers_32 (by decide) (fun c_139 => ?_) (fun c_139 => ?_)
              · simp only [i_lt, i_le, i_eq, ti_3] at c_139
                refine lv_aload_n hx hb dX9_takeAnswers_51 rfl (lv_at hl 0 rfl) ?_
                refine va_get (D := (dC, dI)) (ci := 7) (v := .ref (ad (50 + 16 * j_83 + 1))) (C := RX7) (T := TX7) (N := 15) hx hb hg gb_7 hown hK hP (50 + 16 * j_83) (hQ.b0 hj_83) rfl 10 (by decide) (hg _ gm_fieldLink_RX9_151_ErrandGuild_Run_kin_LErrandGuild_Kin_) (fun _ h9 => h9) rfl dX9_takeAnswers_52 ?_
                refine va_get (D := (dC, dI)) (ci := 4) (v := .int (G_6 j_83 12)) (C := RX4) (T := TX4) (N := 9) hx hb hg gb_4 hown hK hP (50 + 16 * j_83 + 1) (hQ.b1 hj_83) rfl 4 (by decide) (hg _ gm_fieldLink_RX9_379_ErrandGuild_Kin_claim_I_) (fun _ h9 => h9) rfl dX9_takeAnswers_55 ?_
                refine lv_iconst (v := 1) hx hb dX9_takeAnswers_58 (by decide) ?_
                refine lv_icmp_ne (tgt := 83) hx hb dX9_takeAnswers_59 (by decide) (fun c_140 => ?_) (fun c_140 => ?_)
                · simp only [i_lt, i_le, i_eq, ti_1] at c_140
                  exfalso
                  omega
                · simp only [i_lt, i_le, i_eq, ti_1] at c_140
                  refine lv_aload_n hx hb dX9_takeAnswers_62 rfl (lv_at hl 0 rfl) ?_
                  refine va_get (D := (dC, dI)) (ci := 7) (v := .int (G_6 j_83 2)) (C := RX7) (T := TX7) (N := 15) hx hb hg gb_7 hown hK hP (50 + 16 * j_83) (hQ.b0 hj_83) rfl 2 (by decide) (hg _ gm_fieldLink_RX9_145_ErrandGuild_Run_state_I_) (fun _ h9 => h9) rfl dX9_takeAnswers_63 ?_
                  refine lv_iconst (v := 4) hx hb dX9_takeAnswers_66 (by decide) ?_
                  refine lv_icmp_ne (tgt := 83) hx hb dX9_takeAnswers_67 (by decide) (fun c_141 => ?_) (fun c_141 => ?_)
                  · simp only [i_lt, i_le, i_eq, ti_4] at c_141
                    refine lv_aload_n hx hb dX9_takeAnswers_83 rfl (lv_at hl 0 rfl) ?_
                    refine va_get (D := (dC, dI)) (ci := 7) (v := .ref (ad (50 + 16 * j_83 + 1))) (C := RX7) (T := TX7) (N := 15) hx hb hg gb_7 hown hK hP (50 + 16 * j_83) (hQ.b0 hj_83) rfl 10 (by decide) (hg _ gm_fieldLink_RX9_151_ErrandGuild_Run_kin_LErrandGuild_Kin_) (fun _ h9 => h9) rfl dX9_takeAnswers_84 ?_
                    refine va_get (D := (dC, dI)) (ci := 4) (v := va_rf (rA9 ad (K j_83 4))) (C := RX4) (T := TX4) (N := 9) hx hb hg gb_4 hown hK hP (50 + 16 * j_83 + 1) (hQ.b1 hj_83) rfl 7 (by decide) (hg _ gm_fieldLink_RX9_228_ErrandGuild_Kin_nextSibling_LErrandGuild_Run_) (fun _ h9 => h9) rfl dX9_takeAnswers_87 ?_
                    rcases eo_142 : K j_83 4 with _ | j_143
                    · refine W.eq (g2 := F0 m 90 ls [.null]) (by first | rfl | (rw [eo_142]; rfl)) ?_
                      refine lv_astore_nN (lv' := [(3, .null), (2, .int x_3), (1, .ref (ad (50 + 16 * j_23))), (0, .ref (ad (50 + 16 * i)))]) hx hb dX9_takeAnswers_90 rfl hl (by decide) rfl (fun ls hl => ?_)
                      refine lv_goto (tgt := 12) hx hb dX9_takeAnswers_91 (by decide) ?_
                      exact ih_12 x_3 (some j_23) none  ws_7 G_6  H locs ls (by simp only [chM] at *; omega) (fun _ h => by cases h; exact hj_23) (fun _ h => by cases h) hQ ⟨i1_14, i2_15, i3_16, i4_17, i5_18, i6_19, i7_20, i8_21, i9_22⟩ hP hD hS (lv_sub hl [0, 1, 2, 3] rfl)
                    · refine W.eq (g2 := F0 m 90 ls [.ref (ad (50 + 16 * j_143))]) (by first | rfl | (rw [eo_142]; rfl)) ?_
                      have hj_143 : j_143 < M := i3_16 _ _ _ hj_83 eo_142
                      refine lv_astore_n (lv' := [(3, .ref (ad (50 + 16 * j_143))), (2, .int x_3), (1, .ref (ad (50 + 16 * j_23))), (0, .ref (ad (50 + 16 * i)))]) hx hb dX9_takeAnswers_90 rfl hl (by decide) rfl (fun ls hl => ?_)
                      refine lv_goto (tgt := 12) hx hb dX9_takeAnswers_91 (by decide) ?_
                      exact ih_12 x_3 (some j_23) (some j_143)  ws_7 G_6  H locs ls (by have := i4_17 _ _ hj_83 eo_142; simp only [chM] at *; omega) (fun _ h => by cases h; exact hj_23) (fun _ h => by cases h; exact hj_143) hQ ⟨i1_14, i2_15, i3_16, i4_17, i5_18, i6_19, i7_20, i8_21, i9_22⟩ hP hD hS (lv_sub hl [0, 1, 2, 3] rfl)
                  · simp only [i_lt, i_le, i_eq, ti_4] at c_141
                    obtain ⟨y_144, ey_144⟩ : ∃ q : Int32, q = x_3 + (1) := ⟨_, rfl⟩
                    refine lv_iinc (v := y_144) (lv' := [(2, .int y_144), (3, .ref (ad (50 + 16 * j_83))), (1, .ref (ad (50 + 16 * j_23))), (0, .ref (ad (50 + 16 * i)))]) hx hb dX9_takeAnswers_70 hl (k := 1) rfl (by rw [ey_144]; rfl) (by decide) rfl (fun ls hl => ?_)
                    refine lv_aload_n hx hb dX9_takeAnswers_73 rfl (lv_at hl 2 rfl) ?_
                    refine lv_ifnonnull (tgt := 81) hx hb dX9_takeAnswers_74 (by decide) ?_
                    refine lv_aload_n hx hb dX9_takeAnswers_81 rfl (lv_at hl 2 rfl) ?_
                    refine lv_astore_n (lv' := [(1, .ref (ad (50 + 16 * j_23))), (2, .int y_144), (3, .ref (ad (50 + 16 * j_83))), (0, .ref (ad (50 + 16 * i)))]) hx hb dX9_takeAnswers_82 rfl hl (by decide) rfl (fun ls hl => ?_)
                    refine lv_aload_n hx hb dX9_takeAnswers_83 rfl (lv_at hl 2 rfl) ?_
                    refine va_get (D := (dC, dI)) (ci := 7) (v := .ref (ad (50 + 16 * j_83 + 1))) (C := RX7) (T := TX7) (N := 15) hx hb hg gb_7 hown hK hP (50 + 16 * j_83) (hQ.b0 hj_83) rfl 10 (by decide) (hg _ gm_fieldLink_RX9_151_ErrandGuild_Run_kin_LErrandGuild_Kin_) (fun _ h9 => h9) rfl dX9_takeAnswers_84 ?_
                    refine va_get (D := (dC, dI)) (ci := 4) (v := va_rf (rA9 ad (K j_83 4))) (C := RX4) (T := TX4) (N := 9) hx hb hg gb_4 hown hK hP (50 + 16 * j_83 + 1) (hQ.b1 hj_83) rfl 7 (by decide) (hg _ gm_fieldLink_RX9_228_ErrandGuild_Kin_nextSibling_LErrandGuild_Run_) (fun _ h9 => h9) rfl dX9_takeAnswers_87 ?_
                    rcases eo_145 : K j_83 4 with _ | j_146
                    · refine W.eq (g2 := F0 m 90 ls [.null]) (by first | rfl | (rw [eo_145]; rfl)) ?_
                      refine lv_astore_nN (lv' := [(3, .null), (1, .ref (ad (50 + 16 * j_23))), (2, .int y_144), (0, .ref (ad (50 + 16 * i)))]) hx hb dX9_takeAnswers_90 rfl hl (by decide) rfl (fun ls hl => ?_)
                      refine lv_goto (tgt := 12) hx hb dX9_takeAnswers_91 (by decide) ?_
                      exact ih_12 y_144 (some j_23) none  ws_7 G_6  H locs ls (by simp only [chM] at *; omega) (fun _ h => by cases h; exact hj_23) (fun _ h => by cases h) hQ ⟨i1_14, i2_15, i3_16, i4_17, i5_18, i6_19, i7_20, i8_21, i9_22⟩ hP hD hS (lv_sub hl [0, 2, 1, 3] rfl)
                    · refine W.eq (g2 := F0 m 90 ls [.ref (ad (50 + 16 * j_146))]) (by first | rfl | (rw [eo_145]; rfl)) ?_
                      have hj_146 : j_146 < M := i3_16 _ _ _ hj_83 eo_145
                      refine lv_astore_n (lv' := [(3, .ref (ad (50 + 16 * j_146))), (1, .ref (ad (50 + 16 * j_23))), (2, .int y_144), (0, .ref (ad (50 + 16 * i)))]) hx hb dX9_takeAnswers_90 rfl hl (by decide) rfl (fun ls hl => ?_)
                      refine lv_goto (tgt := 12) hx hb dX9_takeAnswers_91 (by decide) ?_
                      exact ih_12 y_144 (some j_23) (some j_146)  ws_7 G_6  H locs ls (by have := i4_17 _ _ hj_83 eo_145; simp only [chM] at *; omega) (fun _ h => by cases h; exact hj_23) (fun _ h => by cases h; exact hj_146) hQ ⟨i1_14, i2_15, i3_16, i4_17, i5_18, i6_19, i7_20, i8_21, i9_22⟩ hP hD hS (lv_sub hl [0, 2, 1, 3] rfl)
              · simp only [i_lt, i_le, i_eq, ti_3] at c_139
                refine lv_aload_n hx hb dX9_takeAnswers_35 rfl (lv_at hl 3 rfl) ?_
                refine lv_dup hx hb dX9_takeAnswers_36 rfl ?_
                refine va_get (D := (dC, dI)) (ci := 7) (v := .int (G_6 i 5)) (C := RX7) (T := TX7) (N := 15) hx hb hg gb_7 hown hK hP (50 + 16 * i) (hQ.b0 hi) rfl 5 (by decide) (hg _ gm_fieldLink_RX9_171_ErrandGuild_Run_sum_I_) (fun _ h9 => h9) rfl dX9_takeAnswers_37 ?_
                refine lv_aload_n hx hb dX9_takeAnswers_40 rfl (lv_at hl 0 rfl) ?_
                refine va_get (D := (dC, dI)) (ci := 7) (v := .int (G_6 j_83 5)) (C := RX7) (T := TX7) (N := 15) hx hb hg gb_7 hown hK hP (50 + 16 * j_83) (hQ.b0 hj_83) rfl 5 (by decide) (hg _ gm_fieldLink_RX9_171_ErrandGuild_Run_sum_I_) (fun _ h9 => h9) rfl dX9_takeAnswers_41 ?_
                refine lv_iadd hx hb dX9_takeAnswers_44 ?_
                refine lv_topi (fun z_147 ez_147 => ?_)
                refine va_put (D := (dC, dI)) (ci := 7) (v := .int (z_147)) (ty := .int) (C := RX7) (T := TX7) (N := 15) hx hb hg gb_7 tyX7 tyX7_ok nmX7 hown hK hP hD hS (50 + 16 * i) (hQ.b0 hi) rfl 5 (by decide) (hg _ gm_fieldLink_RX9_171_ErrandGuild_Run_sum_I_) (fun _ h9 => h9) rfl (by decide +kernel) rfl rfl (Nat.le_of_ble_eq_true rfl) dX9_takeAnswers_45 (fun H locs hP hD hS => ?_)
                obtain ⟨ws_149, G_148, eG_148, hP, hD, hQ⟩ : ∃ (ws_149 : va_W) (G_148 : Nat → Nat → Int32), G_148 = u2 G_6 i 5 z_147 ∧ va_P (dC, dI) vwCl ws_149 H ∧ va_D A ws_149 ∧ Pic9 kc ws_149 ad ga gc M n f T G_148 K F := ⟨_, _, rfl, hP, hD, hQ.run hi 5 (by decide) z_147⟩
                have i6_150 : i6 n T G_148 := by rw [eG_148]; exact (i6.pG i6_19 i _ (by decide))
                have i7_151 : i7 n G_148 := by rw [eG_148]; exact (i7.pG i7_20 i _ (by decide))
                have i8_152 : i8 M n gc G_148 := by rw [eG_148]; exact (i8.pG i8_21 i _ (by decide))
                have i9_153 : i9 M gc G_148 R := by rw [eG_148]; exact (i9.pG i9_22 i _ (by decide))
                have eg_154 : G_148 i 5 = z_147 := by rw [eG_148, u2_eq]
                refine lv_goto (tgt := 83) hx hb dX9_takeAnswers_48 (by decide) ?_
                refine lv_aload_n hx hb dX9_takeAnswers_83 rfl (lv_at hl 0 rfl) ?_
                refine va_get (D := (dC, dI)) (ci := 7) (v := .ref (ad (50 + 16 * j_83 + 1))) (C := RX7) (T := TX7) (N := 15) hx hb hg gb_7 hown hK hP (50 + 16 * j_83) (hQ.b0 hj_83) rfl 10 (by decide) (hg _ gm_fieldLink_RX9_151_ErrandGuild_Run_kin_LErrandGuild_Kin_) (fun _ h9 => h9) rfl dX9_takeAnswers_84 ?_
                refine va_get (D := (dC, dI)) (ci := 4) (v := va_rf (rA9 ad (K j_83 4))) (C := RX4) (T := TX4) (N := 9) hx hb hg gb_4 hown hK hP (50 + 16 * j_83 + 1) (hQ.b1 hj_83) rfl 7 (by decide) (hg _ gm_fieldLink_RX9_228_ErrandGuild_Kin_nextSibling_LErrandGuild_Run_) (fun _ h9 => h9) rfl dX9_takeAnswers_87 ?_
                rcases eo_155 : K j_83 4 with _ | j_156
                · refine W.eq (g2 := F0 m 90 ls [.null]) (by first | rfl | (rw [eo_155]; rfl)) ?_
                  refine lv_astore_nN (lv' := [(3, .null), (2, .int x_3), (1, .ref (ad (50 + 16 * j_23))), (0, .ref (ad (50 + 16 * i)))]) hx hb dX9_takeAnswers_90 rfl hl (by decide) rfl (fun ls hl => ?_)
                  refine lv_goto (tgt := 12) hx hb dX9_takeAnswers_91 (by decide) ?_
                  exact ih_12 x_3 (some j_23) none  ws_149 G_148  H locs ls (by simp only [chM] at *; omega) (fun _ h => by cases h; exact hj_23) (fun _ h => by cases h) hQ ⟨i1_14, i2_15, i3_16, i4_17, i5_18, i6_150, i7_151, i8_152, i9_153⟩ hP hD hS (lv_sub hl [0, 1, 2, 3] rfl)
                · refine W.eq (g2 := F0 m 90 ls [.ref (ad (50 + 16 * j_156))]) (by first | rfl | (rw [eo_155]; rfl)) ?_
                  have hj_156 : j_156 < M := i3_16 _ _ _ hj_83 eo_155
                  refine lv_astore_n (lv' := [(3, .ref (ad (50 + 16 * j_156))), (2, .int x_3), (1, .ref (ad (50 + 16 * j_23))), (0, .ref (ad (50 + 16 * i)))]) hx hb dX9_takeAnswers_90 rfl hl (by decide) rfl (fun ls hl => ?_)
                  refine lv_goto (tgt := 12) hx hb dX9_takeAnswers_91 (by decide) ?_
                  exact ih_12 x_3 (some j_23) (some j_156)  ws_149 G_148  H locs ls (by have := i4_17 _ _ hj_83 eo_155; simp only [chM] at *; omega) (fun _ h => by cases h; exact hj_23) (fun _ h => by cases h; exact hj_156) hQ ⟨i1_14, i2_15, i3_16, i4_17, i5_18, i6_150, i7_151, i8_152, i9_153⟩ hP hD hS (lv_sub hl [0, 1, 2, 3] rfl)
    exact L12 _ (0 : Int32) none none  ws G  _ _ _ (Nat.lt_succ_self _) (fun _ h => by cases h) (fun _ h => by cases h) hQ ⟨h_i1, h_i2, h_i3, h_i4, h_i5, h_i6, h_i7, h_i8, h_i9⟩ hP hD hS (lv_sub hl [0, 1, 2, 3] rfl)
  · refine W.eq (g2 := F0 m 11 ls [.ref (ad (50 + 16 * j_2))]) (by first | rfl | (rw [eo_1]; rfl)) ?_
    have hj_2 : j_2 < M := h_i3 _ _ _ hi eo_1
    refine lv_astore_n (lv' := [(3, .ref (ad (50 + 16 * j_2))), (2, .int 0), (1, .null), (0, .ref (ad (50 + 16 * i)))]) hx hb dX9_takeAnswers_11 rfl hl (by decide) rfl (fun ls hl => ?_)
    have L12 : ∀ (fuel : Nat) (x_157 : Int32) (o_158 : Option Nat) (o_159 : Option Nat)  (ws_161 : va_W) (G_160 : Nat → Nat → Int32)  (H : Heap) (locs : List Loc) (ls : Array Slot), chM M o_159 < fuel → (∀ j : Nat, o_158 = some j → j < M) → (∀ j : Nat, o_159 = some j → j < M) → Pic9 kc ws_161 ad ga gc M n f T G_160 K F → I9 M n T gc G_160 K R → va_P (dC, dI) vwCl ws_161 H → va_D A ws_161 → va_S A s.heap H locs → lv_has ls 4 [(3, va_rf (rA9 ad o_159)), (2, .int x_157), (1, va_rf (rA9 ad o_158)), (0, .ref (ad (50 + 16 * i)))] → W p l e (headSpec (.code yX9_takeAnswers cX9_takeAnswers 4 (some .int) :: gw) ({ frames := 1, cells := 0, slots := 0, locals := 21 })).room s m ([.ref (ad (50 + 16 * i))] : List Value).toArray below meth c H locs 0 0 (MQ below (va_Qi (fun (r : Int32) (u : (Nat → Nat) × (Nat → Nat) × (Nat → Nat) × Nat × (Nat → Int32) × (Nat → Nat → Int32) × (Nat → Option Nat) × (Nat → Nat → Int32) × (Nat → Nat → Option Nat) × (Nat → Nat → Nat → Int32)) => True) (fun u t => ∃ w : va_W, va_P (dC, dI) vwCl w t.heap ∧ va_D A w ∧ Pic9 kc w ad ga gc M n f T u.2.2.2.2.2.2.2.1 K F ∧ I9 M n T gc u.2.2.2.2.2.2.2.1 K R ∧ hpS t.heap + (260 * M + 2 * S9 M gc) ≤ (hpS s.heap) + (260 * M + 2 * S9 M gc) ∧ 16 * t.heap.size + (256 * M + S9 M gc) ≤ 16 * s.heap.size + (256 * M + S9 M gc)) A) ([.ref (ad (50 + 16 * i))] : List Value).toArray s 0 0 A) (F0 m 12 ls []) := by
      intro fuel
      induction fuel with
      | zero => intro x_157 o_158 o_159 ws_161 G_160 H locs ls hm; exact absurd hm (Nat.not_lt_zero _)
      | succ fuel_167 ih_166 =>
        intro x_157 o_158 o_159 ws_161 G_160 H locs ls hm_162 v_163 v_164 hQ hI_165 hP hD hS hl
        obtain ⟨i1_168, i2_169, i3_170, i4_171, i5_172, i6_173, i7_174, i8_175, i9_176⟩ := id hI_165
        have q1_ := i1_168
        unfold i1 at q1_
        rcases o_158 with _ | j_177
        · have hl : lv_has ls 4 [(3, va_rf (rA9 ad o_159)), (2, .int x_157), (1, .null), (0, .ref (ad (50 + 16 * i)))] := hl
          rcases o_159 with _ | j_178
          · have hl : lv_has ls 4 [(3, .null), (2, .int x_157), (1, .null), (0, .ref (ad (50 + 16 * i)))] := hl
            refine lv_aload_nN hx hb dX9_takeAnswers_12 rfl (lv_at hl 0 rfl) ?_
            refine lv_ifnullN (tgt := 94) hx hb dX9_takeAnswers_13 (by decide) ?_
            refine lv_aload_n hx hb dX9_takeAnswers_94 rfl (lv_at hl 3 rfl) ?_
            have hFc := free_all hD hS hA
            refine va_callv (va_runS (As := [.ref (ad (50 + 16 * i))]) (rest := []) ⟨hx, hb, hml, hown, hg⟩ (c_X9_settleAwaited l dC dI kc ws_161 ad ga gc M n f T G_160 K F R i H.size (hpS H) hQ ⟨i1_168, i2_169, i3_170, i4_171, i5_172, i6_173, i7_174, i8_175, i9_176⟩ (by show i < M; omega)) (va_cwS 1 hg (gw_S gm_methodLink_RX9_382_yX9_settleAwaited gm_static_yX9_settleAwaited gm_initialized_RX9 gm_code_yX9_settleAwaited_cX9_settleAwaited_2_none) rfl rfl rfl (by decide +kernel) ⟨Nat.le_of_ble_eq_true rfl, Nat.le_of_ble_eq_true rfl⟩) ⟨fun a U g mk q => by obtain ⟨q0, q1, q2, qP, qK, qD, qN⟩ := q; exact ⟨q0, q1, q2, qP, va_K.moved (u := U) (U := U.calling g mk a) (Vm.Alike.refl U.vm) qK, qD, nx_same (u := U) (U := U.calling g mk a) rfl qN⟩, fun U hU hW => ⟨rfl, by rw [hU], by rw [hU], by rw [hU]; exact hP, va_K.moved hW.alike hK, hD.weaken (fun _ _ _ _ => trivial), nx_warm hW hN⟩⟩ rfl rfl hl.1 rfl (lv_room (Nat.le_of_ble_eq_true rfl)) dX9_takeAnswers_95 ⟨Nat.le_of_ble_eq_true rfl, Nat.le_of_ble_eq_true rfl⟩) hS (fun q _ h => hFc q h) hFc (fun u_180 t H1 locs ht hvm hw hB hz1 hk1 hS => ?_)
            obtain ⟨ad_181, ga_182, gc_183, M_184, n_185, f_186, T_187, G_188, K_189, F_190⟩ := u_180
            have hB : ∃ w : va_W, va_P (dC, dI) vwCl w t.heap ∧ va_D (va_A ws_161 H.size) w ∧ Pic9 kc w ad ga gc M n f T G_188 K F ∧ I9 M n T gc G_188 K R ∧ hpS t.heap + (260 * M + 2 * S9 M gc) ≤ hpS H + (260 * M + 2 * S9 M gc) ∧ 16 * t.heap.size + (256 * M + S9 M gc) ≤ 16 * H.size + (256 * M + S9 M gc) := hB
            rw [ht] at hB
            obtain ⟨ws_191, hP, hD, hQ, hI_192, hy1, hy2⟩ := hB
            have hD := hD.weaken (fun k q _ h => hFc _ h)
            obtain ⟨i1_193, i2_194, i3_195, i4_196, i5_197, i6_198, i7_199, i8_200, i9_201⟩ := id hI_192
            have q1_ := i1_193
            unfold i1 at q1_
            generalize H1 = H at hP hS ⊢
            refine lv_aload_n hx hb dX9_takeAnswers_98 rfl (lv_at hl 3 rfl) ?_
            refine lv_iconst (v := 0) hx hb dX9_takeAnswers_99 (by decide) ?_
            refine va_put (D := (dC, dI)) (ci := 7) (v := .int (0)) (ty := .boolean) (C := RX7) (T := TX7) (N := 15) hx hb hg gb_7 tyX7 tyX7_ok nmX7 hown hK hP hD hS (50 + 16 * i) (hQ.b0 hi) rfl 9 (by decide) (hg _ gm_fieldLink_RX9_289_ErrandGuild_Run_returning_Z_) (fun _ h9 => h9) rfl (by decide +kernel) rfl rfl (Nat.le_of_ble_eq_true rfl) dX9_takeAnswers_100 (fun H locs hP hD hS => ?_)
            obtain ⟨ws_203, G_202, eG_202, hP, hD, hQ⟩ : ∃ (ws_203 : va_W) (G_202 : Nat → Nat → Int32), G_202 = u2 G_188 i 9 0 ∧ va_P (dC, dI) vwCl ws_203 H ∧ va_D A ws_203 ∧ Pic9 kc ws_203 ad ga gc M n f T G_202 K F := ⟨_, _, rfl, hP, hD, hQ.run hi 9 (by decide) 0⟩
            have i6_204 : i6 n T G_202 := by rw [eG_202]; exact (i6.pG i6_198 i _ (by decide))
            have i7_205 : i7 n G_202 := by rw [eG_202]; exact (i7.pG i7_199 i _ (by decide))
            have i8_206 : i8 M n gc G_202 := by rw [eG_202]; exact (i8.pG i8_200 i _ (by decide))
            have i9_207 : i9 M gc G_202 R := by rw [eG_202]; exact (i9.pG i9_201 i _ (by decide))
            have eg_208 : G_202 i 9 = 0 := by rw [eG_202, u2_eq]
            refine lv_aload_nN hx hb dX9_takeAnswers_103 rfl (lv_at hl 2 rfl) ?_
            refine lv_ifnonnullN hx hb dX9_takeAnswers_104 ?_
            refine lv_iconst (v := -1) hx hb dX9_takeAnswers_107 (by decide) ?_
            refine W_msr2 (fun hm1 hm2 hm3 => ?_)
            exact W.iret (v := -1) hx hb hr (fun t ht hW => ⟨⟨-1, (ad, ga, gc, M, n, f, T, G_202, K, F), rfl, trivial, ws_203, by rw [ht]; exact hP, hD, hQ, ⟨i1_193, i2_194, i3_195, i4_196, i5_197, i6_204, i7_205, i8_206, i9_207⟩, by rw [ht]; show hpS H + (260 * M + 2 * S9 M gc) ≤ hpS s.heap + (260 * M + 2 * S9 M gc); omega, by rw [ht]; show 16 * H.size + (256 * M + S9 M gc) ≤ 16 * s.heap.size + (256 * M + S9 M gc); omega⟩, hS.F ht⟩) hS.2.2 dX9_takeAnswers_108
          · have hl : lv_has ls 4 [(3, .ref (ad (50 + 16 * j_178))), (2, .int x_157), (1, .null), (0, .ref (ad (50 + 16 * i)))] := hl
            have hj_178 : j_178 < M := v_164 _ rfl
            refine lv_aload_n hx hb dX9_takeAnswers_12 rfl (lv_at hl 0 rfl) ?_
            refine lv_ifnull hx hb dX9_takeAnswers_13 ?_
            refine lv_aload_n hx hb dX9_takeAnswers_16 rfl (lv_at hl 0 rfl) ?_
            refine va_get (D := (dC, dI)) (ci := 7) (v := .ref (ad (50 + 16 * j_178 + 1))) (C := RX7) (T := TX7) (N := 15) hx hb hg gb_7 hown hK hP (50 + 16 * j_178) (hQ.b0 hj_178) rfl 10 (by decide) (hg _ gm_fieldLink_RX9_151_ErrandGuild_Run_kin_LErrandGuild_Kin_) (fun _ h9 => h9) rfl dX9_takeAnswers_17 ?_
            refine va_get (D := (dC, dI)) (ci := 4) (v := .int (G_160 j_178 12)) (C := RX4) (T := TX4) (N := 9) hx hb hg gb_4 hown hK hP (50 + 16 * j_178 + 1) (hQ.b1 hj_178) rfl 4 (by decide) (hg _ gm_fieldLink_RX9_379_ErrandGuild_Kin_claim_I_) (fun _ h9 => h9) rfl dX9_takeAnswers_20 ?_
            refine lv_iconst (v := 1) hx hb dX9_takeAnswers_23 (by decide) ?_
            refine lv_icmp_ne (tgt := 51) hx hb dX9_takeAnswers_24 (by decide) (fun c_209 => ?_) (fun c_209 => ?_)
            · simp only [i_lt, i_le, i_eq, ti_1] at c_209
              refine lv_aload_n hx hb dX9_takeAnswers_51 rfl (lv_at hl 0 rfl) ?_
              refine va_get (D := (dC, dI)) (ci := 7) (v := .ref (ad (50 + 16 * j_178 + 1))) (C := RX7) (T := TX7) (N := 15) hx hb hg gb_7 hown hK hP (50 + 16 * j_178) (hQ.b0 hj_178) rfl 10 (by decide) (hg _ gm_fieldLink_RX9_151_ErrandGuild_Run_kin_LErrandGuild_Kin_) (fun _ h9 => h9) rfl dX9_takeAnswers_52 ?_
              refine va_get (D := (dC, dI)) (ci := 4) (v := .int (G_160 j_178 12)) (C := RX4) (T := TX4) (N := 9) hx hb hg gb_4 hown hK hP (50 + 16 * j_178 + 1) (hQ.b1 hj_178) rfl 4 (by decide) (hg _ gm_fieldLink_RX9_379_ErrandGuild_Kin_claim_I_) (fun _ h9 => h9) rfl dX9_takeAnswers_55 ?_
              refine lv_iconst (v := 1) hx hb dX9_takeAnswers_58 (by decide) ?_
              refine lv_icmp_ne (tgt := 83) hx hb dX9_takeAnswers_59 (by decide) (fun c_210 => ?_) (fun c_210 => ?_)
              · simp only [i_lt, i_le, i_eq, ti_1] at c_210
                refine lv_aload_n hx hb dX9_takeAnswers_83 rfl (lv_at hl 0 rfl) ?_
                refine va_get (D := (dC, dI)) (ci := 7) (v := .ref (ad (50 + 16 * j_178 + 1))) (C := RX7) (T := TX7) (N := 15) hx hb hg gb_7 hown hK hP (50 + 16 * j_178) (hQ.b0 hj_178) rfl 10 (by decide) (hg _ gm_fieldLink_RX9_151_ErrandGuild_Run_kin_LErrandGuild_Kin_) (fun _ h9 => h9) rfl dX9_takeAnswers_84 ?_
                refine va_get (D := (dC, dI)) (ci := 4) (v := va_rf (rA9 ad (K j_178 4))) (C := RX4) (T := TX4) (N := 9) hx hb hg gb_4 hown hK hP (50 + 16 * j_178 + 1) (hQ.b1 hj_178) rfl 7 (by decide) (hg _ gm_fieldLink_RX9_228_ErrandGuild_Kin_nextSibling_LErrandGuild_Run_) (fun _ h9 => h9) rfl dX9_takeAnswers_87 ?_
                rcases eo_211 : K j_178 4 with _ | j_212
                · refine W.eq (g2 := F0 m 90 ls [.null]) (by first | rfl | (rw [eo_211]; rfl)) ?_
                  refine lv_astore_nN (lv' := [(3, .null), (2, .int x_157), (1, .null), (0, .ref (ad (50 + 16 * i)))]) hx hb dX9_takeAnswers_90 rfl hl (by decide) rfl (fun ls hl => ?_)
                  refine lv_goto (tgt := 12) hx hb dX9_takeAnswers_91 (by decide) ?_
                  exact ih_166 x_157 none none  ws_161 G_160  H locs ls (by simp only [chM] at *; omega) (fun _ h => by cases h) (fun _ h => by cases h) hQ ⟨i1_168, i2_169, i3_170, i4_171, i5_172, i6_173, i7_174, i8_175, i9_176⟩ hP hD hS (lv_sub hl [0, 1, 2, 3] rfl)
                · refine W.eq (g2 := F0 m 90 ls [.ref (ad (50 + 16 * j_212))]) (by first | rfl | (rw [eo_211]; rfl)) ?_
                  have hj_212 : j_212 < M := i3_170 _ _ _ hj_178 eo_211
                  refine lv_astore_n (lv' := [(3, .ref (ad (50 + 16 * j_212))), (2, .int x_157), (1, .null), (0, .ref (ad (50 + 16 * i)))]) hx hb dX9_takeAnswers_90 rfl hl (by decide) rfl (fun ls hl => ?_)
                  refine lv_goto (tgt := 12) hx hb dX9_takeAnswers_91 (by decide) ?_
                  exact ih_166 x_157 none (some j_212)  ws_161 G_160  H locs ls (by have := i4_171 _ _ hj_178 eo_211; simp only [chM] at *; omega) (fun _ h => by cases h) (fun _ h => by cases h; exact hj_212) hQ ⟨i1_168, i2_169, i3_170, i4_171, i5_172, i6_173, i7_174, i8_175, i9_176⟩ hP hD hS (lv_sub hl [0, 1, 2, 3] rfl)
              · simp only [i_lt, i_le, i_eq, ti_1] at c_210
                refine lv_aload_n hx hb dX9_takeAnswers_62 rfl (lv_at hl 0 rfl) ?_
                refine va_get (D := (dC, dI)) (ci := 7) (v := .int (G_160 j_178 2)) (C := RX7) (T := TX7) (N := 15) hx hb hg gb_7 hown hK hP (50 + 16 * j_178) (hQ.b0 hj_178) rfl 2 (by decide) (hg _ gm_fieldLink_RX9_145_ErrandGuild_Run_state_I_) (fun _ h9 => h9) rfl dX9_takeAnswers_63 ?_
                refine lv_iconst (v := 4) hx hb dX9_takeAnswers_66 (by decide) ?_
                refine lv_icmp_ne (tgt := 83) hx hb dX9_takeAnswers_67 (by decide) (fun c_213 => ?_) (fun c_213 => ?_)
                · simp only [i_lt, i_le, i_eq, ti_4] at c_213
                  refine lv_aload_n hx hb dX9_takeAnswers_83 rfl (lv_at hl 0 rfl) ?_
                  refine va_get (D := (dC, dI)) (ci := 7) (v := .ref (ad (50 + 16 * j_178 + 1))) (C := RX7) (T := TX7) (N := 15) hx hb hg gb_7 hown hK hP (50 + 16 * j_178) (hQ.b0 hj_178) rfl 10 (by decide) (hg _ gm_fieldLink_RX9_151_ErrandGuild_Run_kin_LErrandGuild_Kin_) (fun _ h9 => h9) rfl dX9_takeAnswers_84 ?_
                  refine va_get (D := (dC, dI)) (ci := 4) (v := va_rf (rA9 ad (K j_178 4))) (C := RX4) (T := TX4) (N := 9) hx hb hg gb_4 hown hK hP (50 + 16 * j_178 + 1) (hQ.b1 hj_178) rfl 7 (by decide) (hg _ gm_fieldLink_RX9_228_ErrandGuild_Kin_nextSibling_LErrandGuild_Run_) (fun _ h9 => h9) rfl dX9_takeAnswers_87 ?_
                  rcases eo_214 : K j_178 4 with _ | j_215
                  · refine W.eq (g2 := F0 m 90 ls [.null]) (by first | rfl | (rw [eo_214]; rfl)) ?_
                    refine lv_astore_nN (lv' := [(3, .null), (2, .int x_157), (1, .null), (0, .ref (ad (50 + 16 * i)))]) hx hb dX9_takeAnswers_90 rfl hl (by decide) rfl (fun ls hl => ?_)
                    refine lv_goto (tgt := 12) hx hb dX9_takeAnswers_91 (by decide) ?_
                    exact ih_166 x_157 none none  ws_161 G_160  H locs ls (by simp only [chM] at *; omega) (fun _ h => by cases h) (fun _ h => by cases h) hQ ⟨i1_168, i2_169, i3_170, i4_171, i5_172, i6_173, i7_174, i8_175, i9_176⟩ hP hD hS (lv_sub hl [0, 1, 2, 3] rfl)
                  · refine W.eq (g2 := F0 m 90 ls [.ref (ad (50 + 16 * j_215))]) (by first | rfl | (rw [eo_214]; rfl)) ?_
                    have hj_215 : j_215 < M := i3_170 _ _ _ hj_178 eo_214
                    refine lv_astore_n (lv' := [(3, .ref (ad (50 + 16 * j_215))), (2, .int x_157), (1, .null), (0, .ref (ad (50 + 16 * i)))]) hx hb dX9_takeAnswers_90 rfl hl (by decide) rfl (fun ls hl => ?_)
                    refine lv_goto (tgt := 12) hx hb dX9_takeAnswers_91 (by decide) ?_
                    exact ih_166 x_157 none (some j_215)  ws_161 G_160  H locs ls (by have := i4_171 _ _ hj_178 eo_214; simp only [chM] at *; omega) (fun _ h => by cases h) (fun _ h => by cases h; exact hj_215) hQ ⟨i1_168, i2_169, i3_170, i4_171, i5_172, i6_173, i7_174, i8_175, i9_176⟩ hP hD hS (lv_sub hl [0, 1, 2, 3] rfl)
                · simp only [i_lt, i_le, i_eq, ti_4] at c_213
                  obtain ⟨y_216, ey_216⟩ : ∃ q : Int32, q = x_157 + (1) := ⟨_, rfl⟩
                  refine lv_iinc (v := y_216) (lv' := [(2, .int y_216), (3, .ref (ad (50 + 16 * j_178))), (1, .null), (0, .ref (ad (50 + 16 * i)))]) hx hb dX9_takeAnswers_70 hl (k := 1) rfl (by rw [ey_216]; rfl) (by decide) rfl (fun ls hl => ?_)
                  refine lv_aload_nN hx hb dX9_takeAnswers_73 rfl (lv_at hl 2 rfl) ?_
                  refine lv_ifnonnullN hx hb dX9_takeAnswers_74 ?_
                  refine lv_aload_n hx hb dX9_takeAnswers_77 rfl (lv_at hl 1 rfl) ?_
                  refine lv_goto (tgt := 82) hx hb dX9_takeAnswers_78 (by decide) ?_
                  refine lv_astore_n (lv' := [(1, .ref (ad (50 + 16 * j_178))), (2, .int y_216), (3, .ref (ad (50 + 16 * j_178))), (0, .ref (ad (50 + 16 * i)))]) hx hb dX9_takeAnswers_82 rfl hl (by decide) rfl (fun ls hl => ?_)
                  refine lv_aload_n hx hb dX9_takeAnswers_83 rfl (lv_at hl 2 rfl) ?_
                  refine va_get (D := (dC, dI)) (ci := 7) (v := .ref (ad (50 + 16 * j_178 + 1))) (C := RX7) (T := TX7) (N := 15) hx hb hg gb_7 hown hK hP (50 + 16 * j_178) (hQ.b0 hj_178) rfl 10 (by decide) (hg _ gm_fieldLink_RX9_151_ErrandGuild_Run_kin_LErrandGuild_Kin_) (fun _ h9 => h9) rfl dX9_takeAnswers_84 ?_
                  refine va_get (D := (dC, dI)) (ci := 4) (v := va_rf (rA9 ad (K j_178 4))) (C := RX4) (T := TX4) (N := 9) hx hb hg gb_4 hown hK hP (50 + 16 * j_178 + 1) (hQ.b1 hj_178) rfl 7 (by decide) (hg _ gm_fieldLink_RX9_228_ErrandGuild_Kin_nextSibling_LErrandGuild_Run_) (fun _ h9 => h9) rfl dX9_takeAnswers_87 ?_
                  rcases eo_217 : K j_178 4 with _ | j_218
                  · refine W.eq (g2 := F0 m 90 ls [.null]) (by first | rfl | (rw [eo_217]; rfl)) ?_
                    refine lv_astore_nN (lv' := [(3, .null), (1, .ref (ad (50 + 16 * j_178))), (2, .int y_216), (0, .ref (ad (50 + 16 * i)))]) hx hb dX9_takeAnswers_90 rfl hl (by decide) rfl (fun ls hl => ?_)
                    refine lv_goto (tgt := 12) hx hb dX9_takeAnswers_91 (by decide) ?_
                    exact ih_166 y_216 (some j_178) none  ws_161 G_160  H locs ls (by simp only [chM] at *; omega) (fun _ h => by cases h; exact hj_178) (fun _ h => by cases h) hQ ⟨i1_168, i2_169, i3_170, i4_171, i5_172, i6_173, i7_174, i8_175, i9_176⟩ hP hD hS (lv_sub hl [0, 2, 1, 3] rfl)
                  · refine W.eq (g2 := F0 m 90 ls [.ref (ad (50 + 16 * j_218))]) (by first | rfl | (rw [eo_217]; rfl)) ?_
                    have hj_218 : j_218 < M := i3_170 _ _ _ hj_178 eo_217
                    refine lv_astore_n (lv' := [(3, .ref (ad (50 + 16 * j_218))), (1, .ref (ad (50 + 16 * j_178))), (2, .int y_216), (0, .ref (ad (50 + 16 * i)))]) hx hb dX9_takeAnswers_90 rfl hl (by decide) rfl (fun ls hl => ?_)
                    refine lv_goto (tgt := 12) hx hb dX9_takeAnswers_91 (by decide) ?_
                    exact ih_166 y_216 (some j_178) (some j_218)  ws_161 G_160  H locs ls (by have := i4_171 _ _ hj_178 eo_217; simp only [chM] at *; omega) (fun _ h => by cases h; exact hj_178) (fun _ h => by cases h; exact hj_218) hQ ⟨i1_168, i2_169, i3_170, i4_171, i5_172, i6_173, i7_174, i8_175, i9_176⟩ hP hD hS (lv_sub hl [0, 2, 1, 3] rfl)
            · simp only [i_lt, i_le, i_eq, ti_1] at c_209
              refine lv_aload_n hx hb dX9_takeAnswers_27 rfl (lv_at hl 0 rfl) ?_
              refine va_get (D := (dC, dI)) (ci := 7) (v := .int (G_160 j_178 2)) (C := RX7) (T := TX7) (N := 15) hx hb hg gb_7 hown hK hP (50 + 16 * j_178) (hQ.b0 hj_178) rfl 2 (by decide) (hg _ gm_fieldLink_RX9_145_ErrandGuild_Run_state_I_) (fun _ h9 => h9) rfl dX9_takeAnswers_28 ?_
              refine lv_iconst (v := 3) hx hb dX9_takeAnswers_31 (by decide) ?_
              refine lv_icmp_ne (tgt := 51) hx hb dX9_takeAnswers_32 (by decide) (fun c_219 => ?_) (fun c_219 => ?_)
              · simp only [i_lt, i_le, i_eq, ti_3] at c_219
                refine lv_aload_n hx hb dX9_takeAnswers_51 rfl (lv_at hl 0 rfl) ?_
                refine va_get (D := (dC, dI)) (ci := 7) (v := .ref (ad (50 + 16 * j_178 + 1))) (C := RX7) (T := TX7) (N := 15) hx hb hg gb_7 hown hK hP (50 + 16 * j_178) (hQ.b0 hj_178) rfl 10 (by decide) (hg _ gm_fieldLink_RX9_151_ErrandGuild_Run_kin_LErrandGuild_Kin_) (fun _ h9 => h9) rfl dX9_takeAnswers_52 ?_
                refine va_get (D := (dC, dI)) (ci := 4) (v := .int (G_160 j_178 12)) (C := RX4) (T := TX4) (N := 9) hx hb hg gb_4 hown hK hP (50 + 16 * j_178 + 1) (hQ.b1 hj_178) rfl 4 (by decide) (hg _ gm_fieldLink_RX9_379_ErrandGuild_Kin_claim_I_) (fun _ h9 => h9) rfl dX9_takeAnswers_55 ?_
                refine lv_iconst (v := 1) hx hb dX9_takeAnswers_58 (by decide) ?_
                refine lv_icmp_ne (tgt := 83) hx hb dX9_takeAnswers_59 (by decide) (fun c_220 => ?_) (fun c_220 => ?_)
                · simp only [i_lt, i_le, i_eq, ti_1] at c_220
                  exfalso
                  omega
                · simp only [i_lt, i_le, i_eq, ti_1] at c_220
                  refine lv_aload_n hx hb dX9_takeAnswers_62 rfl (lv_at hl 0 rfl) ?_
                  refine va_get (D := (dC, dI)) (ci := 7) (v := .int (G_160 j_178 2)) (C := RX7) (T := TX7) (N := 15) hx hb hg gb_7 hown hK hP (50 + 16 * j_178) (hQ.b0 hj_178) rfl 2 (by decide) (hg _ gm_fieldLink_RX9_145_ErrandGuild_Run_state_I_) (fun _ h9 => h9) rfl dX9_takeAnswers_63 ?_
                  refine lv_iconst (v := 4) hx hb dX9_takeAnswers_66 (by decide) ?_
                  refine lv_icmp_ne (tgt := 83) hx hb dX9_takeAnswers_67 (by decide) (fun c_221 => ?_) (fun c_221 => ?_)
                  · simp only [i_lt, i_le, i_eq, ti_4] at c_221
                    refine lv_aload_n hx hb dX9_takeAnswers_83 rfl (lv_at hl 0 rfl) ?_
                    refine va_get (D := (dC, dI)) (ci := 7) (v := .ref (ad (50 + 16 * j_178 + 1))) (C := RX7) (T := TX7) (N := 15) hx hb hg gb_7 hown hK hP (50 + 16 * j_178) (hQ.b0 hj_178) rfl 10 (by decide) (hg _ gm_fieldLink_RX9_151_ErrandGuild_Run_kin_LErrandGuild_Kin_) (fun _ h9 => h9) rfl dX9_takeAnswers_84 ?_
                    refine va_get (D := (dC, dI)) (ci := 4) (v := va_rf (rA9 ad (K j_178 4))) (C := RX4) (T := TX4) (N := 9) hx hb hg gb_4 hown hK hP (50 + 16 * j_178 + 1) (hQ.b1 hj_178) rfl 7 (by decide) (hg _ gm_fieldLink_RX9_228_ErrandGuild_Kin_nextSibling_LErrandGuild_Run_) (fun _ h9 => h9) rfl dX9_takeAnswers_87 ?_
                    rcases eo_222 : K j_178 4 with _ | j_223
                    · refine W.eq (g2 := F0 m 90 ls [.null]) (by first | rfl | (rw [eo_222]; rfl)) ?_
                      refine lv_astore_nN (lv' := [(3, .null), (2, .int x_157), (1, .null), (0, .ref (ad (50 + 16 * i)))]) hx hb dX9_takeAnswers_90 rfl hl (by decide) rfl (fun ls hl => ?_)
                      refine lv_goto (tgt := 12) hx hb dX9_takeAnswers_91 (by decide) ?_
                      exact ih_166 x_157 none none  ws_161 G_160  H locs ls (by simp only [chM] at *; omega) (fun _ h => by cases h) (fun _ h => by cases h) hQ ⟨i1_168, i2_169, i3_170, i4_171, i5_172, i6_173, i7_174, i8_175, i9_176⟩ hP hD hS (lv_sub hl [0, 1, 2, 3] rfl)
                    · refine W.eq (g2 := F0 m 90 ls [.ref (ad (50 + 16 * j_223))]) (by first | rfl | (rw [eo_222]; rfl)) ?_
                      have hj_223 : j_223 < M := i3_170 _ _ _ hj_178 eo_222
                      refine lv_astore_n (lv' := [(3, .ref (ad (50 + 16 * j_223))), (2, .int x_157), (1, .null), (0, .ref (ad (50 + 16 * i)))]) hx hb dX9_takeAnswers_90 rfl hl (by decide) rfl (fun ls hl => ?_)
                      refine lv_goto (tgt := 12) hx hb dX9_takeAnswers_91 (by decide) ?_
                      exact ih_166 x_157 none (some j_223)  ws_161 G_160  H locs ls (by have := i4_171 _ _ hj_178 eo_222; simp only [chM] at *; omega) (fun _ h => by cases h) (fun _ h => by cases h; exact hj_223) hQ ⟨i1_168, i2_169, i3_170, i4_171, i5_172, i6_173, i7_174, i8_175, i9_176⟩ hP hD hS (lv_sub hl [0, 1, 2, 3] rfl)
                  · simp only [i_lt, i_le, i_eq, ti_4] at c_221
                    obtain ⟨y_224, ey_224⟩ : ∃ q : Int32, q = x_157 + (1) := ⟨_, rfl⟩
                    refine lv_iinc (v := y_224) (lv' := [(2, .int y_224), (3, .ref (ad (50 + 16 * j_178))), (1, .null), (0, .ref (ad (50 + 16 * i)))]) hx hb dX9_takeAnswers_70 hl (k := 1) rfl (by rw [ey_224]; rfl) (by decide) rfl (fun ls hl => ?_)
                    refine lv_aload_nN hx hb dX9_takeAnswers_73 rfl (lv_at hl 2 rfl) ?_
                    refine lv_ifnonnullN hx hb dX9_takeAnswers_74 ?_
                    refine lv_aload_n hx hb dX9_takeAnswers_77 rfl (lv_at hl 1 rfl) ?_
                    refine lv_goto (tgt := 82) hx hb dX9_takeAnswers_78 (by decide) ?_
                    refine lv_astore_n (lv' := [(1, .ref (ad (50 + 16 * j_178))), (2, .int y_224), (3, .ref (ad (50 + 16 * j_178))), (0, .ref (ad (50 + 16 * i)))]) hx hb dX9_takeAnswers_82 rfl hl (by decide) rfl (fun ls hl => ?_)
                    refine lv_aload_n hx hb dX9_takeAnswers_83 rfl (lv_at hl 2 rfl) ?_
                    refine va_get (D := (dC, dI)) (ci := 7) (v := .ref (ad (50 + 16 * j_178 + 1))) (C := RX7) (T := TX7) (N := 15) hx hb hg gb_7 hown hK hP (50 + 16 * j_178) (hQ.b0 hj_178) rfl 10 (by decide) (hg _ gm_fieldLink_RX9_151_ErrandGuild_Run_kin_LErrandGuild_Kin_) (fun _ h9 => h9) rfl dX9_takeAnswers_84 ?_
                    refine va_get (D := (dC, dI)) (ci := 4) (v := va_rf (rA9 ad (K j_178 4))) (C := RX4) (T := TX4) (N := 9) hx hb hg gb_4 hown hK hP (50 + 16 * j_178 + 1) (hQ.b1 hj_178) rfl 7 (by decide) (hg _ gm_fieldLink_RX9_228_ErrandGuild_Kin_nextSibling_LErrandGuild_Run_) (fun _ h9 => h9) rfl dX9_takeAnswers_87 ?_
                    rcases eo_225 : K j_178 4 with _ | j_226
                    · refine W.eq (g2 := F0 m 90 ls [.null]) (by first | rfl | (rw [eo_225]; rfl)) ?_
                      refine lv_astore_nN (lv' := [(3, .null), (1, .ref (ad (50 + 16 * j_178))), (2, .int y_224), (0, .ref (ad (50 + 16 * i)))]) hx hb dX9_takeAnswers_90 rfl hl (by decide) rfl (fun ls hl => ?_)
                      refine lv_goto (tgt := 12) hx hb dX9_takeAnswers_91 (by decide) ?_
                      exact ih_166 y_224 (some j_178) none  ws_161 G_160  H locs ls (by simp only [chM] at *; omega) (fun _ h => by cases h; exact hj_178) (fun _ h => by cases h) hQ ⟨i1_168, i2_169, i3_170, i4_171, i5_172, i6_173, i7_174, i8_175, i9_176⟩ hP hD hS (lv_sub hl [0, 2, 1, 3] rfl)
                    · refine W.eq (g2 := F0 m 90 ls [.ref (ad (50 + 16 * j_226))]) (by first | rfl | (rw [eo_225]; rfl)) ?_
                      have hj_226 : j_226 < M := i3_170 _ _ _ hj_178 eo_225
                      refine lv_astore_n (lv' := [(3, .ref (ad (50 + 16 * j_226))), (1, .ref (ad (50 + 16 * j_178))), (2, .int y_224), (0, .ref (ad (50 + 16 * i)))]) hx hb dX9_takeAnswers_90 rfl hl (by decide) rfl (fun ls hl => ?_)
                      refine lv_goto (tgt := 12) hx hb dX9_takeAnswers_91 (by decide) ?_
                      exact ih_166 y_224 (some j_178) (some j_226)  ws_161 G_160  H locs ls (by have := i4_171 _ _ hj_178 eo_225; simp only [chM] at *; omega) (fun _ h => by cases h; exact hj_178) (fun _ h => by cases h; exact hj_226) hQ ⟨i1_168, i2_169, i3_170, i4_171, i5_172, i6_173, i7_174, i8_175, i9_176⟩ hP hD hS (lv_sub hl [0, 2, 1, 3] rfl)
              · simp only [i_lt, i_le, i_eq, ti_3] at c_219
                refine lv_aload_n hx hb dX9_takeAnswers_35 rfl (lv_at hl 3 rfl) ?_
                refine lv_dup hx hb dX9_takeAnswers_36 rfl ?_
                refine va_get (D := (dC, dI)) (ci := 7) (v := .int (G_160 i 5)) (C := RX7) (T := TX7) (N := 15) hx hb hg gb_7 hown hK hP (50 + 16 * i) (hQ.b0 hi) rfl 5 (by decide) (hg _ gm_fieldLink_RX9_171_ErrandGuild_Run_sum_I_) (fun _ h9 => h9) rfl dX9_takeAnswers_37 ?_
                refine lv_aload_n hx hb dX9_takeAnswers_40 rfl (lv_at hl 0 rfl) ?_
                refine va_get (D := (dC, dI)) (ci := 7) (v := .int (G_160 j_178 5)) (C := RX7) (T := TX7) (N := 15) hx hb hg gb_7 hown hK hP (50 + 16 * j_178) (hQ.b0 hj_178) rfl 5 (by decide) (hg _ gm_fieldLink_RX9_171_ErrandGuild_Run_sum_I_) (fun _ h9 => h9) rfl dX9_takeAnswers_41 ?_
                refine lv_iadd hx hb dX9_takeAnswers_44 ?_
                refine lv_topi (fun z_227 ez_227 => ?_)
                refine va_put (D := (dC, dI)) (ci := 7) (v := .int (z_227)) (ty := .int) (C := RX7) (T := TX7) (N := 15) hx hb hg gb_7 tyX7 tyX7_ok nmX7 hown hK hP hD hS (50 + 16 * i) (hQ.b0 hi) rfl 5 (by decide) (hg _ gm_fieldLink_RX9_171_ErrandGuild_Run_sum_I_) (fun _ h9 => h9) rfl (by decide +kernel) rfl rfl (Nat.le_of_ble_eq_true rfl) dX9_takeAnswers_45 (fun H locs hP hD hS => ?_)
                obtain ⟨ws_229, G_228, eG_228, hP, hD, hQ⟩ : ∃ (ws_229 : va_W) (G_228 : Nat → Nat → Int32), G_228 = u2 G_160 i 5 z_227 ∧ va_P (dC, dI) vwCl ws_229 H ∧ va_D A ws_229 ∧ Pic9 kc ws_229 ad ga gc M n f T G_228 K F := ⟨_, _, rfl, hP, hD, hQ.run hi 5 (by decide) z_227⟩
                have i6_230 : i6 n T G_228 := by rw [eG_228]; exact (i6.pG i6_173 i _ (by decide))
                have i7_231 : i7 n G_228 := by rw [eG_228]; exact (i7.pG i7_174 i _ (by decide))
                have i8_232 : i8 M n gc G_228 := by rw [eG_228]; exact (i8.pG i8_175 i _ (by decide))
                have i9_233 : i9 M gc G_228 R := by rw [eG_228]; exact (i9.pG i9_176 i _ (by decide))
                have eg_234 : G_228 i 5 = z_227 := by rw [eG_228, u2_eq]
                refine lv_goto (tgt := 83) hx hb dX9_takeAnswers_48 (by decide) ?_
                refine lv_aload_n hx hb dX9_takeAnswers_83 rfl (lv_at hl 0 rfl) ?_
                refine va_get (D := (dC, dI)) (ci := 7) (v := .ref (ad (50 + 16 * j_178 + 1))) (C := RX7) (T := TX7) (N := 15) hx hb hg gb_7 hown hK hP (50 + 16 * j_178) (hQ.b0 hj_178) rfl 10 (by decide) (hg _ gm_fieldLink_RX9_151_ErrandGuild_Run_kin_LErrandGuild_Kin_) (fun _ h9 => h9) rfl dX9_takeAnswers_84 ?_
                refine va_get (D := (dC, dI)) (ci := 4) (v := va_rf (rA9 ad (K j_178 4))) (C := RX4) (T := TX4) (N := 9) hx hb hg gb_4 hown hK hP (50 + 16 * j_178 + 1) (hQ.b1 hj_178) rfl 7 (by decide) (hg _ gm_fieldLink_RX9_228_ErrandGuild_Kin_nextSibling_LErrandGuild_Run_) (fun _ h9 => h9) rfl dX9_takeAnswers_87 ?_
                rcases eo_235 : K j_178 4 with _ | j_236
                · refine W.eq (g2 := F0 m 90 ls [.null]) (by first | rfl | (rw [eo_235]; rfl)) ?_
                  refine lv_astore_nN (lv' := [(3, .null), (2, .int x_157), (1, .null), (0, .ref (ad (50 + 16 * i)))]) hx hb dX9_takeAnswers_90 rfl hl (by decide) rfl (fun ls hl => ?_)
                  refine lv_goto (tgt := 12) hx hb dX9_takeAnswers_91 (by decide) ?_
                  exact ih_166 x_157 none none  ws_229 G_228  H locs ls (by simp only [chM] at *; omega) (fun _ h => by cases h) (fun _ h => by cases h) hQ ⟨i1_168, i2_169, i3_170, i4_171, i5_172, i6_230, i7_231, i8_232, i9_233⟩ hP hD hS (lv_sub hl [0, 1, 2, 3] rfl)
                · refine W.eq (g2 := F0 m 90 ls [.ref (ad (50 + 16 * j_236))]) (by first | rfl | (rw [eo_235]; rfl)) ?_
                  have hj_236 : j_236 < M := i3_170 _ _ _ hj_178 eo_235
                  refine lv_astore_n (lv' := [(3, .ref (ad (50 + 16 * j_236))), (2, .int x_157), (1, .null), (0, .ref (ad (50 + 16 * i)))]) hx hb dX9_takeAnswers_90 rfl hl (by decide) rfl (fun ls hl => ?_)
                  refine lv_goto (tgt := 12) hx hb dX9_takeAnswers_91 (by decide) ?_
                  exact ih_166 x_157 none (some j_236)  ws_229 G_228  H locs ls (by have := i4_171 _ _ hj_178 eo_235; simp only [chM] at *; omega) (fun _ h => by cases h) (fun _ h => by cases h; exact hj_236) hQ ⟨i1_168, i2_169, i3_170, i4_171, i5_172, i6_230, i7_231, i8_232, i9_233⟩ hP hD hS (lv_sub hl [0, 1, 2, 3] rfl)
        · have hl : lv_has ls 4 [(3, va_rf (rA9 ad o_159)), (2, .int x_157), (1, .ref (ad (50 + 16 * j_177))), (0, .ref (ad (50 + 16 * i)))] := hl
          have hj_177 : j_177 < M := v_163 _ rfl
          rcases o_159 with _ | j_237
          · have hl : lv_has ls 4 [(3, .null), (2, .int x_157), (1, .ref (ad (50 + 16 * j_177))), (0, .ref (ad (50 + 16 * i)))] := hl
            refine lv_aload_nN hx hb dX9_takeAnswers_12 rfl (lv_at hl 0 rfl) ?_
            refine lv_ifnullN (tgt := 94) hx hb dX9_takeAnswers_13 (by decide) ?_
            refine lv_aload_n hx hb dX9_takeAnswers_94 rfl (lv_at hl 3 rfl) ?_
            have hFc := free_all hD hS hA
            refine va_callv (va_runS (As := [.ref (ad (50 + 16 * i))]) (rest := []) ⟨hx, hb, hml, hown, hg⟩ (c_X9_settleAwaited l dC dI kc ws_161 ad ga gc M n f T G_160 K F R i H.size (hpS H) hQ ⟨i1_168, i2_169, i3_170, i4_171, i5_172, i6_173, i7_174, i8_175, i9_176⟩ (by show i < M; omega)) (va_cwS 1 hg (gw_S gm_methodLink_RX9_382_yX9_settleAwaited gm_static_yX9_settleAwaited gm_initialized_RX9 gm_code_yX9_settleAwaited_cX9_settleAwaited_2_none) rfl rfl rfl (by decide +kernel) ⟨Nat.le_of_ble_eq_true rfl, Nat.le_of_ble_eq_true rfl⟩) ⟨fun a U g mk q => by obtain ⟨q0, q1, q2, qP, qK, qD, qN⟩ := q; exact ⟨q0, q1, q2, qP, va_K.moved (u := U) (U := U.calling g mk a) (Vm.Alike.refl U.vm) qK, qD, nx_same (u := U) (U := U.calling g mk a) rfl qN⟩, fun U hU hW => ⟨rfl, by rw [hU], by rw [hU], by rw [hU]; exact hP, va_K.moved hW.alike hK, hD.weaken (fun _ _ _ _ => trivial), nx_warm hW hN⟩⟩ rfl rfl hl.1 rfl (lv_room (Nat.le_of_ble_eq_true rfl)) dX9_takeAnswers_95 ⟨Nat.le_of_ble_eq_true rfl, Nat.le_of_ble_eq_true rfl⟩) hS (fun q _ h => hFc q h) hFc (fun u_239 t H1 locs ht hvm hw hB hz1 hk1 hS => ?_)
            obtain ⟨ad_240, ga_241, gc_242, M_243, n_244, f_245, T_246, G_247, K_248, F_249⟩ := u_239
            have hB : ∃ w : va_W, va_P (dC, dI) vwCl w t.heap ∧ va_D (va_A ws_161 H.size) w ∧ Pic9 kc w ad ga gc M n f T G_247 K F ∧ I9 M n T gc G_247 K R ∧ hpS t.heap + (260 * M + 2 * S9 M gc) ≤ hpS H + (260 * M + 2 * S9 M gc) ∧ 16 * t.heap.size + (256 * M + S9 M gc) ≤ 16 * H.size + (256 * M + S9 M gc) := hB
            rw [ht] at hB
            obtain ⟨ws_250, hP, hD, hQ, hI_251, hy1, hy2⟩ := hB
            have hD := hD.weaken (fun k q _ h => hFc _ h)
            obtain ⟨i1_252, i2_253, i3_254, i4_255, i5_256, i6_257, i7_258, i8_259, i9_260⟩ := id hI_251
            have q1_ := i1_252
            unfold i1 at q1_
            generalize H1 = H at hP hS ⊢
            refine lv_aload_n hx hb dX9_takeAnswers_98 rfl (lv_at hl 3 rfl) ?_
            refine lv_iconst (v := 0) hx hb dX9_takeAnswers_99 (by decide) ?_
            refine va_put (D := (dC, dI)) (ci := 7) (v := .int (0)) (ty := .boolean) (C := RX7) (T := TX7) (N := 15) hx hb hg gb_7 tyX7 tyX7_ok nmX7 hown hK hP hD hS (50 + 16 * i) (hQ.b0 hi) rfl 9 (by decide) (hg _ gm_fieldLink_RX9_289_ErrandGuild_Run_returning_Z_) (fun _ h9 => h9) rfl (by decide +kernel) rfl rfl (Nat.le_of_ble_eq_true rfl) dX9_takeAnswers_100 (fun H locs hP hD hS => ?_)
            obtain ⟨ws_262, G_261, eG_261, hP, hD, hQ⟩ : ∃ (ws_262 : va_W) (G_261 : Nat → Nat → Int32), G_261 = u2 G_247 i 9 0 ∧ va_P (dC, dI) vwCl ws_262 H ∧ va_D A ws_262 ∧ Pic9 kc ws_262 ad ga gc M n f T G_261 K F := ⟨_, _, rfl, hP, hD, hQ.run hi 9 (by decide) 0⟩
            have i6_263 : i6 n T G_261 := by rw [eG_261]; exact (i6.pG i6_257 i _ (by decide))
            have i7_264 : i7 n G_261 := by rw [eG_261]; exact (i7.pG i7_258 i _ (by decide))
            have i8_265 : i8 M n gc G_261 := by rw [eG_261]; exact (i8.pG i8_259 i _ (by decide))
            have i9_266 : i9 M gc G_261 R := by rw [eG_261]; exact (i9.pG i9_260 i _ (by decide))
            have eg_267 : G_261 i 9 = 0 := by rw [eG_261, u2_eq]
            refine lv_aload_n hx hb dX9_takeAnswers_103 rfl (lv_at hl 2 rfl) ?_
            refine lv_ifnonnull (tgt := 109) hx hb dX9_takeAnswers_104 (by decide) ?_
            refine lv_aload_n hx hb dX9_takeAnswers_109 rfl (lv_at hl 3 rfl) ?_
            refine va_get (D := (dC, dI)) (ci := 7) (v := .ref (ad (50 + 16 * i + 13))) (C := RX7) (T := TX7) (N := 15) hx hb hg gb_7 hown hK hP (50 + 16 * i) (hQ.b0 hi) rfl 13 (by decide) (hg _ gm_fieldLink_RX9_201_ErrandGuild_Run_fault_LErrandGuild_Fault_) (fun _ h9 => h9) rfl dX9_takeAnswers_110 ?_
            refine lv_aload_n hx hb dX9_takeAnswers_113 rfl (lv_at hl 2 rfl) ?_
            refine va_get (D := (dC, dI)) (ci := 7) (v := .int (G_261 j_177 0)) (C := RX7) (T := TX7) (N := 15) hx hb hg gb_7 hown hK hP (50 + 16 * j_177) (hQ.b0 hj_177) rfl 0 (by decide) (hg _ gm_fieldLink_RX9_118_ErrandGuild_Run_number_I_) (fun _ h9 => h9) rfl dX9_takeAnswers_114 ?_
            refine va_put (D := (dC, dI)) (ci := 2) (v := .int (G_261 j_177 0)) (ty := .int) (C := RX2) (T := TX2) (N := 5) hx hb hg gb_2 tyX2 tyX2_ok nmX2 hown hK hP hD hS (50 + 16 * i + 13) (hQ.b13 hi) rfl 2 (by decide) (hg _ gm_fieldLink_RX9_213_ErrandGuild_Fault_cause_I_) (fun _ h9 => h9) rfl (by decide +kernel) rfl rfl (Nat.le_of_ble_eq_true rfl) dX9_takeAnswers_117 (fun H locs hP hD hS => ?_)
            obtain ⟨ws_269, G_268, eG_268, hP, hD, hQ⟩ : ∃ (ws_269 : va_W) (G_268 : Nat → Nat → Int32), G_268 = u2 G_261 i 19 (G_261 j_177 0) ∧ va_P (dC, dI) vwCl ws_269 H ∧ va_D A ws_269 ∧ Pic9 kc ws_269 ad ga gc M n f T G_268 K F := ⟨_, _, rfl, hP, hD, hQ.fltI hi 2 (by decide) (G_261 j_177 0)⟩
            have i6_270 : i6 n T G_268 := by rw [eG_268]; exact (i6.pG i6_263 i _ (by decide))
            have i7_271 : i7 n G_268 := by rw [eG_268]; exact (i7.pG i7_264 i _ (by decide))
            have i8_272 : i8 M n gc G_268 := by rw [eG_268]; exact (i8.pG i8_265 i _ (by decide))
            have i9_273 : i9 M gc G_268 R := by rw [eG_268]; exact (i9.pG i9_266 i _ (by decide))
            have eg_274 : G_268 i 19 = (G_261 j_177 0) := by rw [eG_268, u2_eq]
            refine lv_aload_n hx hb dX9_takeAnswers_120 rfl (lv_at hl 3 rfl) ?_
            refine va_get (D := (dC, dI)) (ci := 7) (v := .ref (ad (50 + 16 * i + 13))) (C := RX7) (T := TX7) (N := 15) hx hb hg gb_7 hown hK hP (50 + 16 * i) (hQ.b0 hi) rfl 13 (by decide) (hg _ gm_fieldLink_RX9_201_ErrandGuild_Run_fault_LErrandGuild_Fault_) (fun _ h9 => h9) rfl dX9_takeAnswers_121 ?_
            refine lv_iload_n hx hb dX9_takeAnswers_124 rfl (lv_at hl 1 rfl) ?_
            refine lv_iconst (v := 1) hx hb dX9_takeAnswers_125 (by decide) ?_
            refine lv_isub hx hb dX9_takeAnswers_126 ?_
            refine lv_topi (fun z_275 ez_275 => ?_)
            refine va_put (D := (dC, dI)) (ci := 2) (v := .int (z_275)) (ty := .int) (C := RX2) (T := TX2) (N := 5) hx hb hg gb_2 tyX2 tyX2_ok nmX2 hown hK hP hD hS (50 + 16 * i + 13) (hQ.b13 hi) rfl 3 (by decide) (hg _ gm_fieldLink_RX9_216_ErrandGuild_Fault_suppressed_I_) (fun _ h9 => h9) rfl (by decide +kernel) rfl rfl (Nat.le_of_ble_eq_true rfl) dX9_takeAnswers_127 (fun H locs hP hD hS => ?_)
            obtain ⟨ws_277, G_276, eG_276, hP, hD, hQ⟩ : ∃ (ws_277 : va_W) (G_276 : Nat → Nat → Int32), G_276 = u2 G_268 i 20 z_275 ∧ va_P (dC, dI) vwCl ws_277 H ∧ va_D A ws_277 ∧ Pic9 kc ws_277 ad ga gc M n f T G_276 K F := ⟨_, _, rfl, hP, hD, hQ.fltI hi 3 (by decide) z_275⟩
            have i6_278 : i6 n T G_276 := by rw [eG_276]; exact (i6.pG i6_270 i _ (by decide))
            have i7_279 : i7 n G_276 := by rw [eG_276]; exact (i7.pG i7_271 i _ (by decide))
            have i8_280 : i8 M n gc G_276 := by rw [eG_276]; exact (i8.pG i8_272 i _ (by decide))
            have i9_281 : i9 M gc G_276 R := by rw [eG_276]; exact (i9.pG i9_273 i _ (by decide))
            have eg_282 : G_276 i 20 = z_275 := by rw [eG_276, u2_eq]
            refine lv_aload_n hx hb dX9_takeAnswers_130 rfl (lv_at hl 2 rfl) ?_
            refine va_get (D := (dC, dI)) (ci := 7) (v := .ref (ad (50 + 16 * j_177 + 13))) (C := RX7) (T := TX7) (N := 15) hx hb hg gb_7 hown hK hP (50 + 16 * j_177) (hQ.b0 hj_177) rfl 13 (by decide) (hg _ gm_fieldLink_RX9_201_ErrandGuild_Run_fault_LErrandGuild_Fault_) (fun _ h9 => h9) rfl dX9_takeAnswers_131 ?_
            refine va_get (D := (dC, dI)) (ci := 2) (v := .int (G_276 j_177 17)) (C := RX2) (T := TX2) (N := 5) hx hb hg gb_2 hown hK hP (50 + 16 * j_177 + 13) (hQ.b13 hj_177) rfl 0 (by decide) (hg _ gm_fieldLink_RX9_205_ErrandGuild_Fault_kind_I_) (fun _ h9 => h9) rfl dX9_takeAnswers_134 ?_
            refine W_msr2 (fun hm1 hm2 hm3 => ?_)
            exact W.iret (v := G_276 j_177 17) hx hb hr (fun t ht hW => ⟨⟨G_276 j_177 17, (ad, ga, gc, M, n, f, T, G_276, K, F), rfl, trivial, ws_277, by rw [ht]; exact hP, hD, hQ, ⟨i1_252, i2_253, i3_254, i4_255, i5_256, i6_278, i7_279, i8_280, i9_281⟩, by rw [ht]; show hpS H + (260 * M + 2 * S9 M gc) ≤ hpS s.heap + (260 * M + 2 * S9 M gc); omega, by rw [ht]; show 16 * H.size + (256 * M + S9 M gc) ≤ 16 * s.heap.size + (256 * M + S9 M gc); omega⟩, hS.F ht⟩) hS.2.2 dX9_takeAnswers_137
          · have hl : lv_has ls 4 [(3, .ref (ad (50 + 16 * j_237))), (2, .int x_157), (1, .ref (ad (50 + 16 * j_177))), (0, .ref (ad (50 + 16 * i)))] := hl
            have hj_237 : j_237 < M := v_164 _ rfl
            refine lv_aload_n hx hb dX9_takeAnswers_12 rfl (lv_at hl 0 rfl) ?_
            refine lv_ifnull hx hb dX9_takeAnswers_13 ?_
            refine lv_aload_n hx hb dX9_takeAnswers_16 rfl (lv_at hl 0 rfl) ?_
            refine va_get (D := (dC, dI)) (ci := 7) (v := .ref (ad (50 + 16 * j_237 + 1))) (C := RX7) (T := TX7) (N := 15) hx hb hg gb_7 hown hK hP (50 + 16 * j_237) (hQ.b0 hj_237) rfl 10 (by decide) (hg _ gm_fieldLink_RX9_151_ErrandGuild_Run_kin_LErrandGuild_Kin_) (fun _ h9 => h9) rfl dX9_takeAnswers_17 ?_
            refine va_get (D := (dC, dI)) (ci := 4) (v := .int (G_160 j_237 12)) (C := RX4) (T := TX4) (N := 9) hx hb hg gb_4 hown hK hP (50 + 16 * j_237 + 1) (hQ.b1 hj_237) rfl 4 (by decide) (hg _ gm_fieldLink_RX9_379_ErrandGuild_Kin_claim_I_) (fun _ h9 => h9) rfl dX9_takeAnswers_20 ?_
            refine lv_iconst (v := 1) hx hb dX9_takeAnswers_23 (by decide) ?_
            refine lv_icmp_ne (tgt := 51) hx hb dX9_takeAnswers_24 (by decide) (fun c_283 => ?_) (fun c_283 => ?_)
            · simp only [i_lt, i_le, i_eq, ti_1] at c_283
              refine lv_aload_n hx hb dX9_takeAnswers_51 rfl (lv_at hl 0 rfl) ?_
              refine va_get (D := (dC, dI)) (ci := 7) (v := .ref (ad (50 + 16 * j_237 + 1))) (C := RX7) (T := TX7) (N := 15) hx hb hg gb_7 hown hK hP (50 + 16 * j_237) (hQ.b0 hj_237) rfl 10 (by decide) (hg _ gm_fieldLink_RX9_151_ErrandGuild_Run_kin_LErrandGuild_Kin_) (fun _ h9 => h9) rfl dX9_takeAnswers_52 ?_
              refine va_get (D := (dC, dI)) (ci := 4) (v := .int (G_160 j_237 12)) (C := RX4) (T := TX4) (N := 9) hx hb hg gb_4 hown hK hP (50 + 16 * j_237 + 1) (hQ.b1 hj_237) rfl 4 (by decide) (hg _ gm_fieldLink_RX9_379_ErrandGuild_Kin_claim_I_) (fun _ h9 => h9) rfl dX9_takeAnswers_55 ?_
              refine lv_iconst (v := 1) hx hb dX9_takeAnswers_58 (by decide) ?_
              refine lv_icmp_ne (tgt := 83) hx hb dX9_takeAnswers_59 (by decide) (fun c_284 => ?_) (fun c_284 => ?_)
              · simp only [i_lt, i_le, i_eq, ti_1] at c_284
                refine lv_aload_n hx hb dX9_takeAnswers_83 rfl (lv_at hl 0 rfl) ?_
                refine va_get (D := (dC, dI)) (ci := 7) (v := .ref (ad (50 + 16 * j_237 + 1))) (C := RX7) (T := TX7) (N := 15) hx hb hg gb_7 hown hK hP (50 + 16 * j_237) (hQ.b0 hj_237) rfl 10 (by decide) (hg _ gm_fieldLink_RX9_151_ErrandGuild_Run_kin_LErrandGuild_Kin_) (fun _ h9 => h9) rfl dX9_takeAnswers_84 ?_
                refine va_get (D := (dC, dI)) (ci := 4) (v := va_rf (rA9 ad (K j_237 4))) (C := RX4) (T := TX4) (N := 9) hx hb hg gb_4 hown hK hP (50 + 16 * j_237 + 1) (hQ.b1 hj_237) rfl 7 (by decide) (hg _ gm_fieldLink_RX9_228_ErrandGuild_Kin_nextSibling_LErrandGuild_Run_) (fun _ h9 => h9) rfl dX9_takeAnswers_87 ?_
                rcases eo_285 : K j_237 4 with _ | j_286
                · refine W.eq (g2 := F0 m 90 ls [.null]) (by first | rfl | (rw [eo_285]; rfl)) ?_
                  refine lv_astore_nN (lv' := [(3, .null), (2, .int x_157), (1, .ref (ad (50 + 16 * j_177))), (0, .ref (ad (50 + 16 * i)))]) hx hb dX9_takeAnswers_90 rfl hl (by decide) rfl (fun ls hl => ?_)
                  refine lv_goto (tgt := 12) hx hb dX9_takeAnswers_91 (by decide) ?_
                  exact ih_166 x_157 (some j_177) none  ws_161 G_160  H locs ls (by simp only [chM] at *; omega) (fun _ h => by cases h; exact hj_177) (fun _ h => by cases h) hQ ⟨i1_168, i2_169, i3_170, i4_171, i5_172, i6_173, i7_174, i8_175, i9_176⟩ hP hD hS (lv_sub hl [0, 1, 2, 3] rfl)
                · refine W.eq (g2 := F0 m 90 ls [.ref (ad (50 + 16 * j_286))]) (by first | rfl | (rw [eo_285]; rfl)) ?_
                  have hj_286 : j_286 < M := i3_170 _ _ _ hj_237 eo_285
                  refine lv_astore_n (lv' := [(3, .ref (ad (50 + 16 * j_286))), (2, .int x_157), (1, .ref (ad (50 + 16 * j_177))), (0, .ref (ad (50 + 16 * i)))]) hx hb dX9_takeAnswers_90 rfl hl (by decide) rfl (fun ls hl => ?_)
                  refine lv_goto (tgt := 12) hx hb dX9_takeAnswers_91 (by decide) ?_
                  exact ih_166 x_157 (some j_177) (some j_286)  ws_161 G_160  H locs ls (by have := i4_171 _ _ hj_237 eo_285; simp only [chM] at *; omega) (fun _ h => by cases h; exact hj_177) (fun _ h => by cases h; exact hj_286) hQ ⟨i1_168, i2_169, i3_170, i4_171, i5_172, i6_173, i7_174, i8_175, i9_176⟩ hP hD hS (lv_sub hl [0, 1, 2, 3] rfl)
              · simp only [i_lt, i_le, i_eq, ti_1] at c_284
                refine lv_aload_n hx hb dX9_takeAnswers_62 rfl (lv_at hl 0 rfl) ?_
                refine va_get (D := (dC, dI)) (ci := 7) (v := .int (G_160 j_237 2)) (C := RX7) (T := TX7) (N := 15) hx hb hg gb_7 hown hK hP (50 + 16 * j_237) (hQ.b0 hj_237) rfl 2 (by decide) (hg _ gm_fieldLink_RX9_145_ErrandGuild_Run_state_I_) (fun _ h9 => h9) rfl dX9_takeAnswers_63 ?_
                refine lv_iconst (v := 4) hx hb dX9_takeAnswers_66 (by decide) ?_
                refine lv_icmp_ne (tgt := 83) hx hb dX9_takeAnswers_67 (by decide) (fun c_287 => ?_) (fun c_287 => ?_)
                · simp only [i_lt, i_le, i_eq, ti_4] at c_287
                  refine lv_aload_n hx hb dX9_takeAnswers_83 rfl (lv_at hl 0 rfl) ?_
                  refine va_get (D := (dC, dI)) (ci := 7) (v := .ref (ad (50 + 16 * j_237 + 1))) (C := RX7) (T := TX7) (N := 15) hx hb hg gb_7 hown hK hP (50 + 16 * j_237) (hQ.b0 hj_237) rfl 10 (by decide) (hg _ gm_fieldLink_RX9_151_ErrandGuild_Run_kin_LErrandGuild_Kin_) (fun _ h9 => h9) rfl dX9_takeAnswers_84 ?_
                  refine va_get (D := (dC, dI)) (ci := 4) (v := va_rf (rA9 ad (K j_237 4))) (C := RX4) (T := TX4) (N := 9) hx hb hg gb_4 hown hK hP (50 + 16 * j_237 + 1) (hQ.b1 hj_237) rfl 7 (by decide) (hg _ gm_fieldLink_RX9_228_ErrandGuild_Kin_nextSibling_LErrandGuild_Run_) (fun _ h9 => h9) rfl dX9_takeAnswers_87 ?_
                  rcases eo_288 : K j_237 4 with _ | j_289
                  · refine W.eq (g2 := F0 m 90 ls [.null]) (by first | rfl | (rw [eo_288]; rfl)) ?_
                    refine lv_astore_nN (lv' := [(3, .null), (2, .int x_157), (1, .ref (ad (50 + 16 * j_177))), (0, .ref (ad (50 + 16 * i)))]) hx hb dX9_takeAnswers_90 rfl hl (by decide) rfl (fun ls hl => ?_)
                    refine lv_goto (tgt := 12) hx hb dX9_takeAnswers_91 (by decide) ?_
                    exact ih_166 x_157 (some j_177) none  ws_161 G_160  H locs ls (by simp only [chM] at *; omega) (fun _ h => by cases h; exact hj_177) (fun _ h => by cases h) hQ ⟨i1_168, i2_169, i3_170, i4_171, i5_172, i6_173, i7_174, i8_175, i9_176⟩ hP hD hS (lv_sub hl [0, 1, 2, 3] rfl)
                  · refine W.eq (g2 := F0 m 90 ls [.ref (ad (50 + 16 * j_289))]) (by first | rfl | (rw [eo_288]; rfl)) ?_
                    have hj_289 : j_289 < M := i3_170 _ _ _ hj_237 eo_288
                    refine lv_astore_n (lv' := [(3, .ref (ad (50 + 16 * j_289))), (2, .int x_157), (1, .ref (ad (50 + 16 * j_177))), (0, .ref (ad (50 + 16 * i)))]) hx hb dX9_takeAnswers_90 rfl hl (by decide) rfl (fun ls hl => ?_)
                    refine lv_goto (tgt := 12) hx hb dX9_takeAnswers_91 (by decide) ?_
                    exact ih_166 x_157 (some j_177) (some j_289)  ws_161 G_160  H locs ls (by have := i4_171 _ _ hj_237 eo_288; simp only [chM] at *; omega) (fun _ h => by cases h; exact hj_177) (fun _ h => by cases h; exact hj_289) hQ ⟨i1_168, i2_169, i3_170, i4_171, i5_172, i6_173, i7_174, i8_175, i9_176⟩ hP hD hS (lv_sub hl [0, 1, 2, 3] rfl)
                · simp only [i_lt, i_le, i_eq, ti_4] at c_287
                  obtain ⟨y_290, ey_290⟩ : ∃ q : Int32, q = x_157 + (1) := ⟨_, rfl⟩
                  refine lv_iinc (v := y_290) (lv' := [(2, .int y_290), (3, .ref (ad (50 + 16 * j_237))), (1, .ref (ad (50 + 16 * j_177))), (0, .ref (ad (50 + 16 * i)))]) hx hb dX9_takeAnswers_70 hl (k := 1) rfl (by rw [ey_290]; rfl) (by decide) rfl (fun ls hl => ?_)
                  refine lv_aload_n hx hb dX9_takeAnswers_73 rfl (lv_at hl 2 rfl) ?_
                  refine lv_ifnonnull (tgt := 81) hx hb dX9_takeAnswers_74 (by decide) ?_
                  refine lv_aload_n hx hb dX9_takeAnswers_81 rfl (lv_at hl 2 rfl) ?_
                  refine lv_astore_n (lv' := [(1, .ref (ad (50 + 16 * j_177))), (2, .int y_290), (3, .ref (ad (50 + 16 * j_237))), (0, .ref (ad (50 + 16 * i)))]) hx hb dX9_takeAnswers_82 rfl hl (by decide) rfl (fun ls hl => ?_)
                  refine lv_aload_n hx hb dX9_takeAnswers_83 rfl (lv_at hl 2 rfl) ?_
                  refine va_get (D := (dC, dI)) (ci := 7) (v := .ref (ad (50 + 16 * j_237 + 1))) (C := RX7) (T := TX7) (N := 15) hx hb hg gb_7 hown hK hP (50 + 16 * j_237) (hQ.b0 hj_237) rfl 10 (by decide) (hg _ gm_fieldLink_RX9_151_ErrandGuild_Run_kin_LErrandGuild_Kin_) (fun _ h9 => h9) rfl dX9_takeAnswers_84 ?_
                  refine va_get (D := (dC, dI)) (ci := 4) (v := va_rf (rA9 ad (K j_237 4))) (C := RX4) (T := TX4) (N := 9) hx hb hg gb_4 hown hK hP (50 + 16 * j_237 + 1) (hQ.b1 hj_237) rfl 7 (by decide) (hg _ gm_fieldLink_RX9_228_ErrandGuild_Kin_nextSibling_LErrandGuild_Run_) (fun _ h9 => h9) rfl dX9_takeAnswers_87 ?_
                  rcases eo_291 : K j_237 4 with _ | j_292
                  · refine W.eq (g2 := F0 m 90 ls [.null]) (by first | rfl | (rw [eo_291]; rfl)) ?_
                    refine lv_astore_nN (lv' := [(3, .null), (1, .ref (ad (50 + 16 * j_177))), (2, .int y_290), (0, .ref (ad (50 + 16 * i)))]) hx hb dX9_takeAnswers_90 rfl hl (by decide) rfl (fun ls hl => ?_)
                    refine lv_goto (tgt := 12) hx hb dX9_takeAnswers_91 (by decide) ?_
                    exact ih_166 y_290 (some j_177) none  ws_161 G_160  H locs ls (by simp only [chM] at *; omega) (fun _ h => by cases h; exact hj_177) (fun _ h => by cases h) hQ ⟨i1_168, i2_169, i3_170, i4_171, i5_172, i6_173, i7_174, i8_175, i9_176⟩ hP hD hS (lv_sub hl [0, 2, 1, 3] rfl)
                  · refine W.eq (g2 := F0 m 90 ls [.ref (ad (50 + 16 * j_292))]) (by first | rfl | (rw [eo_291]; rfl)) ?_
                    have hj_292 : j_292 < M := i3_170 _ _ _ hj_237 eo_291
                    refine lv_astore_n (lv' := [(3, .ref (ad (50 + 16 * j_292))), (1, .ref (ad (50 + 16 * j_177))), (2, .int y_290), (0, .ref (ad (50 + 16 * i)))]) hx hb dX9_takeAnswers_90 rfl hl (by decide) rfl (fun ls hl => ?_)
                    refine lv_goto (tgt := 12) hx hb dX9_takeAnswers_91 (by decide) ?_
                    exact ih_166 y_290 (some j_177) (some j_292)  ws_161 G_160  H locs ls (by have := i4_171 _ _ hj_237 eo_291; simp only [chM] at *; omega) (fun _ h => by cases h; exact hj_177) (fun _ h => by cases h; exact hj_292) hQ ⟨i1_168, i2_169, i3_170, i4_171, i5_172, i6_173, i7_174, i8_175, i9_176⟩ hP hD hS (lv_sub hl [0, 2, 1, 3] rfl)
            · simp only [i_lt, i_le, i_eq, ti_1] at c_283
              refine lv_aload_n hx hb dX9_takeAnswers_27 rfl (lv_at hl 0 rfl) ?_
              refine va_get (D := (dC, dI)) (ci := 7) (v := .int (G_160 j_237 2)) (C := RX7) (T := TX7) (N := 15) hx hb hg gb_7 hown hK hP (50 + 16 * j_237) (hQ.b0 hj_237) rfl 2 (by decide) (hg _ gm_fieldLink_RX9_145_ErrandGuild_Run_state_I_) (fun _ h9 => h9) rfl dX9_takeAnswers_28 ?_
              refine lv_iconst (v := 3) hx hb dX9_takeAnswers_31 (by decide) ?_
              refine lv_icmp_ne (tgt := 51) hx hb dX9_takeAnswers_32 (by decide) (fun c_293 => ?_) (fun c_293 => ?_)
              · simp only [i_lt, i_le, i_eq, ti_3] at c_293
                refine lv_aload_n hx hb dX9_takeAnswers_51 rfl (lv_at hl 0 rfl) ?_
                refine va_get (D := (dC, dI)) (ci := 7) (v := .ref (ad (50 + 16 * j_237 + 1))) (C := RX7) (T := TX7) (N := 15) hx hb hg gb_7 hown hK hP (50 + 16 * j_237) (hQ.b0 hj_237) rfl 10 (by decide) (hg _ gm_fieldLink_RX9_151_ErrandGuild_Run_kin_LErrandGuild_Kin_) (fun _ h9 => h9) rfl dX9_takeAnswers_52 ?_
                refine va_get (D := (dC, dI)) (ci := 4) (v := .int (G_160 j_237 12)) (C := RX4) (T := TX4) (N := 9) hx hb hg gb_4 hown hK hP (50 + 16 * j_237 + 1) (hQ.b1 hj_237) rfl 4 (by decide) (hg _ gm_fieldLink_RX9_379_ErrandGuild_Kin_claim_I_) (fun _ h9 => h9) rfl dX9_takeAnswers_55 ?_
                refine lv_iconst (v := 1) hx hb dX9_takeAnswers_58 (by decide) ?_
                refine lv_icmp_ne (tgt := 83) hx hb dX9_takeAnswers_59 (by decide) (fun c_294 => ?_) (fun c_294 => ?_)
                · simp only [i_lt, i_le, i_eq, ti_1] at c_294
                  exfalso
                  omega
                · simp only [i_lt, i_le, i_eq, ti_1] at c_294
                  refine lv_aload_n hx hb dX9_takeAnswers_62 rfl (lv_at hl 0 rfl) ?_
                  refine va_get (D := (dC, dI)) (ci := 7) (v := .int (G_160 j_237 2)) (C := RX7) (T := TX7) (N := 15) hx hb hg gb_7 hown hK hP (50 + 16 * j_237) (hQ.b0 hj_237) rfl 2 (by decide) (hg _ gm_fieldLink_RX9_145_ErrandGuild_Run_state_I_) (fun _ h9 => h9) rfl dX9_takeAnswers_63 ?_
                  refine lv_iconst (v := 4) hx hb dX9_takeAnswers_66 (by decide) ?_
                  refine lv_icmp_ne (tgt := 83) hx hb dX9_takeAnswers_67 (by decide) (fun c_295 => ?_) (fun c_295 => ?_)
                  · simp only [i_lt, i_le, i_eq, ti_4] at c_295
                    refine lv_aload_n hx hb dX9_takeAnswers_83 rfl (lv_at hl 0 rfl) ?_
                    refine va_get (D := (dC, dI)) (ci := 7) (v := .ref (ad (50 + 16 * j_237 + 1))) (C := RX7) (T := TX7) (N := 15) hx hb hg gb_7 hown hK hP (50 + 16 * j_237) (hQ.b0 hj_237) rfl 10 (by decide) (hg _ gm_fieldLink_RX9_151_ErrandGuild_Run_kin_LErrandGuild_Kin_) (fun _ h9 => h9) rfl dX9_takeAnswers_84 ?_
                    refine va_get (D := (dC, dI)) (ci := 4) (v := va_rf (rA9 ad (K j_237 4))) (C := RX4) (T := TX4) (N := 9) hx hb hg gb_4 hown hK hP (50 + 16 * j_237 + 1) (hQ.b1 hj_237) rfl 7 (by decide) (hg _ gm_fieldLink_RX9_228_ErrandGuild_Kin_nextSibling_LErrandGuild_Run_) (fun _ h9 => h9) rfl dX9_takeAnswers_87 ?_
                    rcases eo_296 : K j_237 4 with _ | j_297
                    · refine W.eq (g2 := F0 m 90 ls [.null]) (by first | rfl | (rw [eo_296]; rfl)) ?_
                      refine lv_astore_nN (lv' := [(3, .null), (2, .int x_157), (1, .ref (ad (50 + 16 * j_177))), (0, .ref (ad (50 + 16 * i)))]) hx hb dX9_takeAnswers_90 rfl hl (by decide) rfl (fun ls hl => ?_)
                      refine lv_goto (tgt := 12) hx hb dX9_takeAnswers_91 (by decide) ?_
                      exact ih_166 x_157 (some j_177) none  ws_161 G_160  H locs ls (by simp only [chM] at *; omega) (fun _ h => by cases h; exact hj_177) (fun _ h => by cases h) hQ ⟨i1_168, i2_169, i3_170, i4_171, i5_172, i6_173, i7_174, i8_175, i9_176⟩ hP hD hS (lv_sub hl [0, 1, 2, 3] rfl)
                    · refine W.eq (g2 := F0 m 90 ls [.ref (ad (50 + 16 * j_297))]) (by first | rfl | (rw [eo_296]; rfl)) ?_
                      have hj_297 : j_297 < M := i3_170 _ _ _ hj_237 eo_296
                      refine lv_astore_n (lv' := [(3, .ref (ad (50 + 16 * j_297))), (2, .int x_157), (1, .ref (ad (50 + 16 * j_177))), (0, .ref (ad (50 + 16 * i)))]) hx hb dX9_takeAnswers_90 rfl hl (by decide) rfl (fun ls hl => ?_)
                      refine lv_goto (tgt := 12) hx hb dX9_takeAnswers_91 (by decide) ?_
                      exact ih_166 x_157 (some j_177) (some j_297)  ws_161 G_160  H locs ls (by have := i4_171 _ _ hj_237 eo_296; simp only [chM] at *; omega) (fun _ h => by cases h; exact hj_177) (fun _ h => by cases h; exact hj_297) hQ ⟨i1_168, i2_169, i3_170, i4_171, i5_172, i6_173, i7_174, i8_175, i9_176⟩ hP hD hS (lv_sub hl [0, 1, 2, 3] rfl)
                  · simp only [i_lt, i_le, i_eq, ti_4] at c_295
                    obtain ⟨y_298, ey_298⟩ : ∃ q : Int32, q = x_157 + (1) := ⟨_, rfl⟩
                    refine lv_iinc (v := y_298) (lv' := [(2, .int y_298), (3, .ref (ad (50 + 16 * j_237))), (1, .ref (ad (50 + 16 * j_177))), (0, .ref (ad (50 + 16 * i)))]) hx hb dX9_takeAnswers_70 hl (k := 1) rfl (by rw [ey_298]; rfl) (by decide) rfl (fun ls hl => ?_)
                    refine lv_aload_n hx hb dX9_takeAnswers_73 rfl (lv_at hl 2 rfl) ?_
                    refine lv_ifnonnull (tgt := 81) hx hb dX9_takeAnswers_74 (by decide) ?_
                    refine lv_aload_n hx hb dX9_takeAnswers_81 rfl (lv_at hl 2 rfl) ?_
                    refine lv_astore_n (lv' := [(1, .ref (ad (50 + 16 * j_177))), (2, .int y_298), (3, .ref (ad (50 + 16 * j_237))), (0, .ref (ad (50 + 16 * i)))]) hx hb dX9_takeAnswers_82 rfl hl (by decide) rfl (fun ls hl => ?_)
                    refine lv_aload_n hx hb dX9_takeAnswers_83 rfl (lv_at hl 2 rfl) ?_
                    refine va_get (D := (dC, dI)) (ci := 7) (v := .ref (ad (50 + 16 * j_237 + 1))) (C := RX7) (T := TX7) (N := 15) hx hb hg gb_7 hown hK hP (50 + 16 * j_237) (hQ.b0 hj_237) rfl 10 (by decide) (hg _ gm_fieldLink_RX9_151_ErrandGuild_Run_kin_LErrandGuild_Kin_) (fun _ h9 => h9) rfl dX9_takeAnswers_84 ?_
                    refine va_get (D := (dC, dI)) (ci := 4) (v := va_rf (rA9 ad (K j_237 4))) (C := RX4) (T := TX4) (N := 9) hx hb hg gb_4 hown hK hP (50 + 16 * j_237 + 1) (hQ.b1 hj_237) rfl 7 (by decide) (hg _ gm_fieldLink_RX9_228_ErrandGuild_Kin_nextSibling_LErrandGuild_Run_) (fun _ h9 => h9) rfl dX9_takeAnswers_87 ?_
                    rcases eo_299 : K j_237 4 with _ | j_300
                    · refine W.eq (g2 := F0 m 90 ls [.null]) (by first | rfl | (rw [eo_299]; rfl)) ?_
                      refine lv_astore_nN (lv' := [(3, .null), (1, .ref (ad (50 + 16 * j_177))), (2, .int y_298), (0, .ref (ad (50 + 16 * i)))]) hx hb dX9_takeAnswers_90 rfl hl (by decide) rfl (fun ls hl => ?_)
                      refine lv_goto (tgt := 12) hx hb dX9_takeAnswers_91 (by decide) ?_
                      exact ih_166 y_298 (some j_177) none  ws_161 G_160  H locs ls (by simp only [chM] at *; omega) (fun _ h => by cases h; exact hj_177) (fun _ h => by cases h) hQ ⟨i1_168, i2_169, i3_170, i4_171, i5_172, i6_173, i7_174, i8_175, i9_176⟩ hP hD hS (lv_sub hl [0, 2, 1, 3] rfl)
                    · refine W.eq (g2 := F0 m 90 ls [.ref (ad (50 + 16 * j_300))]) (by first | rfl | (rw [eo_299]; rfl)) ?_
                      have hj_300 : j_300 < M := i3_170 _ _ _ hj_237 eo_299
                      refine lv_astore_n (lv' := [(3, .ref (ad (50 + 16 * j_300))), (1, .ref (ad (50 + 16 * j_177))), (2, .int y_298), (0, .ref (ad (50 + 16 * i)))]) hx hb dX9_takeAnswers_90 rfl hl (by decide) rfl (fun ls hl => ?_)
                      refine lv_goto (tgt := 12) hx hb dX9_takeAnswers_91 (by decide) ?_
                      exact ih_166 y_298 (some j_177) (some j_300)  ws_161 G_160  H locs ls (by have := i4_171 _ _ hj_237 eo_299; simp only [chM] at *; omega) (fun _ h => by cases h; exact hj_177) (fun _ h => by cases h; exact hj_300) hQ ⟨i1_168, i2_169, i3_170, i4_171, i5_172, i6_173, i7_174, i8_175, i9_176⟩ hP hD hS (lv_sub hl [0, 2, 1, 3] rfl)
              · simp only [i_lt, i_le, i_eq, ti_3] at c_293
                refine lv_aload_n hx hb dX9_takeAnswers_35 rfl (lv_at hl 3 rfl) ?_
                refine lv_dup hx hb dX9_takeAnswers_36 rfl ?_
                refine va_get (D := (dC, dI)) (ci := 7) (v := .int (G_160 i 5)) (C := RX7) (T := TX7) (N := 15) hx hb hg gb_7 hown hK hP (50 + 16 * i) (hQ.b0 hi) rfl 5 (by decide) (hg _ gm_fieldLink_RX9_171_ErrandGuild_Run_sum_I_) (fun _ h9 => h9) rfl dX9_takeAnswers_37 ?_
                refine lv_aload_n hx hb dX9_takeAnswers_40 rfl (lv_at hl 0 rfl) ?_
                refine va_get (D := (dC, dI)) (ci := 7) (v := .int (G_160 j_237 5)) (C := RX7) (T := TX7) (N := 15) hx hb hg gb_7 hown hK hP (50 + 16 * j_237) (hQ.b0 hj_237) rfl 5 (by decide) (hg _ gm_fieldLink_RX9_171_ErrandGuild_Run_sum_I_) (fun _ h9 => h9) rfl dX9_takeAnswers_41 ?_
                refine lv_iadd hx hb dX9_takeAnswers_44 ?_
                refine lv_topi (fun z_301 ez_301 => ?_)
                refine va_put (D := (dC, dI)) (ci := 7) (v := .int (z_301)) (ty := .int) (C := RX7) (T := TX7) (N := 15) hx hb hg gb_7 tyX7 tyX7_ok nmX7 hown hK hP hD hS (50 + 16 * i) (hQ.b0 hi) rfl 5 (by decide) (hg _ gm_fieldLink_RX9_171_ErrandGuild_Run_sum_I_) (fun _ h9 => h9) rfl (by decide +kernel) rfl rfl (Nat.le_of_ble_eq_true rfl) dX9_takeAnswers_45 (fun H locs hP hD hS => ?_)
                obtain ⟨ws_303, G_302, eG_302, hP, hD, hQ⟩ : ∃ (ws_303 : va_W) (G_302 : Nat → Nat → Int32), G_302 = u2 G_160 i 5 z_301 ∧ va_P (dC, dI) vwCl ws_303 H ∧ va_D A ws_303 ∧ Pic9 kc ws_303 ad ga gc M n f T G_302 K F := ⟨_, _, rfl, hP, hD, hQ.run hi 5 (by decide) z_301⟩
                have i6_304 : i6 n T G_302 := by rw [eG_302]; exact (i6.pG i6_173 i _ (by decide))
                have i7_305 : i7 n G_302 := by rw [eG_302]; exact (i7.pG i7_174 i _ (by decide))
                have i8_306 : i8 M n gc G_302 := by rw [eG_302]; exact (i8.pG i8_175 i _ (by decide))
                have i9_307 : i9 M gc G_302 R := by rw [eG_302]; exact (i9.pG i9_176 i _ (by decide))
                have eg_308 : G_302 i 5 = z_301 := by rw [eG_302, u2_eq]
                refine lv_goto (tgt := 83) hx hb dX9_takeAnswers_48 (by decide) ?_
                refine lv_aload_n hx hb dX9_takeAnswers_83 rfl (lv_at hl 0 rfl) ?_
                refine va_get (D := (dC, dI)) (ci := 7) (v := .ref (ad (50 + 16 * j_237 + 1))) (C := RX7) (T := TX7) (N := 15) hx hb hg gb_7 hown hK hP (50 + 16 * j_237) (hQ.b0 hj_237) rfl 10 (by decide) (hg _ gm_fieldLink_RX9_151_ErrandGuild_Run_kin_LErrandGuild_Kin_) (fun _ h9 => h9) rfl dX9_takeAnswers_84 ?_
                refine va_get (D := (dC, dI)) (ci := 4) (v := va_rf (rA9 ad (K j_237 4))) (C := RX4) (T := TX4) (N := 9) hx hb hg gb_4 hown hK hP (50 + 16 * j_237 + 1) (hQ.b1 hj_237) rfl 7 (by decide) (hg _ gm_fieldLink_RX9_228_ErrandGuild_Kin_nextSibling_LErrandGuild_Run_) (fun _ h9 => h9) rfl dX9_takeAnswers_87 ?_
                rcases eo_309 : K j_237 4 with _ | j_310
                · refine W.eq (g2 := F0 m 90 ls [.null]) (by first | rfl | (rw [eo_309]; rfl)) ?_
                  refine lv_astore_nN (lv' := [(3, .null), (2, .int x_157), (1, .ref (ad (50 + 16 * j_177))), (0, .ref (ad (50 + 16 * i)))]) hx hb dX9_takeAnswers_90 rfl hl (by decide) rfl (fun ls hl => ?_)
                  refine lv_goto (tgt := 12) hx hb dX9_takeAnswers_91 (by decide) ?_
                  exact ih_166 x_157 (some j_177) none  ws_303 G_302  H locs ls (by simp only [chM] at *; omega) (fun _ h => by cases h; exact hj_177) (fun _ h => by cases h) hQ ⟨i1_168, i2_169, i3_170, i4_171, i5_172, i6_304, i7_305, i8_306, i9_307⟩ hP hD hS (lv_sub hl [0, 1, 2, 3] rfl)
                · refine W.eq (g2 := F0 m 90 ls [.ref (ad (50 + 16 * j_310))]) (by first | rfl | (rw [eo_309]; rfl)) ?_
                  have hj_310 : j_310 < M := i3_170 _ _ _ hj_237 eo_309
                  refine lv_astore_n (lv' := [(3, .ref (ad (50 + 16 * j_310))), (2, .int x_157), (1, .ref (ad (50 + 16 * j_177))), (0, .ref (ad (50 + 16 * i)))]) hx hb dX9_takeAnswers_90 rfl hl (by decide) rfl (fun ls hl => ?_)
                  refine lv_goto (tgt := 12) hx hb dX9_takeAnswers_91 (by decide) ?_
                  exact ih_166 x_157 (some j_177) (some j_310)  ws_303 G_302  H locs ls (by have := i4_171 _ _ hj_237 eo_309; simp only [chM] at *; omega) (fun _ h => by cases h; exact hj_177) (fun _ h => by cases h; exact hj_310) hQ ⟨i1_168, i2_169, i3_170, i4_171, i5_172, i6_304, i7_305, i8_306, i9_307⟩ hP hD hS (lv_sub hl [0, 1, 2, 3] rfl)
    exact L12 _ (0 : Int32) none (some j_2)  ws G  _ _ _ (Nat.lt_succ_self _) (fun _ h => by cases h) (fun _ h => by cases h; exact hj_2) hQ ⟨h_i1, h_i2, h_i3, h_i4, h_i5, h_i6, h_i7, h_i8, h_i9⟩ hP hD hS (lv_sub hl [0, 1, 2, 3] rfl)

set_option maxHeartbeats 8000000 in
set_option maxRecDepth 100000 in
theorem c_X9_standIn (l : Launch) (dC : Nat → ClassId) (dI : Nat → Nat → Nat) (kc : Nat → ClassId) (ws : va_W) (ad : Nat → Nat) (ga : Nat → Nat) (gc : Nat → Nat) (M : Nat) (n : Nat → Int32) (f : Nat → Nat → Int32) (T : Nat → Option Nat) (G : Nat → Nat → Int32) (K : Nat → Nat → Option Nat) (F : Nat → Nat → Nat → Int32) (R : Nat) (i : Nat) (sz hz : Nat) (hQ : Pic9 kc ws ad ga gc M n f T G K F) (hI : I9 M n T gc G K R) (hi : i < M) : Met l yX9_standIn (.code yX9_standIn cX9_standIn 1 (some .int) :: gw) ({ frames := 2, cells := 0, slots := 0, locals := 44 }) (va_Pc [.ref (ad (50 + 16 * i))] (fun U => U.heap.size = sz ∧ hpS U.heap = hz ∧ va_P (dC, dI) vwCl ws U.heap ∧ va_K (dC, dI) vwCl (t9 kc) U ∧ va_D (fun _ => True) ws ∧ nx U)) (va_Qi (fun (r : Int32) (u : (Nat → Nat) × (Nat → Nat) × (Nat → Nat) × Nat × (Nat → Int32) × (Nat → Nat → Int32) × (Nat → Option Nat) × (Nat → Nat → Int32) × (Nat → Nat → Option Nat) × (Nat → Nat → Nat → Int32)) => True) (fun u t => ∃ w : va_W, va_P (dC, dI) vwCl w t.heap ∧ va_D (va_A ws sz) w ∧ Pic9 kc w ad ga gc M n f T u.2.2.2.2.2.2.2.1 K F ∧ I9 M n T gc u.2.2.2.2.2.2.2.1 K R ∧ hpS t.heap + (260 * M + 2 * S9 M gc) ≤ hz + (260 * M + 2 * S9 M gc) ∧ 16 * t.heap.size + (256 * M + S9 M gc) ≤ 16 * sz + (256 * M + S9 M gc)) (va_A ws sz)) 0 0 (va_A ws sz) := by
  refine Met.ofW (cc := cX9_standIn) (maxL := 1) (ret := (some .int)) (by decide) rfl ?_
  intro p e s m args below meth c s₁ B hml hv
  obtain ⟨rfl, hsz, rfl, hP, hK, hD0, hN⟩ := hv
  have hx := B.exec
  have hb := B.bytes
  have hr := B.returns
  have hts := atoms_spec (ws := .code yX9_standIn cX9_standIn 1 (some .int) :: gw) B.pre
  have hg : ∀ w ∈ gw, w.before _ s = true := fun w h => hts w (List.mem_cons_of_mem _ h)
  have hown : s.vm.findClass RX9 = some m.cls := findClass_of_methodNamed B.named
  have hlocks := B.notSynchronized
  subst hsz
  have hD := hD0.self (sz := s.heap.size)
  generalize hAe : va_A ws s.heap.size = A at hD ⊢
  have hA : ∀ q : Nat, s.heap.size ≤ q → A q := fun q h => by rw [← hAe]; exact Or.inr h
  clear hAe
  have hS : va_S A s.heap s.heap [] := va_S.rf
  have hl := lv_entry ([.ref (ad (50 + 16 * i))]) (n := 1) (Nat.le_of_ble_eq_true rfl)
  rw [lg_entry_eq]
  generalize (lg_sl ([.ref (ad (50 + 16 * i))]) ++ List.replicate (1 - (lg_sl ([.ref (ad (50 + 16 * i))])).length) Slot.unset).toArray = ls at hl ⊢
  have hl : lv_has ls 1 [(0, .ref (ad (50 + 16 * i)))] := hl
  obtain ⟨h_i1, h_i2, h_i3, h_i4, h_i5, h_i6, h_i7, h_i8, h_i9⟩ := id hI
  have q1_ := h_i1
  unfold i1 at q1_
  refine lv_aload_n hx hb dX9_standIn_0 rfl (lv_at hl 0 rfl) ?_
  refine va_get (D := (dC, dI)) (ci := 7) (v := .int (G i 8)) (C := RX7) (T := TX7) (N := 15) hx hb hg gb_7 hown hK hP (50 + 16 * i) (hQ.b0 hi) rfl 8 (by decide) (hg _ gm_fieldLink_RX9_141_ErrandGuild_Run_interrupted_Z_) (fun _ h9 => h9) rfl dX9_standIn_1 ?_
  refine lv_if_eq (tgt := 14) hx hb dX9_standIn_4 (by decide) (fun c_1 => ?_) (fun c_1 => ?_)
  · simp only [i_lt, i_le, i_eq, ti_0] at c_1
    refine lv_aload_n hx hb dX9_standIn_14 rfl (lv_at hl 0 rfl) ?_
    have hFc := free_all hD hS hA
    refine va_calli (va_runS (As := [.ref (ad (50 + 16 * i))]) (rest := []) ⟨hx, hb, hml, hown, hg⟩ (c_X9_takeAnswers l dC dI kc ws ad ga gc M n f T G K F R i s.heap.size (hpS s.heap) hQ ⟨h_i1, h_i2, h_i3, h_i4, h_i5, h_i6, h_i7, h_i8, h_i9⟩ (by show i < M; omega)) (va_cwS 1 hg (gw_S gm_methodLink_RX9_325_yX9_takeAnswers gm_static_yX9_takeAnswers gm_initialized_RX9 gm_code_yX9_takeAnswers_cX9_takeAnswers_4_some_int_) rfl rfl rfl (by decide +kernel) ⟨Nat.le_of_ble_eq_true rfl, Nat.le_of_ble_eq_true rfl⟩) ⟨fun a U g mk q => by obtain ⟨q0, q1, q2, qP, qK, qD, qN⟩ := q; exact ⟨q0, q1, q2, qP, va_K.moved (u := U) (U := U.calling g mk a) (Vm.Alike.refl U.vm) qK, qD, nx_same (u := U) (U := U.calling g mk a) rfl qN⟩, fun U hU hW => ⟨rfl, by rw [hU], by rw [hU], by rw [hU]; exact hP, va_K.moved hW.alike hK, hD.weaken (fun _ _ _ _ => trivial), nx_warm hW hN⟩⟩ rfl rfl hl.1 rfl (lv_room (Nat.le_of_ble_eq_true rfl)) dX9_standIn_15 ⟨Nat.le_of_ble_eq_true rfl, Nat.le_of_ble_eq_true rfl⟩) hS (fun q _ h => hFc q h) hFc (fun r_2 u_3 t H1 locs ht hvm hw hB hz1 hk1 hS => ?_)
    obtain ⟨ad_4, ga_5, gc_6, M_7, n_8, f_9, T_10, G_11, K_12, F_13⟩ := u_3
    have hB : ∃ w : va_W, va_P (dC, dI) vwCl w t.heap ∧ va_D (va_A ws s.heap.size) w ∧ Pic9 kc w ad ga gc M n f T G_11 K F ∧ I9 M n T gc G_11 K R ∧ hpS t.heap + (260 * M + 2 * S9 M gc) ≤ hpS s.heap + (260 * M + 2 * S9 M gc) ∧ 16 * t.heap.size + (256 * M + S9 M gc) ≤ 16 * s.heap.size + (256 * M + S9 M gc) := hB
    rw [ht] at hB
    obtain ⟨ws_14, hP, hD, hQ, hI_15, hy1, hy2⟩ := hB
    have hD := hD.weaken (fun k q _ h => hFc _ h)
    obtain ⟨i1_16, i2_17, i3_18, i4_19, i5_20, i6_21, i7_22, i8_23, i9_24⟩ := id hI_15
    have q1_ := i1_16
    unfold i1 at q1_
    generalize H1 = H at hP hS ⊢
    refine W_msr2 (fun hm1 hm2 hm3 => ?_)
    exact W.iret (v := r_2) hx hb hr (fun t ht hW => ⟨⟨r_2, (ad, ga, gc, M, n, f, T, G_11, K, F), rfl, trivial, ws_14, by rw [ht]; exact hP, hD, hQ, ⟨i1_16, i2_17, i3_18, i4_19, i5_20, i6_21, i7_22, i8_23, i9_24⟩, by rw [ht]; show hpS H + (260 * M + 2 * S9 M gc) ≤ hpS s.heap + (260 * M + 2 * S9 M gc); omega, by rw [ht]; show 16 * H.size + (256 * M + S9 M gc) ≤ 16 * s.heap.size + (256 * M + S9 M gc); omega⟩, hS.F ht⟩) hS.2.2 dX9_standIn_18
  · simp only [i_lt, i_le, i_eq, ti_0] at c_1
    refine lv_aload_n hx hb dX9_standIn_7 rfl (lv_at hl 0 rfl) ?_
    have hFc := free_all hD hS hA
    refine va_calli (va_runS (As := [.ref (ad (50 + 16 * i))]) (rest := []) ⟨hx, hb, hml, hown, hg⟩ (c_X9_noticeInterrupt l dC dI kc ws ad ga gc M n f T G K F R i s.heap.size (hpS s.heap) hQ ⟨h_i1, h_i2, h_i3, h_i4, h_i5, h_i6, h_i7, h_i8, h_i9⟩ (by show i < M; omega)) (va_cwS 1 hg (gw_S gm_methodLink_RX9_322_yX9_noticeInterrupt gm_static_yX9_noticeInterrupt gm_initialized_RX9 gm_code_yX9_noticeInterrupt_cX9_noticeInterrupt_1_some_int_) rfl rfl rfl (by decide +kernel) ⟨Nat.le_of_ble_eq_true rfl, Nat.le_of_ble_eq_true rfl⟩) ⟨fun a U g mk q => by obtain ⟨q0, q1, q2, qP, qK, qD, qN⟩ := q; exact ⟨q0, q1, q2, qP, va_K.moved (u := U) (U := U.calling g mk a) (Vm.Alike.refl U.vm) qK, qD, nx_same (u := U) (U := U.calling g mk a) rfl qN⟩, fun U hU hW => ⟨rfl, by rw [hU], by rw [hU], by rw [hU]; exact hP, va_K.moved hW.alike hK, hD.weaken (fun _ _ _ _ => trivial), nx_warm hW hN⟩⟩ rfl rfl hl.1 rfl (lv_room (Nat.le_of_ble_eq_true rfl)) dX9_standIn_8 ⟨Nat.le_of_ble_eq_true rfl, Nat.le_of_ble_eq_true rfl⟩) hS (fun q _ h => hFc q h) hFc (fun r_26 u_27 t H1 locs ht hvm hw hB hz1 hk1 hS => ?_)
    obtain ⟨ad_28, ga_29, gc_30, M_31, n_32, f_33, T_34, G_35, K_36, F_37⟩ := u_27
    have hB : ∃ w : va_W, va_P (dC, dI) vwCl w t.heap ∧ va_D (va_A ws s.heap.size) w ∧ Pic9 kc w ad ga gc M n f T G_35 K F ∧ I9 M n T gc G_35 K R ∧ hpS t.heap + (260 * M + 2 * S9 M gc) ≤ hpS s.heap + (260 * M + 2 * S9 M gc) ∧ 16 * t.heap.size + (256 * M + S9 M gc) ≤ 16 * s.heap.size + (256 * M + S9 M gc) := hB
    rw [ht] at hB
    obtain ⟨ws_38, hP, hD, hQ, hI_39, hy1, hy2⟩ := hB
    have hD := hD.weaken (fun k q _ h => hFc _ h)
    obtain ⟨i1_40, i2_41, i3_42, i4_43, i5_44, i6_45, i7_46, i8_47, i9_48⟩ := id hI_39
    have q1_ := i1_40
    unfold i1 at q1_
    generalize H1 = H at hP hS ⊢
    refine lv_goto (tgt := 18) hx hb dX9_standIn_11 (by decide) ?_
    refine W_msr2 (fun hm1 hm2 hm3 => ?_)
    exact W.iret (v := r_26) hx hb hr (fun t ht hW => ⟨⟨r_26, (ad, ga, gc, M, n, f, T, G_35, K, F), rfl, trivial, ws_38, by rw [ht]; exact hP, hD, hQ, ⟨i1_40, i2_41, i3_42, i4_43, i5_44, i6_45, i7_46, i8_47, i9_48⟩, by rw [ht]; show hpS H + (260 * M + 2 * S9 M gc) ≤ hpS s.heap + (260 * M + 2 * S9 M gc); omega, by rw [ht]; show 16 * H.size + (256 * M + S9 M gc) ≤ 16 * s.heap.size + (256 * M + S9 M gc); omega⟩, hS.F ht⟩) hS.2.2 dX9_standIn_18

set_option maxHeartbeats 8000000 in
set_option maxRecDepth 100000 in
theorem c_X9_gather (l : Launch) (dC : Nat → ClassId) (dI : Nat → Nat → Nat) (kc : Nat → ClassId) (ws : va_W) (ad : Nat → Nat) (ga : Nat → Nat) (gc : Nat → Nat) (M : Nat) (n : Nat → Int32) (f : Nat → Nat → Int32) (T : Nat → Option Nat) (G : Nat → Nat → Int32) (K : Nat → Nat → Option Nat) (F : Nat → Nat → Nat → Int32) (R : Nat) (i : Nat) (sz hz : Nat) (hQ : Pic9 kc ws ad ga gc M n f T G K F) (hI : I9 M n T gc G K R) (hi : i < M) : Met l yX9_gather (.code yX9_gather cX9_gather 3 (some .int) :: gw) ({ frames := 2, cells := 0, slots := 0, locals := 44 }) (va_Pc [.ref (ad 0), .ref (ad (50 + 16 * i))] (fun U => U.heap.size = sz ∧ hpS U.heap = hz ∧ va_P (dC, dI) vwCl ws U.heap ∧ va_K (dC, dI) vwCl (t9 kc) U ∧ va_D (fun _ => True) ws ∧ nx U)) (va_Qi (fun (r : Int32) (u : (Nat → Nat) × (Nat → Nat) × (Nat → Nat) × Nat × (Nat → Int32) × (Nat → Nat → Int32) × (Nat → Option Nat) × (Nat → Nat → Int32) × (Nat → Nat → Option Nat) × (Nat → Nat → Nat → Int32)) => True) (fun u t => ∃ w : va_W, va_P (dC, dI) vwCl w t.heap ∧ va_D (va_A ws sz) w ∧ Pic9 kc w ad ga gc M n f T u.2.2.2.2.2.2.2.1 K F ∧ I9 M n T gc u.2.2.2.2.2.2.2.1 K R ∧ hpS t.heap + (260 * M + 2 * S9 M gc) ≤ hz + (260 * M + 2 * S9 M gc) ∧ 16 * t.heap.size + (256 * M + S9 M gc) ≤ 16 * sz + (256 * M + S9 M gc)) (va_A ws sz)) 0 0 (va_A ws sz) := by
  refine Met.ofW (cc := cX9_gather) (maxL := 3) (ret := (some .int)) (by decide) rfl ?_
  intro p e s m args below meth c s₁ B hml hv
  obtain ⟨rfl, hsz, rfl, hP, hK, hD0, hN⟩ := hv
  have hx := B.exec
  have hb := B.bytes
  have hr := B.returns
  have hts := atoms_spec (ws := .code yX9_gather cX9_gather 3 (some .int) :: gw) B.pre
  have hg : ∀ w ∈ gw, w.before _ s = true := fun w h => hts w (List.mem_cons_of_mem _ h)
  have hown : s.vm.findClass RX9 = some m.cls := findClass_of_methodNamed B.named
  have hlocks := B.notSynchronized
  subst hsz
  have hD := hD0.self (sz := s.heap.size)
  generalize hAe : va_A ws s.heap.size = A at hD ⊢
  have hA : ∀ q : Nat, s.heap.size ≤ q → A q := fun q h => by rw [← hAe]; exact Or.inr h
  clear hAe
  have hS : va_S A s.heap s.heap [] := va_S.rf
  have hl := lv_entry ([.ref (ad 0), .ref (ad (50 + 16 * i))]) (n := 3) (Nat.le_of_ble_eq_true rfl)
  rw [lg_entry_eq]
  generalize (lg_sl ([.ref (ad 0), .ref (ad (50 + 16 * i))]) ++ List.replicate (3 - (lg_sl ([.ref (ad 0), .ref (ad (50 + 16 * i))])).length) Slot.unset).toArray = ls at hl ⊢
  have hl : lv_has ls 3 [(0, .ref (ad 0)), (1, .ref (ad (50 + 16 * i)))] := hl
  obtain ⟨h_i1, h_i2, h_i3, h_i4, h_i5, h_i6, h_i7, h_i8, h_i9⟩ := id hI
  have q1_ := h_i1
  unfold i1 at q1_
  refine lv_aload_n hx hb dX9_gather_0 rfl (lv_at hl 1 rfl) ?_
  refine va_get (D := (dC, dI)) (ci := 7) (v := .ref (ad (50 + 16 * i + 1))) (C := RX7) (T := TX7) (N := 15) hx hb hg gb_7 hown hK hP (50 + 16 * i) (hQ.b0 hi) rfl 10 (by decide) (hg _ gm_fieldLink_RX9_151_ErrandGuild_Run_kin_LErrandGuild_Kin_) (fun _ h9 => h9) rfl dX9_gather_1 ?_
  refine va_get (D := (dC, dI)) (ci := 4) (v := va_rf (rA9 ad (K i 2))) (C := RX4) (T := TX4) (N := 9) hx hb hg gb_4 hown hK hP (50 + 16 * i + 1) (hQ.b1 hi) rfl 5 (by decide) (hg _ gm_fieldLink_RX9_225_ErrandGuild_Kin_firstChild_LErrandGuild_Run_) (fun _ h9 => h9) rfl dX9_gather_4 ?_
  rcases eo_1 : K i 2 with _ | j_2
  · refine W.eq (g2 := F0 m 7 ls [.null]) (by first | rfl | (rw [eo_1]; rfl)) ?_
    refine lv_astore_nN (lv' := [(2, .null), (0, .ref (ad 0)), (1, .ref (ad (50 + 16 * i)))]) hx hb dX9_gather_7 rfl hl (by decide) rfl (fun ls hl => ?_)
    have L8 : ∀ (fuel : Nat)  (o_3 : Option Nat)  (ws_5 : va_W) (G_4 : Nat → Nat → Int32)  (H : Heap) (locs : List Loc) (ls : Array Slot), chM M o_3 < fuel → (∀ j : Nat, o_3 = some j → j < M) → Pic9 kc ws_5 ad ga gc M n f T G_4 K F → I9 M n T gc G_4 K R → va_P (dC, dI) vwCl ws_5 H → va_D A ws_5 → va_S A s.heap H locs → lv_has ls 3 [(2, va_rf (rA9 ad o_3)), (0, .ref (ad 0)), (1, .ref (ad (50 + 16 * i)))] → W p l e (headSpec (.code yX9_gather cX9_gather 3 (some .int) :: gw) ({ frames := 2, cells := 0, slots := 0, locals := 44 })).room s m ([.ref (ad 0), .ref (ad (50 + 16 * i))] : List Value).toArray below meth c H locs 0 0 (MQ below (va_Qi (fun (r : Int32) (u : (Nat → Nat) × (Nat → Nat) × (Nat → Nat) × Nat × (Nat → Int32) × (Nat → Nat → Int32) × (Nat → Option Nat) × (Nat → Nat → Int32) × (Nat → Nat → Option Nat) × (Nat → Nat → Nat → Int32)) => True) (fun u t => ∃ w : va_W, va_P (dC, dI) vwCl w t.heap ∧ va_D A w ∧ Pic9 kc w ad ga gc M n f T u.2.2.2.2.2.2.2.1 K F ∧ I9 M n T gc u.2.2.2.2.2.2.2.1 K R ∧ hpS t.heap + (260 * M + 2 * S9 M gc) ≤ (hpS s.heap) + (260 * M + 2 * S9 M gc) ∧ 16 * t.heap.size + (256 * M + S9 M gc) ≤ 16 * s.heap.size + (256 * M + S9 M gc)) A) ([.ref (ad 0), .ref (ad (50 + 16 * i))] : List Value).toArray s 0 0 A) (F0 m 8 ls []) := by
      intro fuel
      induction fuel with
      | zero => intro o_3 ws_5 G_4 H locs ls hm; exact absurd hm (Nat.not_lt_zero _)
      | succ fuel_10 ih_9 =>
        intro o_3 ws_5 G_4 H locs ls hm_6 v_7 hQ hI_8 hP hD hS hl
        obtain ⟨i1_11, i2_12, i3_13, i4_14, i5_15, i6_16, i7_17, i8_18, i9_19⟩ := id hI_8
        have q1_ := i1_11
        unfold i1 at q1_
        rcases o_3 with _ | j_20
        · have hl : lv_has ls 3 [(2, .null), (0, .ref (ad 0)), (1, .ref (ad (50 + 16 * i)))] := hl
          refine lv_aload_nN hx hb dX9_gather_8 rfl (lv_at hl 0 rfl) ?_
          refine lv_ifnullN (tgt := 41) hx hb dX9_gather_9 (by decide) ?_
          refine lv_aload_n hx hb dX9_gather_41 rfl (lv_at hl 2 rfl) ?_
          have hFc := free_all hD hS hA
          refine va_calli (va_runS (As := [.ref (ad (50 + 16 * i))]) (rest := []) ⟨hx, hb, hml, hown, hg⟩ (c_X9_areAwaitedOver l dC dI kc ws_5 ad ga gc M n f T G_4 K F R i H.size (hpS H) hQ ⟨i1_11, i2_12, i3_13, i4_14, i5_15, i6_16, i7_17, i8_18, i9_19⟩ (by show i < M; omega)) (va_cwS 1 hg (gw_S gm_methodLink_RX9_303_yX9_areAwaitedOver gm_static_yX9_areAwaitedOver gm_initialized_RX9 gm_code_yX9_areAwaitedOver_cX9_areAwaitedOver_2_some_boolean_) rfl rfl rfl (by decide +kernel) ⟨Nat.le_of_ble_eq_true rfl, Nat.le_of_ble_eq_true rfl⟩) ⟨fun a U g mk q => by obtain ⟨q0, q1, q2, qP, qK, qD, qN⟩ := q; exact ⟨q0, q1, q2, qP, va_K.moved (u := U) (U := U.calling g mk a) (Vm.Alike.refl U.vm) qK, qD, nx_same (u := U) (U := U.calling g mk a) rfl qN⟩, fun U hU hW => ⟨rfl, by rw [hU], by rw [hU], by rw [hU]; exact hP, va_K.moved hW.alike hK, hD.weaken (fun _ _ _ _ => trivial), nx_warm hW hN⟩⟩ rfl rfl hl.1 rfl (lv_room (Nat.le_of_ble_eq_true rfl)) dX9_gather_42 ⟨Nat.le_of_ble_eq_true rfl, Nat.le_of_ble_eq_true rfl⟩) hS (fun q _ h => hFc q h) hFc (fun r_21 u_22 t H1 locs ht hvm hw hB hz1 hk1 hS => ?_)
          obtain ⟨hP, hD, hy1, hy2⟩ := hB
          rw [ht] at hP hy1 hy2
          have hD := hD.weaken (fun k q _ h => hFc _ h)
          have q1_ := i1_11
          unfold i1 at q1_
          generalize H1 = H at hP hS ⊢
          rcases hw with ⟨rfl, w_23⟩ | ⟨rfl, w_23⟩
          · refine lv_if_eq (tgt := 53) hx hb dX9_gather_45 (by decide) (fun c_24 => absurd c_24 (by decide)) (fun _ => ?_)
            refine lv_aload_n hx hb dX9_gather_48 rfl (lv_at hl 2 rfl) ?_
            have hFc := free_all hD hS hA
            refine va_calli (va_runS (As := [.ref (ad (50 + 16 * i))]) (rest := []) ⟨hx, hb, hml, hown, hg⟩ (c_X9_takeAnswers l dC dI kc ws_5 ad ga gc M n f T G_4 K F R i H.size (hpS H) hQ ⟨i1_11, i2_12, i3_13, i4_14, i5_15, i6_16, i7_17, i8_18, i9_19⟩ (by show i < M; omega)) (va_cwS 1 hg (gw_S gm_methodLink_RX9_325_yX9_takeAnswers gm_static_yX9_takeAnswers gm_initialized_RX9 gm_code_yX9_takeAnswers_cX9_takeAnswers_4_some_int_) rfl rfl rfl (by decide +kernel) ⟨Nat.le_of_ble_eq_true rfl, Nat.le_of_ble_eq_true rfl⟩) ⟨fun a U g mk q => by obtain ⟨q0, q1, q2, qP, qK, qD, qN⟩ := q; exact ⟨q0, q1, q2, qP, va_K.moved (u := U) (U := U.calling g mk a) (Vm.Alike.refl U.vm) qK, qD, nx_same (u := U) (U := U.calling g mk a) rfl qN⟩, fun U hU hW => ⟨rfl, by rw [hU], by rw [hU], by rw [hU]; exact hP, va_K.moved hW.alike hK, hD.weaken (fun _ _ _ _ => trivial), nx_warm hW hN⟩⟩ rfl rfl hl.1 rfl (lv_room (Nat.le_of_ble_eq_true rfl)) dX9_gather_49 ⟨Nat.le_of_ble_eq_true rfl, Nat.le_of_ble_eq_true rfl⟩) hS (fun q _ h => hFc q h) hFc (fun r_25 u_26 t H1 locs ht hvm hw hB hz1 hk1 hS => ?_)
            obtain ⟨ad_27, ga_28, gc_29, M_30, n_31, f_32, T_33, G_34, K_35, F_36⟩ := u_26
            have hB : ∃ w : va_W, va_P (dC, dI) vwCl w t.heap ∧ va_D (va_A ws_5 H.size) w ∧ Pic9 kc w ad ga gc M n f T G_34 K F ∧ I9 M n T gc G_34 K R ∧ hpS t.heap + (260 * M + 2 * S9 M gc) ≤ hpS H + (260 * M + 2 * S9 M gc) ∧ 16 * t.heap.size + (256 * M + S9 M gc) ≤ 16 * H.size + (256 * M + S9 M gc) := hB
            rw [ht] at hB
            obtain ⟨ws_37, hP, hD, hQ, hI_38, hy1, hy2⟩ := hB
            have hD := hD.weaken (fun k q _ h => hFc _ h)
            obtain ⟨i1_39, i2_40, i3_41, i4_42, i5_43, i6_44, i7_45, i8_46, i9_47⟩ := id hI_38
            have q1_ := i1_39
            unfold i1 at q1_
            generalize H1 = H at hP hS ⊢
            refine W_msr2 (fun hm1 hm2 hm3 => ?_)
            exact W.iret (v := r_25) hx hb hr (fun t ht hW => ⟨⟨r_25, (ad, ga, gc, M, n, f, T, G_34, K, F), rfl, trivial, ws_37, by rw [ht]; exact hP, hD, hQ, ⟨i1_39, i2_40, i3_41, i4_42, i5_43, i6_44, i7_45, i8_46, i9_47⟩, by rw [ht]; show hpS H + (260 * M + 2 * S9 M gc) ≤ hpS s.heap + (260 * M + 2 * S9 M gc); omega, by rw [ht]; show 16 * H.size + (256 * M + S9 M gc) ≤ 16 * s.heap.size + (256 * M + S9 M gc); omega⟩, hS.F ht⟩) hS.2.2 dX9_gather_52
          · refine lv_if_eq (tgt := 53) hx hb dX9_gather_45 (by decide) (fun _ => ?_) (fun c_49 => absurd c_49 (by decide))
            refine lv_aload_n hx hb dX9_gather_53 rfl (lv_at hl 2 rfl) ?_
            refine lv_iconst (v := 2) hx hb dX9_gather_54 (by decide) ?_
            refine va_put (D := (dC, dI)) (ci := 7) (v := .int (2)) (ty := .int) (C := RX7) (T := TX7) (N := 15) hx hb hg gb_7 tyX7 tyX7_ok nmX7 hown hK hP hD hS (50 + 16 * i) (hQ.b0 hi) rfl 2 (by decide) (hg _ gm_fieldLink_RX9_145_ErrandGuild_Run_state_I_) (fun _ h9 => h9) rfl (by decide +kernel) rfl rfl (Nat.le_of_ble_eq_true rfl) dX9_gather_55 (fun H locs hP hD hS => ?_)
            obtain ⟨ws_51, G_50, eG_50, hP, hD, hQ⟩ : ∃ (ws_51 : va_W) (G_50 : Nat → Nat → Int32), G_50 = u2 G_4 i 2 2 ∧ va_P (dC, dI) vwCl ws_51 H ∧ va_D A ws_51 ∧ Pic9 kc ws_51 ad ga gc M n f T G_50 K F := ⟨_, _, rfl, hP, hD, hQ.run hi 2 (by decide) 2⟩
            have i6_52 : i6 n T G_50 := by rw [eG_50]; exact (i6.pG i6_16 i _ (by decide))
            have i7_53 : i7 n G_50 := by rw [eG_50]; exact (i7.st i7_17 i (by decide))
            have i8_54 : i8 M n gc G_50 := by rw [eG_50]; exact (i8.pG i8_18 i _ (by decide))
            have i9_55 : i9 M gc G_50 R := by rw [eG_50]; exact (i9.pG i9_19 i _ (by decide))
            have eg_56 : G_50 i 2 = 2 := by rw [eG_50, u2_eq]
            refine lv_bipush (v := -2) hx hb dX9_gather_58 (by decide) ?_
            refine W_msr2 (fun hm1 hm2 hm3 => ?_)
            exact W.iret (v := -2) hx hb hr (fun t ht hW => ⟨⟨-2, (ad, ga, gc, M, n, f, T, G_50, K, F), rfl, trivial, ws_51, by rw [ht]; exact hP, hD, hQ, ⟨i1_11, i2_12, i3_13, i4_14, i5_15, i6_52, i7_53, i8_54, i9_55⟩, by rw [ht]; show hpS H + (260 * M + 2 * S9 M gc) ≤ hpS s.heap + (260 * M + 2 * S9 M gc); omega, by rw [ht]; show 16 * H.size + (256 * M + S9 M gc) ≤ 16 * s.heap.size + (256 * M + S9 M gc); omega⟩, hS.F ht⟩) hS.2.2 dX9_gather_60
        · have hl : lv_has ls 3 [(2, .ref (ad (50 + 16 * j_20))), (0, .ref (ad 0)), (1, .ref (ad (50 + 16 * i)))] := hl
          have hj_20 : j_20 < M := v_7 _ rfl
          refine lv_aload_n hx hb dX9_gather_8 rfl (lv_at hl 0 rfl) ?_
          refine lv_ifnull hx hb dX9_gather_9 ?_
          refine lv_aload_n hx hb dX9_gather_12 rfl (lv_at hl 0 rfl) ?_
          refine va_get (D := (dC, dI)) (ci := 7) (v := .ref (ad (50 + 16 * j_20 + 1))) (C := RX7) (T := TX7) (N := 15) hx hb hg gb_7 hown hK hP (50 + 16 * j_20) (hQ.b0 hj_20) rfl 10 (by decide) (hg _ gm_fieldLink_RX9_151_ErrandGuild_Run_kin_LErrandGuild_Kin_) (fun _ h9 => h9) rfl dX9_gather_13 ?_
          refine va_get (D := (dC, dI)) (ci := 4) (v := .int (G_4 j_20 12)) (C := RX4) (T := TX4) (N := 9) hx hb hg gb_4 hown hK hP (50 + 16 * j_20 + 1) (hQ.b1 hj_20) rfl 4 (by decide) (hg _ gm_fieldLink_RX9_379_ErrandGuild_Kin_claim_I_) (fun _ h9 => h9) rfl dX9_gather_16 ?_
          refine lv_if_ne (tgt := 30) hx hb dX9_gather_19 (by decide) (fun c_57 => ?_) (fun c_57 => ?_)
          · simp only [i_lt, i_le, i_eq, ti_0] at c_57
            refine lv_aload_n hx hb dX9_gather_30 rfl (lv_at hl 0 rfl) ?_
            refine va_get (D := (dC, dI)) (ci := 7) (v := .ref (ad (50 + 16 * j_20 + 1))) (C := RX7) (T := TX7) (N := 15) hx hb hg gb_7 hown hK hP (50 + 16 * j_20) (hQ.b0 hj_20) rfl 10 (by decide) (hg _ gm_fieldLink_RX9_151_ErrandGuild_Run_kin_LErrandGuild_Kin_) (fun _ h9 => h9) rfl dX9_gather_31 ?_
            refine va_get (D := (dC, dI)) (ci := 4) (v := va_rf (rA9 ad (K j_20 4))) (C := RX4) (T := TX4) (N := 9) hx hb hg gb_4 hown hK hP (50 + 16 * j_20 + 1) (hQ.b1 hj_20) rfl 7 (by decide) (hg _ gm_fieldLink_RX9_228_ErrandGuild_Kin_nextSibling_LErrandGuild_Run_) (fun _ h9 => h9) rfl dX9_gather_34 ?_
            rcases eo_58 : K j_20 4 with _ | j_59
            · refine W.eq (g2 := F0 m 37 ls [.null]) (by first | rfl | (rw [eo_58]; rfl)) ?_
              refine lv_astore_nN (lv' := [(2, .null), (0, .ref (ad 0)), (1, .ref (ad (50 + 16 * i)))]) hx hb dX9_gather_37 rfl hl (by decide) rfl (fun ls hl => ?_)
              refine lv_goto (tgt := 8) hx hb dX9_gather_38 (by decide) ?_
              exact ih_9  none  ws_5 G_4  H locs ls (by simp only [chM] at *; omega) (fun _ h => by cases h) hQ ⟨i1_11, i2_12, i3_13, i4_14, i5_15, i6_16, i7_17, i8_18, i9_19⟩ hP hD hS (lv_sub hl [0, 1, 2] rfl)
            · refine W.eq (g2 := F0 m 37 ls [.ref (ad (50 + 16 * j_59))]) (by first | rfl | (rw [eo_58]; rfl)) ?_
              have hj_59 : j_59 < M := i3_13 _ _ _ hj_20 eo_58
              refine lv_astore_n (lv' := [(2, .ref (ad (50 + 16 * j_59))), (0, .ref (ad 0)), (1, .ref (ad (50 + 16 * i)))]) hx hb dX9_gather_37 rfl hl (by decide) rfl (fun ls hl => ?_)
              refine lv_goto (tgt := 8) hx hb dX9_gather_38 (by decide) ?_
              exact ih_9  (some j_59)  ws_5 G_4  H locs ls (by have := i4_14 _ _ hj_20 eo_58; simp only [chM] at *; omega) (fun _ h => by cases h; exact hj_59) hQ ⟨i1_11, i2_12, i3_13, i4_14, i5_15, i6_16, i7_17, i8_18, i9_19⟩ hP hD hS (lv_sub hl [0, 1, 2] rfl)
          · simp only [i_lt, i_le, i_eq, ti_0] at c_57
            refine lv_aload_n hx hb dX9_gather_22 rfl (lv_at hl 0 rfl) ?_
            refine va_get (D := (dC, dI)) (ci := 7) (v := .ref (ad (50 + 16 * j_20 + 1))) (C := RX7) (T := TX7) (N := 15) hx hb hg gb_7 hown hK hP (50 + 16 * j_20) (hQ.b0 hj_20) rfl 10 (by decide) (hg _ gm_fieldLink_RX9_151_ErrandGuild_Run_kin_LErrandGuild_Kin_) (fun _ h9 => h9) rfl dX9_gather_23 ?_
            refine lv_iconst (v := 1) hx hb dX9_gather_26 (by decide) ?_
            refine va_put (D := (dC, dI)) (ci := 4) (v := .int (1)) (ty := .int) (C := RX4) (T := TX4) (N := 9) hx hb hg gb_4 tyX4 tyX4_ok nmX4 hown hK hP hD hS (50 + 16 * j_20 + 1) (hQ.b1 hj_20) rfl 4 (by decide) (hg _ gm_fieldLink_RX9_379_ErrandGuild_Kin_claim_I_) (fun _ h9 => h9) rfl (by decide +kernel) rfl rfl (Nat.le_of_ble_eq_true rfl) dX9_gather_27 (fun H locs hP hD hS => ?_)
            obtain ⟨ws_61, G_60, eG_60, hP, hD, hQ⟩ : ∃ (ws_61 : va_W) (G_60 : Nat → Nat → Int32), G_60 = u2 G_4 j_20 12 1 ∧ va_P (dC, dI) vwCl ws_61 H ∧ va_D A ws_61 ∧ Pic9 kc ws_61 ad ga gc M n f T G_60 K F := ⟨_, _, rfl, hP, hD, hQ.kinI hj_20 12 4 (by decide) 1⟩
            have i6_62 : i6 n T G_60 := by rw [eG_60]; exact (i6.pG i6_16 j_20 _ (by decide))
            have i7_63 : i7 n G_60 := by rw [eG_60]; exact (i7.pG i7_17 j_20 _ (by decide))
            have i8_64 : i8 M n gc G_60 := by rw [eG_60]; exact (i8.pG i8_18 j_20 _ (by decide))
            have i9_65 : i9 M gc G_60 R := by rw [eG_60]; exact (i9.pG i9_19 j_20 _ (by decide))
            have eg_66 : G_60 j_20 12 = 1 := by rw [eG_60, u2_eq]
            refine lv_aload_n hx hb dX9_gather_30 rfl (lv_at hl 0 rfl) ?_
            refine va_get (D := (dC, dI)) (ci := 7) (v := .ref (ad (50 + 16 * j_20 + 1))) (C := RX7) (T := TX7) (N := 15) hx hb hg gb_7 hown hK hP (50 + 16 * j_20) (hQ.b0 hj_20) rfl 10 (by decide) (hg _ gm_fieldLink_RX9_151_ErrandGuild_Run_kin_LErrandGuild_Kin_) (fun _ h9 => h9) rfl dX9_gather_31 ?_
            refine va_get (D := (dC, dI)) (ci := 4) (v := va_rf (rA9 ad (K j_20 4))) (C := RX4) (T := TX4) (N := 9) hx hb hg gb_4 hown hK hP (50 + 16 * j_20 + 1) (hQ.b1 hj_20) rfl 7 (by decide) (hg _ gm_fieldLink_RX9_228_ErrandGuild_Kin_nextSibling_LErrandGuild_Run_) (fun _ h9 => h9) rfl dX9_gather_34 ?_
            rcases eo_67 : K j_20 4 with _ | j_68
            · refine W.eq (g2 := F0 m 37 ls [.null]) (by first | rfl | (rw [eo_67]; rfl)) ?_
              refine lv_astore_nN (lv' := [(2, .null), (0, .ref (ad 0)), (1, .ref (ad (50 + 16 * i)))]) hx hb dX9_gather_37 rfl hl (by decide) rfl (fun ls hl => ?_)
              refine lv_goto (tgt := 8) hx hb dX9_gather_38 (by decide) ?_
              exact ih_9  none  ws_61 G_60  H locs ls (by simp only [chM] at *; omega) (fun _ h => by cases h) hQ ⟨i1_11, i2_12, i3_13, i4_14, i5_15, i6_62, i7_63, i8_64, i9_65⟩ hP hD hS (lv_sub hl [0, 1, 2] rfl)
            · refine W.eq (g2 := F0 m 37 ls [.ref (ad (50 + 16 * j_68))]) (by first | rfl | (rw [eo_67]; rfl)) ?_
              have hj_68 : j_68 < M := i3_13 _ _ _ hj_20 eo_67
              refine lv_astore_n (lv' := [(2, .ref (ad (50 + 16 * j_68))), (0, .ref (ad 0)), (1, .ref (ad (50 + 16 * i)))]) hx hb dX9_gather_37 rfl hl (by decide) rfl (fun ls hl => ?_)
              refine lv_goto (tgt := 8) hx hb dX9_gather_38 (by decide) ?_
              exact ih_9  (some j_68)  ws_61 G_60  H locs ls (by have := i4_14 _ _ hj_20 eo_67; simp only [chM] at *; omega) (fun _ h => by cases h; exact hj_68) hQ ⟨i1_11, i2_12, i3_13, i4_14, i5_15, i6_62, i7_63, i8_64, i9_65⟩ hP hD hS (lv_sub hl [0, 1, 2] rfl)
    exact L8 _  none  ws G  _ _ _ (Nat.lt_succ_self _) (fun _ h => by cases h) hQ ⟨h_i1, h_i2, h_i3, h_i4, h_i5, h_i6, h_i7, h_i8, h_i9⟩ hP hD hS (lv_sub hl [0, 1, 2] rfl)
  · refine W.eq (g2 := F0 m 7 ls [.ref (ad (50 + 16 * j_2))]) (by first | rfl | (rw [eo_1]; rfl)) ?_
    have hj_2 : j_2 < M := h_i3 _ _ _ hi eo_1
    refine lv_astore_n (lv' := [(2, .ref (ad (50 + 16 * j_2))), (0, .ref (ad 0)), (1, .ref (ad (50 + 16 * i)))]) hx hb dX9_gather_7 rfl hl (by decide) rfl (fun ls hl => ?_)
    have L8 : ∀ (fuel : Nat)  (o_69 : Option Nat)  (ws_71 : va_W) (G_70 : Nat → Nat → Int32)  (H : Heap) (locs : List Loc) (ls : Array Slot), chM M o_69 < fuel → (∀ j : Nat, o_69 = some j → j < M) → Pic9 kc ws_71 ad ga gc M n f T G_70 K F → I9 M n T gc G_70 K R → va_P (dC, dI) vwCl ws_71 H → va_D A ws_71 → va_S A s.heap H locs → lv_has ls 3 [(2, va_rf (rA9 ad o_69)), (0, .ref (ad 0)), (1, .ref (ad (50 + 16 * i)))] → W p l e (headSpec (.code yX9_gather cX9_gather 3 (some .int) :: gw) ({ frames := 2, cells := 0, slots := 0, locals := 44 })).room s m ([.ref (ad 0), .ref (ad (50 + 16 * i))] : List Value).toArray below meth c H locs 0 0 (MQ below (va_Qi (fun (r : Int32) (u : (Nat → Nat) × (Nat → Nat) × (Nat → Nat) × Nat × (Nat → Int32) × (Nat → Nat → Int32) × (Nat → Option Nat) × (Nat → Nat → Int32) × (Nat → Nat → Option Nat) × (Nat → Nat → Nat → Int32)) => True) (fun u t => ∃ w : va_W, va_P (dC, dI) vwCl w t.heap ∧ va_D A w ∧ Pic9 kc w ad ga gc M n f T u.2.2.2.2.2.2.2.1 K F ∧ I9 M n T gc u.2.2.2.2.2.2.2.1 K R ∧ hpS t.heap + (260 * M + 2 * S9 M gc) ≤ (hpS s.heap) + (260 * M + 2 * S9 M gc) ∧ 16 * t.heap.size + (256 * M + S9 M gc) ≤ 16 * s.heap.size + (256 * M + S9 M gc)) A) ([.ref (ad 0), .ref (ad (50 + 16 * i))] : List Value).toArray s 0 0 A) (F0 m 8 ls []) := by
      intro fuel
      induction fuel with
      | zero => intro o_69 ws_71 G_70 H locs ls hm; exact absurd hm (Nat.not_lt_zero _)
      | succ fuel_76 ih_75 =>
        intro o_69 ws_71 G_70 H locs ls hm_72 v_73 hQ hI_74 hP hD hS hl
        obtain ⟨i1_77, i2_78, i3_79, i4_80, i5_81, i6_82, i7_83, i8_84, i9_85⟩ := id hI_74
        have q1_ := i1_77
        unfold i1 at q1_
        rcases o_69 with _ | j_86
        · have hl : lv_has ls 3 [(2, .null), (0, .ref (ad 0)), (1, .ref (ad (50 + 16 * i)))] := hl
          refine lv_aload_nN hx hb dX9_gather_8 rfl (lv_at hl 0 rfl) ?_
          refine lv_ifnullN (tgt := 41) hx hb dX9_gather_9 (by decide) ?_
          refine lv_aload_n hx hb dX9_gather_41 rfl (lv_at hl 2 rfl) ?_
          have hFc := free_all hD hS hA
          refine va_calli (va_runS (As := [.ref (ad (50 + 16 * i))]) (rest := []) ⟨hx, hb, hml, hown, hg⟩ (c_X9_areAwaitedOver l dC dI kc ws_71 ad ga gc M n f T G_70 K F R i H.size (hpS H) hQ ⟨i1_77, i2_78, i3_79, i4_80, i5_81, i6_82, i7_83, i8_84, i9_85⟩ (by show i < M; omega)) (va_cwS 1 hg (gw_S gm_methodLink_RX9_303_yX9_areAwaitedOver gm_static_yX9_areAwaitedOver gm_initialized_RX9 gm_code_yX9_areAwaitedOver_cX9_areAwaitedOver_2_some_boolean_) rfl rfl rfl (by decide +kernel) ⟨Nat.le_of_ble_eq_true rfl, Nat.le_of_ble_eq_true rfl⟩) ⟨fun a U g mk q => by obtain ⟨q0, q1, q2, qP, qK, qD, qN⟩ := q; exact ⟨q0, q1, q2, qP, va_K.moved (u := U) (U := U.calling g mk a) (Vm.Alike.refl U.vm) qK, qD, nx_same (u := U) (U := U.calling g mk a) rfl qN⟩, fun U hU hW => ⟨rfl, by rw [hU], by rw [hU], by rw [hU]; exact hP, va_K.moved hW.alike hK, hD.weaken (fun _ _ _ _ => trivial), nx_warm hW hN⟩⟩ rfl rfl hl.1 rfl (lv_room (Nat.le_of_ble_eq_true rfl)) dX9_gather_42 ⟨Nat.le_of_ble_eq_true rfl, Nat.le_of_ble_eq_true rfl⟩) hS (fun q _ h => hFc q h) hFc (fun r_87 u_88 t H1 locs ht hvm hw hB hz1 hk1 hS => ?_)
          obtain ⟨hP, hD, hy1, hy2⟩ := hB
          rw [ht] at hP hy1 hy2
          have hD := hD.weaken (fun k q _ h => hFc _ h)
          have q1_ := i1_77
          unfold i1 at q1_
          generalize H1 = H at hP hS ⊢
          rcases hw with ⟨rfl, w_89⟩ | ⟨rfl, w_89⟩
          · refine lv_if_eq (tgt := 53) hx hb dX9_gather_45 (by decide) (fun c_90 => absurd c_90 (by decide)) (fun _ => ?_)
            refine lv_aload_n hx hb dX9_gather_48 rfl (lv_at hl 2 rfl) ?_
            have hFc := free_all hD hS hA
            refine va_calli (va_runS (As := [.ref (ad (50 + 16 * i))]) (rest := []) ⟨hx, hb, hml, hown, hg⟩ (c_X9_takeAnswers l dC dI kc ws_71 ad ga gc M n f T G_70 K F R i H.size (hpS H) hQ ⟨i1_77, i2_78, i3_79, i4_80, i5_81, i6_82, i7_83, i8_84, i9_85⟩ (by show i < M; omega)) (va_cwS 1 hg (gw_S gm_methodLink_RX9_325_yX9_takeAnswers gm_static_yX9_takeAnswers gm_initialized_RX9 gm_code_yX9_takeAnswers_cX9_takeAnswers_4_some_int_) rfl rfl rfl (by decide +kernel) ⟨Nat.le_of_ble_eq_true rfl, Nat.le_of_ble_eq_true rfl⟩) ⟨fun a U g mk q => by obtain ⟨q0, q1, q2, qP, qK, qD, qN⟩ := q; exact ⟨q0, q1, q2, qP, va_K.moved (u := U) (U := U.calling g mk a) (Vm.Alike.refl U.vm) qK, qD, nx_same (u := U) (U := U.calling g mk a) rfl qN⟩, fun U hU hW => ⟨rfl, by rw [hU], by rw [hU], by rw [hU]; exact hP, va_K.moved hW.alike hK, hD.weaken (fun _ _ _ _ => trivial), nx_warm hW hN⟩⟩ rfl rfl hl.1 rfl (lv_room (Nat.le_of_ble_eq_true rfl)) dX9_gather_49 ⟨Nat.le_of_ble_eq_true rfl, Nat.le_of_ble_eq_true rfl⟩) hS (fun q _ h => hFc q h) hFc (fun r_91 u_92 t H1 locs ht hvm hw hB hz1 hk1 hS => ?_)
            obtain ⟨ad_93, ga_94, gc_95, M_96, n_97, f_98, T_99, G_100, K_101, F_102⟩ := u_92
            have hB : ∃ w : va_W, va_P (dC, dI) vwCl w t.heap ∧ va_D (va_A ws_71 H.size) w ∧ Pic9 kc w ad ga gc M n f T G_100 K F ∧ I9 M n T gc G_100 K R ∧ hpS t.heap + (260 * M + 2 * S9 M gc) ≤ hpS H + (260 * M + 2 * S9 M gc) ∧ 16 * t.heap.size + (256 * M + S9 M gc) ≤ 16 * H.size + (256 * M + S9 M gc) := hB
            rw [ht] at hB
            obtain ⟨ws_103, hP, hD, hQ, hI_104, hy1, hy2⟩ := hB
            have hD := hD.weaken (fun k q _ h => hFc _ h)
            obtain ⟨i1_105, i2_106, i3_107, i4_108, i5_109, i6_110, i7_111, i8_112, i9_113⟩ := id hI_104
            have q1_ := i1_105
            unfold i1 at q1_
            generalize H1 = H at hP hS ⊢
            refine W_msr2 (fun hm1 hm2 hm3 => ?_)
            exact W.iret (v := r_91) hx hb hr (fun t ht hW => ⟨⟨r_91, (ad, ga, gc, M, n, f, T, G_100, K, F), rfl, trivial, ws_103, by rw [ht]; exact hP, hD, hQ, ⟨i1_105, i2_106, i3_107, i4_108, i5_109, i6_110, i7_111, i8_112, i9_113⟩, by rw [ht]; show hpS H + (260 * M + 2 * S9 M gc) ≤ hpS s.heap + (260 * M + 2 * S9 M gc); omega, by rw [ht]; show 16 * H.size + (256 * M + S9 M gc) ≤ 16 * s.heap.size + (256 * M + S9 M gc); omega⟩, hS.F ht⟩) hS.2.2 dX9_gather_52
          · refine lv_if_eq (tgt := 53) hx hb dX9_gather_45 (by decide) (fun _ => ?_) (fun c_115 => absurd c_115 (by decide))
            refine lv_aload_n hx hb dX9_gather_53 rfl (lv_at hl 2 rfl) ?_
            refine lv_iconst (v := 2) hx hb dX9_gather_54 (by decide) ?_
            refine va_put (D := (dC, dI)) (ci := 7) (v := .int (2)) (ty := .int) (C := RX7) (T := TX7) (N := 15) hx hb hg gb_7 tyX7 tyX7_ok nmX7 hown hK hP hD hS (50 + 16 * i) (hQ.b0 hi) rfl 2 (by decide) (hg _ gm_fieldLink_RX9_145_ErrandGuild_Run_state_I_) (fun _ h9 => h9) rfl (by decide +kernel) rfl rfl (Nat.le_of_ble_eq_true rfl) dX9_gather_55 (fun H locs hP hD hS => ?_)
            obtain ⟨ws_117, G_116, eG_116, hP, hD, hQ⟩ : ∃ (ws_117 : va_W) (G_116 : Nat → Nat → Int32), G_116 = u2 G_70 i 2 2 ∧ va_P (dC, dI) vwCl ws_117 H ∧ va_D A ws_117 ∧ Pic9 kc ws_117 ad ga gc M n f T G_116 K F := ⟨_, _, rfl, hP, hD, hQ.run hi 2 (by decide) 2⟩
            have i6_118 : i6 n T G_116 := by rw [eG_116]; exact (i6.pG i6_82 i _ (by decide))
            have i7_119 : i7 n G_116 := by rw [eG_116]; exact (i7.st i7_83 i (by decide))
            have i8_120 : i8 M n gc G_116 := by rw [eG_116]; exact (i8.pG i8_84 i _ (by decide))
            have i9_121 : i9 M gc G_116 R := by rw [eG_116]; exact (i9.pG i9_85 i _ (by decide))
            have eg_122 : G_116 i 2 = 2 := by rw [eG_116, u2_eq]
            refine lv_bipush (v := -2) hx hb dX9_gather_58 (by decide) ?_
            refine W_msr2 (fun hm1 hm2 hm3 => ?_)
            exact W.iret (v := -2) hx hb hr (fun t ht hW => ⟨⟨-2, (ad, ga, gc, M, n, f, T, G_116, K, F), rfl, trivial, ws_117, by rw [ht]; exact hP, hD, hQ, ⟨i1_77, i2_78, i3_79, i4_80, i5_81, i6_118, i7_119, i8_120, i9_121⟩, by rw [ht]; show hpS H + (260 * M + 2 * S9 M gc) ≤ hpS s.heap + (260 * M + 2 * S9 M gc); omega, by rw [ht]; show 16 * H.size + (256 * M + S9 M gc) ≤ 16 * s.heap.size + (256 * M + S9 M gc); omega⟩, hS.F ht⟩) hS.2.2 dX9_gather_60
        · have hl : lv_has ls 3 [(2, .ref (ad (50 + 16 * j_86))), (0, .ref (ad 0)), (1, .ref (ad (50 + 16 * i)))] := hl
          have hj_86 : j_86 < M := v_73 _ rfl
          refine lv_aload_n hx hb dX9_gather_8 rfl (lv_at hl 0 rfl) ?_
          refine lv_ifnull hx hb dX9_gather_9 ?_
          refine lv_aload_n hx hb dX9_gather_12 rfl (lv_at hl 0 rfl) ?_
          refine va_get (D := (dC, dI)) (ci := 7) (v := .ref (ad (50 + 16 * j_86 + 1))) (C := RX7) (T := TX7) (N := 15) hx hb hg gb_7 hown hK hP (50 + 16 * j_86) (hQ.b0 hj_86) rfl 10 (by decide) (hg _ gm_fieldLink_RX9_151_ErrandGuild_Run_kin_LErrandGuild_Kin_) (fun _ h9 => h9) rfl dX9_gather_13 ?_
          refine va_get (D := (dC, dI)) (ci := 4) (v := .int (G_70 j_86 12)) (C := RX4) (T := TX4) (N := 9) hx hb hg gb_4 hown hK hP (50 + 16 * j_86 + 1) (hQ.b1 hj_86) rfl 4 (by decide) (hg _ gm_fieldLink_RX9_379_ErrandGuild_Kin_claim_I_) (fun _ h9 => h9) rfl dX9_gather_16 ?_
          refine lv_if_ne (tgt := 30) hx hb dX9_gather_19 (by decide) (fun c_123 => ?_) (fun c_123 => ?_)
          · simp only [i_lt, i_le, i_eq, ti_0] at c_123
            refine lv_aload_n hx hb dX9_gather_30 rfl (lv_at hl 0 rfl) ?_
            refine va_get (D := (dC, dI)) (ci := 7) (v := .ref (ad (50 + 16 * j_86 + 1))) (C := RX7) (T := TX7) (N := 15) hx hb hg gb_7 hown hK hP (50 + 16 * j_86) (hQ.b0 hj_86) rfl 10 (by decide) (hg _ gm_fieldLink_RX9_151_ErrandGuild_Run_kin_LErrandGuild_Kin_) (fun _ h9 => h9) rfl dX9_gather_31 ?_
            refine va_get (D := (dC, dI)) (ci := 4) (v := va_rf (rA9 ad (K j_86 4))) (C := RX4) (T := TX4) (N := 9) hx hb hg gb_4 hown hK hP (50 + 16 * j_86 + 1) (hQ.b1 hj_86) rfl 7 (by decide) (hg _ gm_fieldLink_RX9_228_ErrandGuild_Kin_nextSibling_LErrandGuild_Run_) (fun _ h9 => h9) rfl dX9_gather_34 ?_
            rcases eo_124 : K j_86 4 with _ | j_125
            · refine W.eq (g2 := F0 m 37 ls [.null]) (by first | rfl | (rw [eo_124]; rfl)) ?_
              refine lv_astore_nN (lv' := [(2, .null), (0, .ref (ad 0)), (1, .ref (ad (50 + 16 * i)))]) hx hb dX9_gather_37 rfl hl (by decide) rfl (fun ls hl => ?_)
              refine lv_goto (tgt := 8) hx hb dX9_gather_38 (by decide) ?_
              exact ih_75  none  ws_71 G_70  H locs ls (by simp only [chM] at *; omega) (fun _ h => by cases h) hQ ⟨i1_77, i2_78, i3_79, i4_80, i5_81, i6_82, i7_83, i8_84, i9_85⟩ hP hD hS (lv_sub hl [0, 1, 2] rfl)
            · refine W.eq (g2 := F0 m 37 ls [.ref (ad (50 + 16 * j_125))]) (by first | rfl | (rw [eo_124]; rfl)) ?_
              have hj_125 : j_125 < M := i3_79 _ _ _ hj_86 eo_124
              refine lv_astore_n (lv' := [(2, .ref (ad (50 + 16 * j_125))), (0, .ref (ad 0)), (1, .ref (ad (50 + 16 * i)))]) hx hb dX9_gather_37 rfl hl (by decide) rfl (fun ls hl => ?_)
              refine lv_goto (tgt := 8) hx hb dX9_gather_38 (by decide) ?_
              exact ih_75  (some j_125)  ws_71 G_70  H locs ls (by have := i4_80 _ _ hj_86 eo_124; simp only [chM] at *; omega) (fun _ h => by cases h; exact hj_125) hQ ⟨i1_77, i2_78, i3_79, i4_80, i5_81, i6_82, i7_83, i8_84, i9_85⟩ hP hD hS (lv_sub hl [0, 1, 2] rfl)
          · simp only [i_lt, i_le, i_eq, ti_0] at c_123
            refine lv_aload_n hx hb dX9_gather_22 rfl (lv_at hl 0 rfl) ?_
            refine va_get (D := (dC, dI)) (ci := 7) (v := .ref (ad (50 + 16 * j_86 + 1))) (C := RX7) (T := TX7) (N := 15) hx hb hg gb_7 hown hK hP (50 + 16 * j_86) (hQ.b0 hj_86) rfl 10 (by decide) (hg _ gm_fieldLink_RX9_151_ErrandGuild_Run_kin_LErrandGuild_Kin_) (fun _ h9 => h9) rfl dX9_gather_23 ?_
            refine lv_iconst (v := 1) hx hb dX9_gather_26 (by decide) ?_
            refine va_put (D := (dC, dI)) (ci := 4) (v := .int (1)) (ty := .int) (C := RX4) (T := TX4) (N := 9) hx hb hg gb_4 tyX4 tyX4_ok nmX4 hown hK hP hD hS (50 + 16 * j_86 + 1) (hQ.b1 hj_86) rfl 4 (by decide) (hg _ gm_fieldLink_RX9_379_ErrandGuild_Kin_claim_I_) (fun _ h9 => h9) rfl (by decide +kernel) rfl rfl (Nat.le_of_ble_eq_true rfl) dX9_gather_27 (fun H locs hP hD hS => ?_)
            obtain ⟨ws_127, G_126, eG_126, hP, hD, hQ⟩ : ∃ (ws_127 : va_W) (G_126 : Nat → Nat → Int32), G_126 = u2 G_70 j_86 12 1 ∧ va_P (dC, dI) vwCl ws_127 H ∧ va_D A ws_127 ∧ Pic9 kc ws_127 ad ga gc M n f T G_126 K F := ⟨_, _, rfl, hP, hD, hQ.kinI hj_86 12 4 (by decide) 1⟩
            have i6_128 : i6 n T G_126 := by rw [eG_126]; exact (i6.pG i6_82 j_86 _ (by decide))
            have i7_129 : i7 n G_126 := by rw [eG_126]; exact (i7.pG i7_83 j_86 _ (by decide))
            have i8_130 : i8 M n gc G_126 := by rw [eG_126]; exact (i8.pG i8_84 j_86 _ (by decide))
            have i9_131 : i9 M gc G_126 R := by rw [eG_126]; exact (i9.pG i9_85 j_86 _ (by decide))
            have eg_132 : G_126 j_86 12 = 1 := by rw [eG_126, u2_eq]
            refine lv_aload_n hx hb dX9_gather_30 rfl (lv_at hl 0 rfl) ?_
            refine va_get (D := (dC, dI)) (ci := 7) (v := .ref (ad (50 + 16 * j_86 + 1))) (C := RX7) (T := TX7) (N := 15) hx hb hg gb_7 hown hK hP (50 + 16 * j_86) (hQ.b0 hj_86) rfl 10 (by decide) (hg _ gm_fieldLink_RX9_151_ErrandGuild_Run_kin_LErrandGuild_Kin_) (fun _ h9 => h9) rfl dX9_gather_31 ?_
            refine va_get (D := (dC, dI)) (ci := 4) (v := va_rf (rA9 ad (K j_86 4))) (C := RX4) (T := TX4) (N := 9) hx hb hg gb_4 hown hK hP (50 + 16 * j_86 + 1) (hQ.b1 hj_86) rfl 7 (by decide) (hg _ gm_fieldLink_RX9_228_ErrandGuild_Kin_nextSibling_LErrandGuild_Run_) (fun _ h9 => h9) rfl dX9_gather_34 ?_
            rcases eo_133 : K j_86 4 with _ | j_134
            · refine W.eq (g2 := F0 m 37 ls [.null]) (by first | rfl | (rw [eo_133]; rfl)) ?_
              refine lv_astore_nN (lv' := [(2, .null), (0, .ref (ad 0)), (1, .ref (ad (50 + 16 * i)))]) hx hb dX9_gather_37 rfl hl (by decide) rfl (fun ls hl => ?_)
              refine lv_goto (tgt := 8) hx hb dX9_gather_38 (by decide) ?_
              exact ih_75  none  ws_127 G_126  H locs ls (by simp only [chM] at *; omega) (fun _ h => by cases h) hQ ⟨i1_77, i2_78, i3_79, i4_80, i5_81, i6_128, i7_129, i8_130, i9_131⟩ hP hD hS (lv_sub hl [0, 1, 2] rfl)
            · refine W.eq (g2 := F0 m 37 ls [.ref (ad (50 + 16 * j_134))]) (by first | rfl | (rw [eo_133]; rfl)) ?_
              have hj_134 : j_134 < M := i3_79 _ _ _ hj_86 eo_133
              refine lv_astore_n (lv' := [(2, .ref (ad (50 + 16 * j_134))), (0, .ref (ad 0)), (1, .ref (ad (50 + 16 * i)))]) hx hb dX9_gather_37 rfl hl (by decide) rfl (fun ls hl => ?_)
              refine lv_goto (tgt := 8) hx hb dX9_gather_38 (by decide) ?_
              exact ih_75  (some j_134)  ws_127 G_126  H locs ls (by have := i4_80 _ _ hj_86 eo_133; simp only [chM] at *; omega) (fun _ h => by cases h; exact hj_134) hQ ⟨i1_77, i2_78, i3_79, i4_80, i5_81, i6_128, i7_129, i8_130, i9_131⟩ hP hD hS (lv_sub hl [0, 1, 2] rfl)
    exact L8 _  (some j_2)  ws G  _ _ _ (Nat.lt_succ_self _) (fun _ h => by cases h; exact hj_2) hQ ⟨h_i1, h_i2, h_i3, h_i4, h_i5, h_i6, h_i7, h_i8, h_i9⟩ hP hD hS (lv_sub hl [0, 1, 2] rfl)

set_option maxHeartbeats 8000000 in
set_option maxRecDepth 100000 in
theorem c_X9_failWith (l : Launch) (dC : Nat → ClassId) (dI : Nat → Nat → Nat) (kc : Nat → ClassId) (ws : va_W) (ad : Nat → Nat) (ga : Nat → Nat) (gc : Nat → Nat) (M : Nat) (n : Nat → Int32) (f : Nat → Nat → Int32) (T : Nat → Option Nat) (G : Nat → Nat → Int32) (K : Nat → Nat → Option Nat) (F : Nat → Nat → Nat → Int32) (R : Nat) (i : Nat) (v2 : Int32) (sz hz : Nat) (hQ : Pic9 kc ws ad ga gc M n f T G K F) (hI : I9 M n T gc G K R) (hi : i < M) : Met l yX9_failWith (.code yX9_failWith cX9_failWith 4 none :: gw) ({ frames := 2, cells := 0, slots := 0, locals := 44 }) (va_Pc [.ref (ad 0), .ref (ad (50 + 16 * i)), .int v2] (fun U => U.heap.size = sz ∧ hpS U.heap = hz ∧ va_P (dC, dI) vwCl ws U.heap ∧ va_K (dC, dI) vwCl (t9 kc) U ∧ va_D (fun _ => True) ws ∧ nx U)) (va_Qv (fun (u : (Nat → Nat) × (Nat → Nat) × (Nat → Nat) × Nat × (Nat → Int32) × (Nat → Nat → Int32) × (Nat → Option Nat) × (Nat → Nat → Int32) × (Nat → Nat → Option Nat) × (Nat → Nat → Nat → Int32)) => True) (fun u t => ∃ w : va_W, va_P (dC, dI) vwCl w t.heap ∧ va_D (va_A ws sz) w ∧ Pic9 kc w ad ga gc M n f T u.2.2.2.2.2.2.2.1 K u.2.2.2.2.2.2.2.2.2 ∧ I9 M n T gc u.2.2.2.2.2.2.2.1 K R ∧ hpS t.heap + (260 * M + 2 * S9 M gc) ≤ hz + (260 * M + 2 * S9 M gc) ∧ 16 * t.heap.size + (256 * M + S9 M gc) ≤ 16 * sz + (256 * M + S9 M gc)) (va_A ws sz)) 0 0 (va_A ws sz) := by
  refine Met.ofW (cc := cX9_failWith) (maxL := 4) (ret := none) (by decide) rfl ?_
  intro p e s m args below meth c s₁ B hml hv
  obtain ⟨rfl, hsz, rfl, hP, hK, hD0, hN⟩ := hv
  have hx := B.exec
  have hb := B.bytes
  have hr := B.returns
  have hts := atoms_spec (ws := .code yX9_failWith cX9_failWith 4 none :: gw) B.pre
  have hg : ∀ w ∈ gw, w.before _ s = true := fun w h => hts w (List.mem_cons_of_mem _ h)
  have hown : s.vm.findClass RX9 = some m.cls := findClass_of_methodNamed B.named
  have hlocks := B.notSynchronized
  subst hsz
  have hD := hD0.self (sz := s.heap.size)
  generalize hAe : va_A ws s.heap.size = A at hD ⊢
  have hA : ∀ q : Nat, s.heap.size ≤ q → A q := fun q h => by rw [← hAe]; exact Or.inr h
  clear hAe
  have hS : va_S A s.heap s.heap [] := va_S.rf
  have hl := lv_entry ([.ref (ad 0), .ref (ad (50 + 16 * i)), .int v2]) (n := 4) (Nat.le_of_ble_eq_true rfl)
  rw [lg_entry_eq]
  generalize (lg_sl ([.ref (ad 0), .ref (ad (50 + 16 * i)), .int v2]) ++ List.replicate (4 - (lg_sl ([.ref (ad 0), .ref (ad (50 + 16 * i)), .int v2])).length) Slot.unset).toArray = ls at hl ⊢
  have hl : lv_has ls 4 [(0, .ref (ad 0)), (1, .ref (ad (50 + 16 * i))), (2, .int v2)] := hl
  obtain ⟨h_i1, h_i2, h_i3, h_i4, h_i5, h_i6, h_i7, h_i8, h_i9⟩ := id hI
  have q1_ := h_i1
  unfold i1 at q1_
  refine lv_aload_n hx hb dX9_failWith_0 rfl (lv_at hl 1 rfl) ?_
  refine va_get (D := (dC, dI)) (ci := 7) (v := .ref (ad (50 + 16 * i + 6))) (C := RX7) (T := TX7) (N := 15) hx hb hg gb_7 hown hK hP (50 + 16 * i) (hQ.b0 hi) rfl 12 (by decide) (hg _ gm_fieldLink_RX9_177_ErrandGuild_Run_scopes_LErrandGuild_Scopes_) (fun _ h9 => h9) rfl dX9_failWith_1 ?_
  refine lv_iload_n hx hb dX9_failWith_4 rfl (lv_at hl 2 rfl) ?_
  have hCc : ([(50 + 16 * i + 6), (50 + 16 * i + 9), (50 + 16 * i + 10), (50 + 16 * i + 11), (50 + 16 * i + 12)] : List Nat).map (fun i => ws[i]?) = ([(ad (50 + 16 * i + 6), .inr (8, [.ref (ad (50 + 16 * i + 7)), .ref (ad (50 + 16 * i + 8)), .ref (ad (50 + 16 * i + 9)), .int (G i 14), .ref (ad (50 + 16 * i + 10)), .ref (ad (50 + 16 * i + 11)), .ref (ad (50 + 16 * i + 12)), .int (G i 15), .int (G i 16)])), (ad (50 + 16 * i + 9), .inl (kc 0, 24, .inl (F i 5))), (ad (50 + 16 * i + 10), .inl (kc 0, 24, .inl (F i 6))), (ad (50 + 16 * i + 11), .inl (kc 0, 24, .inl (F i 7))), (ad (50 + 16 * i + 12), .inl (kc 0, 24, .inl (F i 8)))] : va_W).map some := mp5 (hQ.b6 hi) (hQ.b9 hi) (hQ.b10 hi) (hQ.b11 hi) (hQ.b12 hi)
  have hNd : ([(50 + 16 * i + 6), (50 + 16 * i + 9), (50 + 16 * i + 10), (50 + 16 * i + 11), (50 + 16 * i + 12)] : List Nat).Nodup := (nd_off (50 + 16 * i) (l := [6, 9, 10, 11, 12]) (by decide))
  have hPc := hP.pick [(50 + 16 * i + 6), (50 + 16 * i + 9), (50 + 16 * i + 10), (50 + 16 * i + 11), (50 + 16 * i + 12)] hCc
  have hDc := hD.pick [(50 + 16 * i + 6), (50 + 16 * i + 9), (50 + 16 * i + 10), (50 + 16 * i + 11), (50 + 16 * i + 12)] hNd hCc
  have hKc := hK.sub (tys' := [((kc 0), .int), ((kc 0), .int), ((kc 0), .int), ((kc 0), .int)]) [0, 0, 0, 0] rfl
  have hFc := va_free (wc := [(ad (50 + 16 * i + 6), .inr (8, [.ref (ad (50 + 16 * i + 7)), .ref (ad (50 + 16 * i + 8)), .ref (ad (50 + 16 * i + 9)), .int (G i 14), .ref (ad (50 + 16 * i + 10)), .ref (ad (50 + 16 * i + 11)), .ref (ad (50 + 16 * i + 12)), .int (G i 15), .int (G i 16)])), (ad (50 + 16 * i + 9), .inl (kc 0, 24, .inl (F i 5))), (ad (50 + 16 * i + 10), .inl (kc 0, 24, .inl (F i 6))), (ad (50 + 16 * i + 11), .inl (kc 0, 24, .inl (F i 7))), (ad (50 + 16 * i + 12), .inl (kc 0, 24, .inl (F i 8)))]) hD hS hA [(50 + 16 * i + 6), (50 + 16 * i + 9), (50 + 16 * i + 10), (50 + 16 * i + 11), (50 + 16 * i + 12)] hCc
  refine va_calli (va_runV (As := [.int v2]) (rest := []) ⟨hx, hb, hml, hown, hg⟩ (c_X8_catchOf l dC dI (ad (50 + 16 * i + 6)) (ad (50 + 16 * i + 7)) (ad (50 + 16 * i + 8)) (ad (50 + 16 * i + 9)) (ad (50 + 16 * i + 10)) (ad (50 + 16 * i + 11)) (ad (50 + 16 * i + 12)) (kc 0) (kc 0) (kc 0) (kc 0) (F i 5) (F i 6) (F i 7) (F i 8) (G i 14) (G i 15) (G i 16) v2 s.heap.size ) (cwV 1 hg (gw_V gm_methodLink_RX9_385_yX8_catchOf gm_instanceMethod_yX8_catchOf gm_selects_RX8_yX8_catchOf_yX8_catchOf gm_initialized_RX8 gm_code_yX8_catchOf_cX8_catchOf_3_some_int_) rfl rfl rfl (by decide +kernel) ⟨Nat.le_of_ble_eq_true rfl, Nat.le_of_ble_eq_true rfl⟩) ⟨fun a U g mk q => by obtain ⟨q0, q1, qP, qK, qD, qN⟩ := q; exact ⟨q0, q1, qP, va_K.moved (u := U) (U := U.calling g mk a) (Vm.Alike.refl U.vm) qK, qD, nx_same (u := U) (U := U.calling g mk a) rfl qN⟩, va_recv hK hP (ci := 8) (q0 := (50 + 16 * i + 6)) rfl (hQ.b6 hi), fun U hU hW => ⟨rfl, by rw [hU], by rw [hU]; exact hPc, va_K.moved hW.alike hKc, hDc.weaken (fun _ _ _ _ => trivial), nx_warm hW hN⟩⟩ rfl rfl hl.1 rfl (lv_room (Nat.le_of_ble_eq_true rfl)) dX9_failWith_5 ⟨Nat.le_of_ble_eq_true rfl, Nat.le_of_ble_eq_true rfl⟩) hS (fun q _ h => hFc q h) hFc (fun r_1 u_2 t H1 locs ht hvm hw hB hz1 hk1 hS => ?_)
  obtain ⟨ad_3, ac_4, af_5, ag_6⟩ := u_2
  obtain ⟨hP1, hD1, hK1⟩ := hB
  rw [ht] at hP1
  obtain ⟨hP, hD⟩ := va_repl (w1 := [((ad (50 + 16 * i + 6)), .inr (8, [.ref (ad (50 + 16 * i + 7)), .ref (ad (50 + 16 * i + 8)), .ref (ad (50 + 16 * i + 9)), .int (af_5 6 0), .ref (ad (50 + 16 * i + 10)), .ref (ad (50 + 16 * i + 11)), .ref (ad (50 + 16 * i + 12)), .int (af_5 7 0), .int (af_5 8 0)])), ((ad (50 + 16 * i + 9)), .inl ((kc 0), 24, .inl (F i 5))), ((ad (50 + 16 * i + 10)), .inl ((kc 0), 24, .inl (F i 6))), ((ad (50 + 16 * i + 11)), .inl ((kc 0), 24, .inl (F i 7))), ((ad (50 + 16 * i + 12)), .inl ((kc 0), 24, .inl (F i 8)))]) hP hD [(50 + 16 * i + 6), (50 + 16 * i + 9), (50 + 16 * i + 10), (50 + 16 * i + 11), (50 + 16 * i + 12)] hCc hNd rfl hk1 hFc hP1 hD1
  obtain ⟨ws_9, G_7, F_8, eG_7, eF_8, hP, hD, hQ⟩ : ∃ (ws_9 : va_W) (G_7 : Nat → Nat → Int32) (F_8 : Nat → Nat → Nat → Int32), G_7 = u2 (u2 (u2 G i 14 (af_5 6 0)) i 15 (af_5 7 0)) i 16 (af_5 8 0) ∧ F_8 = u2 (u2 (u2 (u2 F i 5 (F i 5)) i 6 (F i 6)) i 7 (F i 7)) i 8 (F i 8) ∧ va_P (dC, dI) vwCl ws_9 H1 ∧ va_D A ws_9 ∧ Pic9 kc ws_9 ad ga gc M n f T G_7 K F_8 := ⟨_, _, _, rfl, rfl, hP, hD, ((((hQ.sco2 hi (af_5 6 0) (af_5 7 0) (af_5 8 0)).arr hi 9 5 (by decide) (F i 5) rfl).arr hi 10 6 (by decide) (F i 6) rfl).arr hi 11 7 (by decide) (F i 7) rfl).arr hi 12 8 (by decide) (F i 8) rfl⟩
  have i6_10 : i6 n T G_7 := by rw [eG_7]; exact (i6.pG (i6.pG (i6.pG h_i6 i _ (by decide)) i _ (by decide)) i _ (by decide))
  have i7_11 : i7 n G_7 := by rw [eG_7]; exact (i7.pG (i7.pG (i7.pG h_i7 i _ (by decide)) i _ (by decide)) i _ (by decide))
  have i8_12 : i8 M n gc G_7 := by rw [eG_7]; exact (i8.pG (i8.pG (i8.pG h_i8 i _ (by decide)) i _ (by decide)) i _ (by decide))
  have i9_13 : i9 M gc G_7 R := by rw [eG_7]; exact (i9.pG (i9.pG (i9.pG h_i9 i _ (by decide)) i _ (by decide)) i _ (by decide))
  generalize H1 = H at hP hS ⊢
  refine lv_istore_n (lv' := [(3, .int r_1), (0, .ref (ad 0)), (1, .ref (ad (50 + 16 * i))), (2, .int v2)]) hx hb dX9_failWith_8 rfl hl (by decide) rfl (fun ls hl => ?_)
  refine lv_iload_n hx hb dX9_failWith_9 rfl (lv_at hl 0 rfl) ?_
  refine lv_iconst (v := -1) hx hb dX9_failWith_10 (by decide) ?_
  refine lv_icmp_eq (tgt := 20) hx hb dX9_failWith_11 (by decide) (fun c_14 => ?_) (fun c_14 => ?_)
  · simp only [i_lt, i_le, i_eq, ti_m1] at c_14
    refine lv_aload_n hx hb dX9_failWith_20 rfl (lv_at hl 2 rfl) ?_
    refine va_get (D := (dC, dI)) (ci := 7) (v := .ref (ad (50 + 16 * i + 13))) (C := RX7) (T := TX7) (N := 15) hx hb hg gb_7 hown hK hP (50 + 16 * i) (hQ.b0 hi) rfl 13 (by decide) (hg _ gm_fieldLink_RX9_201_ErrandGuild_Run_fault_LErrandGuild_Fault_) (fun _ h9 => h9) rfl dX9_failWith_21 ?_
    refine lv_iload_n hx hb dX9_failWith_24 rfl (lv_at hl 3 rfl) ?_
    refine va_put (D := (dC, dI)) (ci := 2) (v := .int (v2)) (ty := .int) (C := RX2) (T := TX2) (N := 5) hx hb hg gb_2 tyX2 tyX2_ok nmX2 hown hK hP hD hS (50 + 16 * i + 13) (hQ.b13 hi) rfl 0 (by decide) (hg _ gm_fieldLink_RX9_205_ErrandGuild_Fault_kind_I_) (fun _ h9 => h9) rfl (by decide +kernel) rfl rfl (Nat.le_of_ble_eq_true rfl) dX9_failWith_25 (fun H locs hP hD hS => ?_)
    obtain ⟨ws_16, G_15, eG_15, hP, hD, hQ⟩ : ∃ (ws_16 : va_W) (G_15 : Nat → Nat → Int32), G_15 = u2 G_7 i 17 v2 ∧ va_P (dC, dI) vwCl ws_16 H ∧ va_D A ws_16 ∧ Pic9 kc ws_16 ad ga gc M n f T G_15 K F_8 := ⟨_, _, rfl, hP, hD, hQ.fltI hi 0 (by decide) v2⟩
    have i6_17 : i6 n T G_15 := by rw [eG_15]; exact (i6.pG i6_10 i _ (by decide))
    have i7_18 : i7 n G_15 := by rw [eG_15]; exact (i7.pG i7_11 i _ (by decide))
    have i8_19 : i8 M n gc G_15 := by rw [eG_15]; exact (i8.pG i8_12 i _ (by decide))
    have i9_20 : i9 M gc G_15 R := by rw [eG_15]; exact (i9.pG i9_13 i _ (by decide))
    have eg_21 : G_15 i 17 = v2 := by rw [eG_15, u2_eq]
    refine lv_aload_n hx hb dX9_failWith_28 rfl (lv_at hl 2 rfl) ?_
    refine va_get (D := (dC, dI)) (ci := 7) (v := .ref (ad (50 + 16 * i + 13))) (C := RX7) (T := TX7) (N := 15) hx hb hg gb_7 hown hK hP (50 + 16 * i) (hQ.b0 hi) rfl 13 (by decide) (hg _ gm_fieldLink_RX9_201_ErrandGuild_Run_fault_LErrandGuild_Fault_) (fun _ h9 => h9) rfl dX9_failWith_29 ?_
    refine lv_aload_n hx hb dX9_failWith_32 rfl (lv_at hl 2 rfl) ?_
    refine va_get (D := (dC, dI)) (ci := 7) (v := .int (G_15 i 6)) (C := RX7) (T := TX7) (N := 15) hx hb hg gb_7 hown hK hP (50 + 16 * i) (hQ.b0 hi) rfl 6 (by decide) (hg _ gm_fieldLink_RX9_174_ErrandGuild_Run_place_I_) (fun _ h9 => h9) rfl dX9_failWith_33 ?_
    refine va_put (D := (dC, dI)) (ci := 2) (v := .int (G_15 i 6)) (ty := .int) (C := RX2) (T := TX2) (N := 5) hx hb hg gb_2 tyX2 tyX2_ok nmX2 hown hK hP hD hS (50 + 16 * i + 13) (hQ.b13 hi) rfl 1 (by decide) (hg _ gm_fieldLink_RX9_210_ErrandGuild_Fault_step_I_) (fun _ h9 => h9) rfl (by decide +kernel) rfl rfl (Nat.le_of_ble_eq_true rfl) dX9_failWith_36 (fun H locs hP hD hS => ?_)
    obtain ⟨ws_23, G_22, eG_22, hP, hD, hQ⟩ : ∃ (ws_23 : va_W) (G_22 : Nat → Nat → Int32), G_22 = u2 G_15 i 18 (G_15 i 6) ∧ va_P (dC, dI) vwCl ws_23 H ∧ va_D A ws_23 ∧ Pic9 kc ws_23 ad ga gc M n f T G_22 K F_8 := ⟨_, _, rfl, hP, hD, hQ.fltI hi 1 (by decide) (G_15 i 6)⟩
    have i6_24 : i6 n T G_22 := by rw [eG_22]; exact (i6.pG i6_17 i _ (by decide))
    have i7_25 : i7 n G_22 := by rw [eG_22]; exact (i7.pG i7_18 i _ (by decide))
    have i8_26 : i8 M n gc G_22 := by rw [eG_22]; exact (i8.pG i8_19 i _ (by decide))
    have i9_27 : i9 M gc G_22 R := by rw [eG_22]; exact (i9.pG i9_20 i _ (by decide))
    have eg_28 : G_22 i 18 = (G_15 i 6) := by rw [eG_22, u2_eq]
    refine lv_aload_n hx hb dX9_failWith_39 rfl (lv_at hl 2 rfl) ?_
    refine lv_iconst (v := 4) hx hb dX9_failWith_40 (by decide) ?_
    refine va_put (D := (dC, dI)) (ci := 7) (v := .int (4)) (ty := .int) (C := RX7) (T := TX7) (N := 15) hx hb hg gb_7 tyX7 tyX7_ok nmX7 hown hK hP hD hS (50 + 16 * i) (hQ.b0 hi) rfl 2 (by decide) (hg _ gm_fieldLink_RX9_145_ErrandGuild_Run_state_I_) (fun _ h9 => h9) rfl (by decide +kernel) rfl rfl (Nat.le_of_ble_eq_true rfl) dX9_failWith_41 (fun H locs hP hD hS => ?_)
    obtain ⟨ws_30, G_29, eG_29, hP, hD, hQ⟩ : ∃ (ws_30 : va_W) (G_29 : Nat → Nat → Int32), G_29 = u2 G_22 i 2 4 ∧ va_P (dC, dI) vwCl ws_30 H ∧ va_D A ws_30 ∧ Pic9 kc ws_30 ad ga gc M n f T G_29 K F_8 := ⟨_, _, rfl, hP, hD, hQ.run hi 2 (by decide) 4⟩
    have i6_31 : i6 n T G_29 := by rw [eG_29]; exact (i6.pG i6_24 i _ (by decide))
    have i7_32 : i7 n G_29 := by rw [eG_29]; exact (i7.st i7_25 i (by decide))
    have i8_33 : i8 M n gc G_29 := by rw [eG_29]; exact (i8.pG i8_26 i _ (by decide))
    have i9_34 : i9 M gc G_29 R := by rw [eG_29]; exact (i9.pG i9_27 i _ (by decide))
    have eg_35 : G_29 i 2 = 4 := by rw [eG_29, u2_eq]
    refine lv_aload_n hx hb dX9_failWith_44 rfl (lv_at hl 2 rfl) ?_
    refine lv_aload_n hx hb dX9_failWith_45 rfl (lv_at hl 1 rfl) ?_
    refine va_get (D := (dC, dI)) (ci := 9) (v := .int (n 2)) (C := RX9) (T := TX9) (N := 15) hx hb hg gb_9 hown hK hP 0 hQ.x0 rfl 8 (by decide) (hg _ gm_fieldLink_RX9_84_ErrandGuild_beats_I_) (fun _ h9 => h9) rfl dX9_failWith_46 ?_
    refine va_put (D := (dC, dI)) (ci := 7) (v := .int (n 2)) (ty := .int) (C := RX7) (T := TX7) (N := 15) hx hb hg gb_7 tyX7 tyX7_ok nmX7 hown hK hP hD hS (50 + 16 * i) (hQ.b0 hi) rfl 7 (by decide) (hg _ gm_fieldLink_RX9_189_ErrandGuild_Run_overBeat_I_) (fun _ h9 => h9) rfl (by decide +kernel) rfl rfl (Nat.le_of_ble_eq_true rfl) dX9_failWith_49 (fun H locs hP hD hS => ?_)
    obtain ⟨ws_37, G_36, eG_36, hP, hD, hQ⟩ : ∃ (ws_37 : va_W) (G_36 : Nat → Nat → Int32), G_36 = u2 G_29 i 7 (n 2) ∧ va_P (dC, dI) vwCl ws_37 H ∧ va_D A ws_37 ∧ Pic9 kc ws_37 ad ga gc M n f T G_36 K F_8 := ⟨_, _, rfl, hP, hD, hQ.run hi 7 (by decide) (n 2)⟩
    have i6_38 : i6 n T G_36 := by rw [eG_36]; exact (i6.pG i6_31 i _ (by decide))
    have i7_39 : i7 n G_36 := by rw [eG_36]; exact (i7.pG i7_32 i _ (by decide))
    have i8_40 : i8 M n gc G_36 := by rw [eG_36]; exact (i8.pG i8_33 i _ (by decide))
    have i9_41 : i9 M gc G_36 R := by rw [eG_36]; exact (i9.pG i9_34 i _ (by decide))
    have eg_42 : G_36 i 7 = (n 2) := by rw [eG_36, u2_eq]
    refine lv_aload_n hx hb dX9_failWith_52 rfl (lv_at hl 2 rfl) ?_
    refine va_get (D := (dC, dI)) (ci := 7) (v := .ref (ad (50 + 16 * i + 6))) (C := RX7) (T := TX7) (N := 15) hx hb hg gb_7 hown hK hP (50 + 16 * i) (hQ.b0 hi) rfl 12 (by decide) (hg _ gm_fieldLink_RX9_177_ErrandGuild_Run_scopes_LErrandGuild_Scopes_) (fun _ h9 => h9) rfl dX9_failWith_53 ?_
    have hCc : ([(50 + 16 * i + 6)] : List Nat).map (fun i => ws_37[i]?) = ([(ad (50 + 16 * i + 6), .inr (8, [.ref (ad (50 + 16 * i + 7)), .ref (ad (50 + 16 * i + 8)), .ref (ad (50 + 16 * i + 9)), .int (G_36 i 14), .ref (ad (50 + 16 * i + 10)), .ref (ad (50 + 16 * i + 11)), .ref (ad (50 + 16 * i + 12)), .int (G_36 i 15), .int (G_36 i 16)]))] : va_W).map some := mp1 (hQ.b6 hi)
    have hNd : ([(50 + 16 * i + 6)] : List Nat).Nodup := (nd_off (50 + 16 * i) (l := [6]) (by decide))
    have hPc := hP.pick [(50 + 16 * i + 6)] hCc
    have hDc := hD.pick [(50 + 16 * i + 6)] hNd hCc
    have hKc := hK.sub (tys' := []) [] rfl
    have hFc := va_free (wc := [(ad (50 + 16 * i + 6), .inr (8, [.ref (ad (50 + 16 * i + 7)), .ref (ad (50 + 16 * i + 8)), .ref (ad (50 + 16 * i + 9)), .int (G_36 i 14), .ref (ad (50 + 16 * i + 10)), .ref (ad (50 + 16 * i + 11)), .ref (ad (50 + 16 * i + 12)), .int (G_36 i 15), .int (G_36 i 16)]))]) hD hS hA [(50 + 16 * i + 6)] hCc
    refine va_callv (va_runV (As := []) (rest := []) ⟨hx, hb, hml, hown, hg⟩ (c_X8_endBindings l dC dI (ad (50 + 16 * i + 6)) (ad (50 + 16 * i + 7)) (ad (50 + 16 * i + 8)) (ad (50 + 16 * i + 9)) (ad (50 + 16 * i + 10)) (ad (50 + 16 * i + 11)) (ad (50 + 16 * i + 12)) (G_36 i 14) (G_36 i 15) (G_36 i 16) H.size ) (cwV 0 hg (gw_V gm_methodLink_RX9_365_yX8_endBindings gm_instanceMethod_yX8_endBindings gm_selects_RX8_yX8_endBindings_yX8_endBindings gm_initialized_RX8 gm_code_yX8_endBindings_cX8_endBindings_1_none) rfl rfl rfl (by decide +kernel) ⟨Nat.le_of_ble_eq_true rfl, Nat.le_of_ble_eq_true rfl⟩) ⟨fun a U g mk q => by obtain ⟨q0, q1, qP, qK, qD, qN⟩ := q; exact ⟨q0, q1, qP, va_K.moved (u := U) (U := U.calling g mk a) (Vm.Alike.refl U.vm) qK, qD, nx_same (u := U) (U := U.calling g mk a) rfl qN⟩, va_recv hK hP (ci := 8) (q0 := (50 + 16 * i + 6)) rfl (hQ.b6 hi), fun U hU hW => ⟨rfl, by rw [hU], by rw [hU]; exact hPc, va_K.moved hW.alike hKc, hDc.weaken (fun _ _ _ _ => trivial), nx_warm hW hN⟩⟩ rfl rfl hl.1 rfl (lv_room (Nat.le_of_ble_eq_true rfl)) dX9_failWith_56 ⟨Nat.le_of_ble_eq_true rfl, Nat.le_of_ble_eq_true rfl⟩) hS (fun q _ h => hFc q h) hFc (fun u_44 t H1 locs ht hvm hw hB hz1 hk1 hS => ?_)
    obtain ⟨ad_45, ac_46, af_47, ag_48⟩ := u_44
    obtain ⟨hP1, hD1, hK1⟩ := hB
    rw [ht] at hP1
    obtain ⟨hP, hD⟩ := va_repl (w1 := [((ad (50 + 16 * i + 6)), .inr (8, [.ref (ad (50 + 16 * i + 7)), .ref (ad (50 + 16 * i + 8)), .ref (ad (50 + 16 * i + 9)), .int 0, .ref (ad (50 + 16 * i + 10)), .ref (ad (50 + 16 * i + 11)), .ref (ad (50 + 16 * i + 12)), .int (G_36 i 15), .int (G_36 i 16)]))]) hP hD [(50 + 16 * i + 6)] hCc hNd rfl hk1 hFc hP1 hD1
    obtain ⟨ws_50, G_49, eG_49, hP, hD, hQ⟩ : ∃ (ws_50 : va_W) (G_49 : Nat → Nat → Int32), G_49 = u2 (u2 (u2 G_36 i 14 0) i 15 (G_36 i 15)) i 16 (G_36 i 16) ∧ va_P (dC, dI) vwCl ws_50 H1 ∧ va_D A ws_50 ∧ Pic9 kc ws_50 ad ga gc M n f T G_49 K F_8 := ⟨_, _, rfl, hP, hD, hQ.sco2 hi 0 (G_36 i 15) (G_36 i 16)⟩
    have i6_51 : i6 n T G_49 := by rw [eG_49]; exact (i6.pG (i6.pG (i6.pG i6_38 i _ (by decide)) i _ (by decide)) i _ (by decide))
    have i7_52 : i7 n G_49 := by rw [eG_49]; exact (i7.pG (i7.pG (i7.pG i7_39 i _ (by decide)) i _ (by decide)) i _ (by decide))
    have i8_53 : i8 M n gc G_49 := by rw [eG_49]; exact (i8.pG (i8.pG (i8.pG i8_40 i _ (by decide)) i _ (by decide)) i _ (by decide))
    have i9_54 : i9 M gc G_49 R := by rw [eG_49]; exact (i9.pG (i9.pG (i9.pG i9_41 i _ (by decide)) i _ (by decide)) i _ (by decide))
    generalize H1 = H at hP hS ⊢
    refine W_msr2 (fun hm1 hm2 hm3 => ?_)
    exact W.vret hx hb hr (fun t ht hW => ⟨⟨(ad, ga, gc, M, n, f, T, G_49, K, F_8), rfl, trivial, ws_50, by rw [ht]; exact hP, hD, hQ, ⟨h_i1, h_i2, h_i3, h_i4, h_i5, i6_51, i7_52, i8_53, i9_54⟩, by rw [ht]; show hpS H + (260 * M + 2 * S9 M gc) ≤ hpS s.heap + (260 * M + 2 * S9 M gc); omega, by rw [ht]; show 16 * H.size + (256 * M + S9 M gc) ≤ 16 * s.heap.size + (256 * M + S9 M gc); omega⟩, hS.F ht⟩) hS.2.2 dX9_failWith_59
  · simp only [i_lt, i_le, i_eq, ti_m1] at c_14
    refine lv_aload_n hx hb dX9_failWith_14 rfl (lv_at hl 2 rfl) ?_
    refine lv_iload_n hx hb dX9_failWith_15 rfl (lv_at hl 0 rfl) ?_
    refine va_put (D := (dC, dI)) (ci := 7) (v := .int (r_1)) (ty := .int) (C := RX7) (T := TX7) (N := 15) hx hb hg gb_7 tyX7 tyX7_ok nmX7 hown hK hP hD hS (50 + 16 * i) (hQ.b0 hi) rfl 6 (by decide) (hg _ gm_fieldLink_RX9_174_ErrandGuild_Run_place_I_) (fun _ h9 => h9) rfl (by decide +kernel) rfl rfl (Nat.le_of_ble_eq_true rfl) dX9_failWith_16 (fun H locs hP hD hS => ?_)
    obtain ⟨ws_56, G_55, eG_55, hP, hD, hQ⟩ : ∃ (ws_56 : va_W) (G_55 : Nat → Nat → Int32), G_55 = u2 G_7 i 6 r_1 ∧ va_P (dC, dI) vwCl ws_56 H ∧ va_D A ws_56 ∧ Pic9 kc ws_56 ad ga gc M n f T G_55 K F_8 := ⟨_, _, rfl, hP, hD, hQ.run hi 6 (by decide) r_1⟩
    have i6_57 : i6 n T G_55 := by rw [eG_55]; exact (i6.pG i6_10 i _ (by decide))
    have i7_58 : i7 n G_55 := by rw [eG_55]; exact (i7.pG i7_11 i _ (by decide))
    have i8_59 : i8 M n gc G_55 := by rw [eG_55]; exact (i8.pG i8_12 i _ (by decide))
    have i9_60 : i9 M gc G_55 R := by rw [eG_55]; exact (i9.pG i9_13 i _ (by decide))
    have eg_61 : G_55 i 6 = r_1 := by rw [eG_55, u2_eq]
    refine W_msr2 (fun hm1 hm2 hm3 => ?_)
    exact W.vret hx hb hr (fun t ht hW => ⟨⟨(ad, ga, gc, M, n, f, T, G_55, K, F_8), rfl, trivial, ws_56, by rw [ht]; exact hP, hD, hQ, ⟨h_i1, h_i2, h_i3, h_i4, h_i5, i6_57, i7_58, i8_59, i9_60⟩, by rw [ht]; show hpS H + (260 * M + 2 * S9 M gc) ≤ hpS s.heap + (260 * M + 2 * S9 M gc); omega, by rw [ht]; show 16 * H.size + (256 * M + S9 M gc) ≤ 16 * s.heap.size + (256 * M + S9 M gc); omega⟩, hS.F ht⟩) hS.2.2 dX9_failWith_19

set_option maxHeartbeats 8000000 in
set_option maxRecDepth 100000 in
theorem c_X9_interrupt (l : Launch) (dC : Nat → ClassId) (dI : Nat → Nat → Nat) (kc : Nat → ClassId) (ws : va_W) (ad : Nat → Nat) (ga : Nat → Nat) (gc : Nat → Nat) (M : Nat) (n : Nat → Int32) (f : Nat → Nat → Int32) (T : Nat → Option Nat) (G : Nat → Nat → Int32) (K : Nat → Nat → Option Nat) (F : Nat → Nat → Nat → Int32) (R : Nat) (v1 : Int32) (sz hz : Nat) (hQ : Pic9 kc ws ad ga gc M n f T G K F) (hI : I9 M n T gc G K R) : Met l yX9_interrupt (.code yX9_interrupt cX9_interrupt 3 (some .boolean) :: gw) ({ frames := 1, cells := 0, slots := 0, locals := 21 }) (va_Pc [.ref (ad 0), .int v1] (fun U => U.heap.size = sz ∧ hpS U.heap = hz ∧ va_P (dC, dI) vwCl ws U.heap ∧ va_K (dC, dI) vwCl (t9 kc) U ∧ va_D (fun _ => True) ws ∧ nx U)) (va_Qi (fun (r : Int32) (u : (Nat → Nat) × (Nat → Nat) × (Nat → Nat) × Nat × (Nat → Int32) × (Nat → Nat → Int32) × (Nat → Option Nat) × (Nat → Nat → Int32) × (Nat → Nat → Option Nat) × (Nat → Nat → Nat → Int32)) => (r = 1 ∧ True) ∨ (r = 0 ∧ True)) (fun u t => ∃ w : va_W, va_P (dC, dI) vwCl w t.heap ∧ va_D (va_A ws sz) w ∧ Pic9 kc w ad ga gc M n f T u.2.2.2.2.2.2.2.1 K F ∧ I9 M n T gc u.2.2.2.2.2.2.2.1 K R ∧ hpS t.heap + (260 * M + 2 * S9 M gc) ≤ hz + (260 * M + 2 * S9 M gc) ∧ 16 * t.heap.size + (256 * M + S9 M gc) ≤ 16 * sz + (256 * M + S9 M gc)) (va_A ws sz)) 0 0 (va_A ws sz) := by
  refine Met.ofW (cc := cX9_interrupt) (maxL := 3) (ret := (some .boolean)) (by decide) rfl ?_
  intro p e s m args below meth c s₁ B hml hv
  obtain ⟨rfl, hsz, rfl, hP, hK, hD0, hN⟩ := hv
  have hx := B.exec
  have hb := B.bytes
  have hr := B.returns
  have hts := atoms_spec (ws := .code yX9_interrupt cX9_interrupt 3 (some .boolean) :: gw) B.pre
  have hg : ∀ w ∈ gw, w.before _ s = true := fun w h => hts w (List.mem_cons_of_mem _ h)
  have hown : s.vm.findClass RX9 = some m.cls := findClass_of_methodNamed B.named
  have hlocks := B.notSynchronized
  subst hsz
  have hD := hD0.self (sz := s.heap.size)
  generalize hAe : va_A ws s.heap.size = A at hD ⊢
  have hA : ∀ q : Nat, s.heap.size ≤ q → A q := fun q h => by rw [← hAe]; exact Or.inr h
  clear hAe
  have hS : va_S A s.heap s.heap [] := va_S.rf
  have hl := lv_entry ([.ref (ad 0), .int v1]) (n := 3) (Nat.le_of_ble_eq_true rfl)
  rw [lg_entry_eq]
  generalize (lg_sl ([.ref (ad 0), .int v1]) ++ List.replicate (3 - (lg_sl ([.ref (ad 0), .int v1])).length) Slot.unset).toArray = ls at hl ⊢
  have hl : lv_has ls 3 [(0, .ref (ad 0)), (1, .int v1)] := hl
  obtain ⟨h_i1, h_i2, h_i3, h_i4, h_i5, h_i6, h_i7, h_i8, h_i9⟩ := id hI
  have q1_ := h_i1
  unfold i1 at q1_
  refine lv_aload_n hx hb dX9_interrupt_0 rfl (lv_at hl 0 rfl) ?_
  refine lv_iload_n hx hb dX9_interrupt_1 rfl (lv_at hl 1 rfl) ?_
  have hFc := free_all hD hS hA
  refine va_callq (va_runV (As := [.int v1]) (rest := []) ⟨hx, hb, hml, hown, hg⟩ (c_X9_runAt l dC dI kc ws ad ga gc M n f T G K F R v1 s.heap.size (hpS s.heap) hQ ⟨h_i1, h_i2, h_i3, h_i4, h_i5, h_i6, h_i7, h_i8, h_i9⟩) (cwV 1 hg (gw_V gm_methodLink_RX9_134_yX9_runAt gm_instanceMethod_yX9_runAt gm_selects_RX9_yX9_runAt_yX9_runAt gm_initialized_RX9 gm_code_yX9_runAt_cX9_runAt_2_some_object_ErrandGuild_Run_) rfl rfl rfl (by decide +kernel) ⟨Nat.le_of_ble_eq_true rfl, Nat.le_of_ble_eq_true rfl⟩) ⟨fun a U g mk q => by obtain ⟨q0, q1, q2, qP, qK, qD, qN⟩ := q; exact ⟨q0, q1, q2, qP, va_K.moved (u := U) (U := U.calling g mk a) (Vm.Alike.refl U.vm) qK, qD, nx_same (u := U) (U := U.calling g mk a) rfl qN⟩, va_recv hK hP (ci := 9) (q0 := 0) rfl hQ.x0, fun U hU hW => ⟨rfl, by rw [hU], by rw [hU], by rw [hU]; exact hP, va_K.moved hW.alike hK, hD.weaken (fun _ _ _ _ => trivial), nx_warm hW hN⟩⟩ rfl rfl hl.1 rfl (lv_room (Nat.le_of_ble_eq_true rfl)) dX9_interrupt_2 ⟨Nat.le_of_ble_eq_true rfl, Nat.le_of_ble_eq_true rfl⟩) hS (fun q _ h => hFc q h) hFc (fun r_1 u_2 t H1 locs ht hvm hw hB hz1 hk1 hS => ?_)
  obtain ⟨hP, hD, hy1, hy2⟩ := hB
  rw [ht] at hP hy1 hy2
  have hD := hD.weaken (fun k q _ h => hFc _ h)
  have q1_ := h_i1
  unfold i1 at q1_
  generalize H1 = H at hP hS ⊢
  rcases hw with ⟨rfl, w_3⟩ | ⟨rfl, w_3⟩
  · have w_3 : (0 ≤ v1.toInt ∧ v1.toInt < (n 0).toInt) := w_3
    have hl_4 : v1.toInt.toNat < M := by omega
    refine W.eq (g2 := F0 m 5 ls [.ref (ad (50 + 16 * v1.toInt.toNat))]) rfl ?_
    refine lv_astore_n (lv' := [(2, .ref (ad (50 + 16 * v1.toInt.toNat))), (0, .ref (ad 0)), (1, .int v1)]) hx hb dX9_interrupt_5 rfl hl (by decide) rfl (fun ls hl => ?_)
    refine lv_aload_n hx hb dX9_interrupt_6 rfl (lv_at hl 0 rfl) ?_
    refine lv_ifnull hx hb dX9_interrupt_7 ?_
    refine lv_aload_n hx hb dX9_interrupt_10 rfl (lv_at hl 0 rfl) ?_
    have hCc : ([(50 + 16 * v1.toInt.toNat)] : List Nat).map (fun i => ws[i]?) = ([(ad (50 + 16 * v1.toInt.toNat), .inr (7, [.int (G v1.toInt.toNat 0), .int (G v1.toInt.toNat 1), .int (G v1.toInt.toNat 2), .int (G v1.toInt.toNat 3), .int (G v1.toInt.toNat 4), .int (G v1.toInt.toNat 5), .int (G v1.toInt.toNat 6), .int (G v1.toInt.toNat 7), .int (G v1.toInt.toNat 8), .int (G v1.toInt.toNat 9), .ref (ad (50 + 16 * v1.toInt.toNat + 1)), .ref (ad (50 + 16 * v1.toInt.toNat + 2)), .ref (ad (50 + 16 * v1.toInt.toNat + 6)), .ref (ad (50 + 16 * v1.toInt.toNat + 13)), .ref (ad (50 + 16 * v1.toInt.toNat + 14))]))] : va_W).map some := mp1 (hQ.b0 hl_4)
    have hNd : ([(50 + 16 * v1.toInt.toNat)] : List Nat).Nodup := (nd_off (50 + 16 * v1.toInt.toNat) (l := [0]) (by decide))
    have hPc := hP.pick [(50 + 16 * v1.toInt.toNat)] hCc
    have hDc := hD.pick [(50 + 16 * v1.toInt.toNat)] hNd hCc
    have hKc := hK.sub (tys' := []) [] rfl
    have hFc := va_free (wc := [(ad (50 + 16 * v1.toInt.toNat), .inr (7, [.int (G v1.toInt.toNat 0), .int (G v1.toInt.toNat 1), .int (G v1.toInt.toNat 2), .int (G v1.toInt.toNat 3), .int (G v1.toInt.toNat 4), .int (G v1.toInt.toNat 5), .int (G v1.toInt.toNat 6), .int (G v1.toInt.toNat 7), .int (G v1.toInt.toNat 8), .int (G v1.toInt.toNat 9), .ref (ad (50 + 16 * v1.toInt.toNat + 1)), .ref (ad (50 + 16 * v1.toInt.toNat + 2)), .ref (ad (50 + 16 * v1.toInt.toNat + 6)), .ref (ad (50 + 16 * v1.toInt.toNat + 13)), .ref (ad (50 + 16 * v1.toInt.toNat + 14))]))]) hD hS hA [(50 + 16 * v1.toInt.toNat)] hCc
    refine va_calli (va_runV (As := []) (rest := []) ⟨hx, hb, hml, hown, hg⟩ (c_X7_isOver l dC dI (ad (50 + 16 * v1.toInt.toNat)) (ad (50 + 16 * v1.toInt.toNat + 1)) (ad (50 + 16 * v1.toInt.toNat + 2)) (ad (50 + 16 * v1.toInt.toNat + 6)) (ad (50 + 16 * v1.toInt.toNat + 13)) (ad (50 + 16 * v1.toInt.toNat + 14)) (G v1.toInt.toNat 0) (G v1.toInt.toNat 1) (G v1.toInt.toNat 2) (G v1.toInt.toNat 3) (G v1.toInt.toNat 4) (G v1.toInt.toNat 5) (G v1.toInt.toNat 6) (G v1.toInt.toNat 7) (G v1.toInt.toNat 8) (G v1.toInt.toNat 9) H.size ) (cwV 0 hg (gw_V gm_methodLink_RX9_138_yX7_isOver gm_instanceMethod_yX7_isOver gm_selects_RX7_yX7_isOver_yX7_isOver gm_initialized_RX7 gm_code_yX7_isOver_cX7_isOver_1_some_boolean_) rfl rfl rfl (by decide +kernel) ⟨Nat.le_of_ble_eq_true rfl, Nat.le_of_ble_eq_true rfl⟩) ⟨fun a U g mk q => by obtain ⟨q0, q1, qP, qK, qD, qN⟩ := q; exact ⟨q0, q1, qP, va_K.moved (u := U) (U := U.calling g mk a) (Vm.Alike.refl U.vm) qK, qD, nx_same (u := U) (U := U.calling g mk a) rfl qN⟩, va_recv hK hP (ci := 7) (q0 := (50 + 16 * v1.toInt.toNat)) rfl (hQ.b0 hl_4), fun U hU hW => ⟨rfl, by rw [hU], by rw [hU]; exact hPc, va_K.moved hW.alike hKc, hDc.weaken (fun _ _ _ _ => trivial), nx_warm hW hN⟩⟩ rfl rfl hl.1 rfl (lv_room (Nat.le_of_ble_eq_true rfl)) dX9_interrupt_11 ⟨Nat.le_of_ble_eq_true rfl, Nat.le_of_ble_eq_true rfl⟩) hS (fun q _ h => hFc q h) hFc (fun r_5 u_6 t H1 locs ht hvm hw hB hz1 hk1 hS => ?_)
    obtain ⟨hP1, hD1⟩ := hB
    rw [ht] at hP1
    obtain ⟨hP, hD⟩ := va_replS hP hD [(50 + 16 * v1.toInt.toNat)] hCc hNd hk1 hFc hP1 hD1
    generalize H1 = H at hP hS ⊢
    rcases hw with ⟨rfl, w_7⟩ | ⟨rfl, w_7⟩
    · refine lv_if_ne (tgt := 24) hx hb dX9_interrupt_14 (by decide) (fun _ => ?_) (fun c_8 => absurd c_8 (by decide))
      refine lv_iconst (v := 0) hx hb dX9_interrupt_24 (by decide) ?_
      refine W_msr2 (fun hm1 hm2 hm3 => ?_)
      exact W.zret (v := 0) hx hb hr rfl (fun t ht hW => ⟨⟨0, (ad, ga, gc, M, n, f, T, G, K, F), rfl, (Or.inr ⟨rfl, trivial⟩), ws, by rw [ht]; exact hP, hD, hQ, ⟨h_i1, h_i2, h_i3, h_i4, h_i5, h_i6, h_i7, h_i8, h_i9⟩, by rw [ht]; show hpS H + (260 * M + 2 * S9 M gc) ≤ hpS s.heap + (260 * M + 2 * S9 M gc); omega, by rw [ht]; show 16 * H.size + (256 * M + S9 M gc) ≤ 16 * s.heap.size + (256 * M + S9 M gc); omega⟩, hS.F ht⟩) hS.2.2 dX9_interrupt_25
    · refine lv_if_ne (tgt := 24) hx hb dX9_interrupt_14 (by decide) (fun c_9 => absurd c_9 (by decide)) (fun _ => ?_)
      refine lv_aload_n hx hb dX9_interrupt_17 rfl (lv_at hl 0 rfl) ?_
      refine va_get (D := (dC, dI)) (ci := 7) (v := .int (G v1.toInt.toNat 8)) (C := RX7) (T := TX7) (N := 15) hx hb hg gb_7 hown hK hP (50 + 16 * v1.toInt.toNat) (hQ.b0 hl_4) rfl 8 (by decide) (hg _ gm_fieldLink_RX9_141_ErrandGuild_Run_interrupted_Z_) (fun _ h9 => h9) rfl dX9_interrupt_18 ?_
      refine lv_if_eq (tgt := 26) hx hb dX9_interrupt_21 (by decide) (fun c_10 => ?_) (fun c_10 => ?_)
      · simp only [i_lt, i_le, i_eq, ti_0] at c_10
        refine lv_aload_n hx hb dX9_interrupt_26 rfl (lv_at hl 0 rfl) ?_
        refine lv_iconst (v := 1) hx hb dX9_interrupt_27 (by decide) ?_
        refine va_put (D := (dC, dI)) (ci := 7) (v := .int (1)) (ty := .boolean) (C := RX7) (T := TX7) (N := 15) hx hb hg gb_7 tyX7 tyX7_ok nmX7 hown hK hP hD hS (50 + 16 * v1.toInt.toNat) (hQ.b0 hl_4) rfl 8 (by decide) (hg _ gm_fieldLink_RX9_141_ErrandGuild_Run_interrupted_Z_) (fun _ h9 => h9) rfl (by decide +kernel) rfl rfl (Nat.le_of_ble_eq_true rfl) dX9_interrupt_28 (fun H locs hP hD hS => ?_)
        obtain ⟨ws_12, G_11, eG_11, hP, hD, hQ⟩ : ∃ (ws_12 : va_W) (G_11 : Nat → Nat → Int32), G_11 = u2 G v1.toInt.toNat 8 1 ∧ va_P (dC, dI) vwCl ws_12 H ∧ va_D A ws_12 ∧ Pic9 kc ws_12 ad ga gc M n f T G_11 K F := ⟨_, _, rfl, hP, hD, hQ.run hl_4 8 (by decide) 1⟩
        have i6_13 : i6 n T G_11 := by rw [eG_11]; exact (i6.pG h_i6 v1.toInt.toNat _ (by decide))
        have i7_14 : i7 n G_11 := by rw [eG_11]; exact (i7.pG h_i7 v1.toInt.toNat _ (by decide))
        have i8_15 : i8 M n gc G_11 := by rw [eG_11]; exact (i8.pG h_i8 v1.toInt.toNat _ (by decide))
        have i9_16 : i9 M gc G_11 R := by rw [eG_11]; exact (i9.pG h_i9 v1.toInt.toNat _ (by decide))
        have eg_17 : G_11 v1.toInt.toNat 8 = 1 := by rw [eG_11, u2_eq]
        refine lv_aload_n hx hb dX9_interrupt_31 rfl (lv_at hl 0 rfl) ?_
        refine va_get (D := (dC, dI)) (ci := 7) (v := .int (G_11 v1.toInt.toNat 2)) (C := RX7) (T := TX7) (N := 15) hx hb hg gb_7 hown hK hP (50 + 16 * v1.toInt.toNat) (hQ.b0 hl_4) rfl 2 (by decide) (hg _ gm_fieldLink_RX9_145_ErrandGuild_Run_state_I_) (fun _ h9 => h9) rfl dX9_interrupt_32 ?_
        refine lv_iconst (v := 2) hx hb dX9_interrupt_35 (by decide) ?_
        refine lv_icmp_ne (tgt := 44) hx hb dX9_interrupt_36 (by decide) (fun c_18 => ?_) (fun c_18 => ?_)
        · simp only [i_lt, i_le, i_eq, ti_2] at c_18
          refine lv_iconst (v := 1) hx hb dX9_interrupt_44 (by decide) ?_
          refine W_msr2 (fun hm1 hm2 hm3 => ?_)
          exact W.zret (v := 1) hx hb hr rfl (fun t ht hW => ⟨⟨1, (ad, ga, gc, M, n, f, T, G_11, K, F), rfl, (Or.inl ⟨rfl, trivial⟩), ws_12, by rw [ht]; exact hP, hD, hQ, ⟨h_i1, h_i2, h_i3, h_i4, h_i5, i6_13, i7_14, i8_15, i9_16⟩, by rw [ht]; show hpS H + (260 * M + 2 * S9 M gc) ≤ hpS s.heap + (260 * M + 2 * S9 M gc); omega, by rw [ht]; show 16 * H.size + (256 * M + S9 M gc) ≤ 16 * s.heap.size + (256 * M + S9 M gc); omega⟩, hS.F ht⟩) hS.2.2 dX9_interrupt_45
        · simp only [i_lt, i_le, i_eq, ti_2] at c_18
          refine lv_aload_n hx hb dX9_interrupt_39 rfl (lv_at hl 0 rfl) ?_
          refine lv_iconst (v := 0) hx hb dX9_interrupt_40 (by decide) ?_
          refine va_put (D := (dC, dI)) (ci := 7) (v := .int (0)) (ty := .int) (C := RX7) (T := TX7) (N := 15) hx hb hg gb_7 tyX7 tyX7_ok nmX7 hown hK hP hD hS (50 + 16 * v1.toInt.toNat) (hQ.b0 hl_4) rfl 2 (by decide) (hg _ gm_fieldLink_RX9_145_ErrandGuild_Run_state_I_) (fun _ h9 => h9) rfl (by decide +kernel) rfl rfl (Nat.le_of_ble_eq_true rfl) dX9_interrupt_41 (fun H locs hP hD hS => ?_)
          obtain ⟨ws_20, G_19, eG_19, hP, hD, hQ⟩ : ∃ (ws_20 : va_W) (G_19 : Nat → Nat → Int32), G_19 = u2 G_11 v1.toInt.toNat 2 0 ∧ va_P (dC, dI) vwCl ws_20 H ∧ va_D A ws_20 ∧ Pic9 kc ws_20 ad ga gc M n f T G_19 K F := ⟨_, _, rfl, hP, hD, hQ.run hl_4 2 (by decide) 0⟩
          have i6_21 : i6 n T G_19 := by rw [eG_19]; exact (i6.pG i6_13 v1.toInt.toNat _ (by decide))
          have i7_22 : i7 n G_19 := by rw [eG_19]; exact (i7.st i7_14 v1.toInt.toNat (by decide))
          have i8_23 : i8 M n gc G_19 := by rw [eG_19]; exact (i8.pG i8_15 v1.toInt.toNat _ (by decide))
          have i9_24 : i9 M gc G_19 R := by rw [eG_19]; exact (i9.pG i9_16 v1.toInt.toNat _ (by decide))
          have eg_25 : G_19 v1.toInt.toNat 2 = 0 := by rw [eG_19, u2_eq]
          refine lv_iconst (v := 1) hx hb dX9_interrupt_44 (by decide) ?_
          refine W_msr2 (fun hm1 hm2 hm3 => ?_)
          exact W.zret (v := 1) hx hb hr rfl (fun t ht hW => ⟨⟨1, (ad, ga, gc, M, n, f, T, G_19, K, F), rfl, (Or.inl ⟨rfl, trivial⟩), ws_20, by rw [ht]; exact hP, hD, hQ, ⟨h_i1, h_i2, h_i3, h_i4, h_i5, i6_21, i7_22, i8_23, i9_24⟩, by rw [ht]; show hpS H + (260 * M + 2 * S9 M gc) ≤ hpS s.heap + (260 * M + 2 * S9 M gc); omega, by rw [ht]; show 16 * H.size + (256 * M + S9 M gc) ≤ 16 * s.heap.size + (256 * M + S9 M gc); omega⟩, hS.F ht⟩) hS.2.2 dX9_interrupt_45
      · simp only [i_lt, i_le, i_eq, ti_0] at c_10
        refine lv_iconst (v := 0) hx hb dX9_interrupt_24 (by decide) ?_
        refine W_msr2 (fun hm1 hm2 hm3 => ?_)
        exact W.zret (v := 0) hx hb hr rfl (fun t ht hW => ⟨⟨0, (ad, ga, gc, M, n, f, T, G, K, F), rfl, (Or.inr ⟨rfl, trivial⟩), ws, by rw [ht]; exact hP, hD, hQ, ⟨h_i1, h_i2, h_i3, h_i4, h_i5, h_i6, h_i7, h_i8, h_i9⟩, by rw [ht]; show hpS H + (260 * M + 2 * S9 M gc) ≤ hpS s.heap + (260 * M + 2 * S9 M gc); omega, by rw [ht]; show 16 * H.size + (256 * M + S9 M gc) ≤ 16 * s.heap.size + (256 * M + S9 M gc); omega⟩, hS.F ht⟩) hS.2.2 dX9_interrupt_25
  · have w_3 : ¬ (0 ≤ v1.toInt ∧ v1.toInt < (n 0).toInt) := w_3
    refine W.eq (g2 := F0 m 5 ls [.null]) rfl ?_
    refine lv_astore_nN (lv' := [(2, .null), (0, .ref (ad 0)), (1, .int v1)]) hx hb dX9_interrupt_5 rfl hl (by decide) rfl (fun ls hl => ?_)
    refine lv_aload_nN hx hb dX9_interrupt_6 rfl (lv_at hl 0 rfl) ?_
    refine lv_ifnullN (tgt := 24) hx hb dX9_interrupt_7 (by decide) ?_
    refine lv_iconst (v := 0) hx hb dX9_interrupt_24 (by decide) ?_
    refine W_msr2 (fun hm1 hm2 hm3 => ?_)
    exact W.zret (v := 0) hx hb hr rfl (fun t ht hW => ⟨⟨0, (ad, ga, gc, M, n, f, T, G, K, F), rfl, (Or.inr ⟨rfl, trivial⟩), ws, by rw [ht]; exact hP, hD, hQ, ⟨h_i1, h_i2, h_i3, h_i4, h_i5, h_i6, h_i7, h_i8, h_i9⟩, by rw [ht]; show hpS H + (260 * M + 2 * S9 M gc) ≤ hpS s.heap + (260 * M + 2 * S9 M gc); omega, by rw [ht]; show 16 * H.size + (256 * M + S9 M gc) ≤ 16 * s.heap.size + (256 * M + S9 M gc); omega⟩, hS.F ht⟩) hS.2.2 dX9_interrupt_25

theorem i1.z {M : Nat} {n : Nat → Int32} (h : i1 M n) : i1 M (u1 n 0 0) := by
  unfold i1 at *
  rw [u1_eq, show (0 : Int32).toInt = 0 by decide]
  omega
theorem i5.z {n : Nat → Int32} {K : Nat → Nat → Option Nat} (h : (n 0).toInt = 0) : i5 n K := fun i j hi _ => by omega
theorem i6.z {n : Nat → Int32} {T : Nat → Option Nat} {G : Nat → Nat → Int32} (h : (n 0).toInt = 0) : i6 n T G := fun i hi _ _ => by omega
theorem i7.z {n : Nat → Int32} {G : Nat → Nat → Int32} (h : (n 0).toInt = 0) : i7 n G := fun i hi _ => by omega
theorem u1_z (n : Nat → Int32) : (u1 n 0 0 0).toInt = 0 := by rw [u1_eq]; decide

set_option maxHeartbeats 8000000 in
set_option maxRecDepth 100000 in
theorem c_X9_wipeErrands (l : Launch) (dC : Nat → ClassId) (dI : Nat → Nat → Nat) (kc : Nat → ClassId) (ws : va_W) (ad : Nat → Nat) (ga : Nat → Nat) (gc : Nat → Nat) (M : Nat) (n : Nat → Int32) (f : Nat → Nat → Int32) (T : Nat → Option Nat) (G : Nat → Nat → Int32) (K : Nat → Nat → Option Nat) (F : Nat → Nat → Nat → Int32) (R : Nat) (sz hz : Nat) (hQ : Pic9 kc ws ad ga gc M n f T G K F) (hI : I9 M n T gc G K R) : Met l yX9_wipeErrands (.code yX9_wipeErrands cX9_wipeErrands 3 none :: gw) ({ frames := 2, cells := 0, slots := 0, locals := 41 }) (va_Pc [.ref (ad 0)] (fun U => U.heap.size = sz ∧ hpS U.heap = hz ∧ va_P (dC, dI) vwCl ws U.heap ∧ va_K (dC, dI) vwCl (t9 kc) U ∧ va_D (fun _ => True) ws ∧ nx U)) (va_Qv (fun (u : (Nat → Nat) × (Nat → Nat) × (Nat → Nat) × Nat × (Nat → Int32) × (Nat → Nat → Int32) × (Nat → Option Nat) × (Nat → Nat → Int32) × (Nat → Nat → Option Nat) × (Nat → Nat → Nat → Int32)) => (u.2.2.2.2.1 0).toInt = (n 0).toInt) (fun u t => ∃ w : va_W, va_P (dC, dI) vwCl w t.heap ∧ va_D (va_A ws sz) w ∧ Pic9 kc w ad ga gc M u.2.2.2.2.1 f T G K F ∧ I9 M u.2.2.2.2.1 T gc G K R ∧ hpS t.heap + (260 * M + 2 * S9 M gc) ≤ hz + (260 * M + 2 * S9 M gc) ∧ 16 * t.heap.size + (256 * M + S9 M gc) ≤ 16 * sz + (256 * M + S9 M gc) ∧ (n 0).toInt ≤ (u.2.2.2.2.1 0).toInt) (va_A ws sz)) 0 0 (va_A ws sz) := by
  refine Met.ofW (cc := cX9_wipeErrands) (maxL := 3) (ret := none) (by decide) rfl ?_
  intro p e s m args below meth c s₁ B hml hv
  obtain ⟨rfl, hsz, rfl, hP, hK, hD0, hN⟩ := hv
  have hx := B.exec
  have hb := B.bytes
  have hr := B.returns
  have hts := atoms_spec (ws := .code yX9_wipeErrands cX9_wipeErrands 3 none :: gw) B.pre
  have hg : ∀ w ∈ gw, w.before _ s = true := fun w h => hts w (List.mem_cons_of_mem _ h)
  have hown : s.vm.findClass RX9 = some m.cls := findClass_of_methodNamed B.named
  have hlocks := B.notSynchronized
  subst hsz
  have hD := hD0.self (sz := s.heap.size)
  generalize hAe : va_A ws s.heap.size = A at hD ⊢
  have hA : ∀ q : Nat, s.heap.size ≤ q → A q := fun q h => by rw [← hAe]; exact Or.inr h
  clear hAe
  have hS : va_S A s.heap s.heap [] := va_S.rf
  have hl := lv_entry ([.ref (ad 0)]) (n := 3) (Nat.le_of_ble_eq_true rfl)
  rw [lg_entry_eq]
  generalize (lg_sl ([.ref (ad 0)]) ++ List.replicate (3 - (lg_sl ([.ref (ad 0)])).length) Slot.unset).toArray = ls at hl ⊢
  have hl : lv_has ls 3 [(0, .ref (ad 0))] := hl
  obtain ⟨h_i1, h_i2, h_i3, h_i4, h_i5, h_i6, h_i7, h_i8, h_i9⟩ := id hI
  have q1_ := h_i1
  unfold i1 at q1_
  refine lv_iconst (v := 0) hx hb dX9_wipeErrands_0 (by decide) ?_
  refine lv_istore_n (lv' := [(1, .int 0), (0, .ref (ad 0))]) hx hb dX9_wipeErrands_1 rfl hl (by decide) rfl (fun ls hl => ?_)
  have L2 : ∀ (fuel : Nat) (x_1 : Int32)   (ws_3 : va_W) (n_2 : Nat → Int32)  (H : Heap) (locs : List Loc) (ls : Array Slot), (9 - x_1.toInt).toNat < fuel → (0 ≤ x_1.toInt ∧ x_1.toInt ≤ 8) → ((n_2 0).toInt = (n 0).toInt) → ((n 0).toInt ≤ (n_2 0).toInt) → Pic9 kc ws_3 ad ga gc M n_2 f T G K F → I9 M n_2 T gc G K R → va_P (dC, dI) vwCl ws_3 H → va_D A ws_3 → va_S A s.heap H locs → lv_has ls 3 [(1, .int x_1), (0, .ref (ad 0))] → W p l e (headSpec (.code yX9_wipeErrands cX9_wipeErrands 3 none :: gw) ({ frames := 2, cells := 0, slots := 0, locals := 41 })).room s m ([.ref (ad 0)] : List Value).toArray below meth c H locs 0 0 (MQ below (va_Qv (fun (u : (Nat → Nat) × (Nat → Nat) × (Nat → Nat) × Nat × (Nat → Int32) × (Nat → Nat → Int32) × (Nat → Option Nat) × (Nat → Nat → Int32) × (Nat → Nat → Option Nat) × (Nat → Nat → Nat → Int32)) => (u.2.2.2.2.1 0).toInt = (n 0).toInt) (fun u t => ∃ w : va_W, va_P (dC, dI) vwCl w t.heap ∧ va_D A w ∧ Pic9 kc w ad ga gc M u.2.2.2.2.1 f T G K F ∧ I9 M u.2.2.2.2.1 T gc G K R ∧ hpS t.heap + (260 * M + 2 * S9 M gc) ≤ (hpS s.heap) + (260 * M + 2 * S9 M gc) ∧ 16 * t.heap.size + (256 * M + S9 M gc) ≤ 16 * s.heap.size + (256 * M + S9 M gc) ∧ (n 0).toInt ≤ (u.2.2.2.2.1 0).toInt) A) ([.ref (ad 0)] : List Value).toArray s 0 0 A) (F0 m 2 ls []) := by
    intro fuel
    induction fuel with
    | zero => intro x_1 ws_3 n_2 H locs ls hm; exact absurd hm (Nat.not_lt_zero _)
    | succ fuel_10 ih_9 =>
      intro x_1 ws_3 n_2 H locs ls hm_4 v_5 v_6 v_7 hQ hI_8 hP hD hS hl
      obtain ⟨i1_11, i2_12, i3_13, i4_14, i5_15, i6_16, i7_17, i8_18, i9_19⟩ := id hI_8
      have q1_ := i1_11
      unfold i1 at q1_
      refine lv_iload_n hx hb dX9_wipeErrands_2 rfl (lv_at hl 0 rfl) ?_
      refine lv_bipush (v := 8) hx hb dX9_wipeErrands_3 (by decide) ?_
      refine lv_icmp_ge (tgt := 29) hx hb dX9_wipeErrands_5 (by decide) (fun c_20 => ?_) (fun c_20 => ?_)
      · simp only [i_lt, i_le, i_eq, ti_8] at c_20
        refine W_msr2 (fun hm1 hm2 hm3 => ?_)
        exact W.vret hx hb hr (fun t ht hW => ⟨⟨(ad, ga, gc, M, n_2, f, T, G, K, F), rfl, (by show (n_2 0).toInt = (n 0).toInt; omega), ws_3, by rw [ht]; exact hP, hD, hQ, ⟨i1_11, i2_12, i3_13, i4_14, i5_15, i6_16, i7_17, i8_18, i9_19⟩, by rw [ht]; show hpS H + (260 * M + 2 * S9 M gc) ≤ hpS s.heap + (260 * M + 2 * S9 M gc); omega, by rw [ht]; show 16 * H.size + (256 * M + S9 M gc) ≤ 16 * s.heap.size + (256 * M + S9 M gc); omega, by show (n 0).toInt ≤ (n_2 0).toInt; omega⟩, hS.F ht⟩) hS.2.2 dX9_wipeErrands_29
      · simp only [i_lt, i_le, i_eq, ti_8] at c_20
        refine lv_aload_n hx hb dX9_wipeErrands_8 rfl (lv_at hl 1 rfl) ?_
        refine lv_iload_n hx hb dX9_wipeErrands_9 rfl (lv_at hl 0 rfl) ?_
        have hFc := free_all hD hS hA
        refine va_callq (va_runV (As := [.int x_1]) (rest := []) ⟨hx, hb, hml, hown, hg⟩ (c9_X9_errandAt l dC dI kc ws_3 ad ga gc M n_2 f T G K F R x_1 H.size (hpS H) hQ ⟨i1_11, i2_12, i3_13, i4_14, i5_15, i6_16, i7_17, i8_18, i9_19⟩) (cwV 1 hg (gw_V gm_methodLink_RX9_69_yX9_errandAt gm_instanceMethod_yX9_errandAt gm_selects_RX9_yX9_errandAt_yX9_errandAt gm_initialized_RX9 gm_code_yX9_errandAt_cX9_errandAt_2_some_object_ErrandGuild_Errand_) rfl rfl rfl (by decide +kernel) ⟨Nat.le_of_ble_eq_true rfl, Nat.le_of_ble_eq_true rfl⟩) ⟨fun a U g mk q => by obtain ⟨q0, q1, q2, qP, qK, qD, qN⟩ := q; exact ⟨q0, q1, q2, qP, va_K.moved (u := U) (U := U.calling g mk a) (Vm.Alike.refl U.vm) qK, qD, nx_same (u := U) (U := U.calling g mk a) rfl qN⟩, va_recv hK hP (ci := 9) (q0 := 0) rfl hQ.x0, fun U hU hW => ⟨rfl, by rw [hU], by rw [hU], by rw [hU]; exact hP, va_K.moved hW.alike hK, hD.weaken (fun _ _ _ _ => trivial), nx_warm hW hN⟩⟩ rfl rfl hl.1 rfl (lv_room (Nat.le_of_ble_eq_true rfl)) dX9_wipeErrands_10 ⟨Nat.le_of_ble_eq_true rfl, Nat.le_of_ble_eq_true rfl⟩) hS (fun q _ h => hFc q h) hFc (fun r_21 u_22 t H1 locs ht hvm hw hB hz1 hk1 hS => ?_)
        obtain ⟨hP, hD, hy1, hy2⟩ := hB
        rw [ht] at hP hy1 hy2
        have hD := hD.weaken (fun k q _ h => hFc _ h)
        have q1_ := i1_11
        unfold i1 at q1_
        generalize H1 = H at hP hS ⊢
        rcases hw with ⟨rfl, w_23⟩ | ⟨rfl, w_23⟩
        · have w_23 : (0 ≤ x_1.toInt ∧ x_1.toInt < 8) := w_23
          have hl_24 : x_1.toInt.toNat < 8 := by omega
          refine W.eq (g2 := F0 m 13 ls [.ref (ad (4 + 4 * x_1.toInt.toNat))]) rfl ?_
          refine lv_astore_n (lv' := [(2, .ref (ad (4 + 4 * x_1.toInt.toNat))), (1, .int x_1), (0, .ref (ad 0))]) hx hb dX9_wipeErrands_13 rfl hl (by decide) rfl (fun ls hl => ?_)
          refine lv_aload_n hx hb dX9_wipeErrands_14 rfl (lv_at hl 0 rfl) ?_
          refine lv_ifnull hx hb dX9_wipeErrands_15 ?_
          refine lv_aload_n hx hb dX9_wipeErrands_18 rfl (lv_at hl 0 rfl) ?_
          refine lv_iconst (v := 0) hx hb dX9_wipeErrands_19 (by decide) ?_
          refine va_put (D := (dC, dI)) (ci := 1) (v := .int (0)) (ty := .int) (C := RX1) (T := TX1) (N := 4) hx hb hg gb_1 tyX1 tyX1_ok nmX1 hown hK hP hD hS (4 + 4 * x_1.toInt.toNat) (hQ.e0 hl_24) rfl 3 (by decide) (hg _ gm_fieldLink_RX9_73_ErrandGuild_Errand_count_I_) (fun _ h9 => h9) rfl (by decide +kernel) rfl rfl (Nat.le_of_ble_eq_true rfl) dX9_wipeErrands_20 (fun H locs hP hD hS => ?_)
          obtain ⟨ws_26, n_25, en_25, hP, hD, hQ⟩ : ∃ (ws_26 : va_W) (n_25 : Nat → Int32), n_25 = u1 n_2 (6 + x_1.toInt.toNat) 0 ∧ va_P (dC, dI) vwCl ws_26 H ∧ va_D A ws_26 ∧ Pic9 kc ws_26 ad ga gc M n_25 f T G K F := ⟨_, _, rfl, hP, hD, hQ.erN hl_24 0⟩
          have i1_27 : i1 M n_25 := by rw [en_25]; exact (i1.pn i1_11 _ (by omega))
          have i5_28 : i5 n_25 K := by rw [en_25]; exact (i5.pn i5_15 _ (by omega))
          have i6_29 : i6 n_25 T G := by rw [en_25]; exact (i6.pn i6_16 _ (by omega))
          have i7_30 : i7 n_25 G := by rw [en_25]; exact (i7.pn i7_17 _ (by omega))
          have i8_31 : i8 M n_25 gc G := by rw [en_25]; exact (i8.pn i8_18 _ (by omega))
          have hn_32 : n_25 0 = n_2 0 := by rw [en_25]; rw [u1_ne _ _ (by omega)]
          have thn_32 := congrArg Int32.toInt hn_32
          obtain ⟨y_33, ey_33⟩ : ∃ q : Int32, q = x_1 + (1) := ⟨_, rfl⟩
          refine lv_iinc (v := y_33) (lv' := [(1, .int y_33), (2, .ref (ad (4 + 4 * x_1.toInt.toNat))), (0, .ref (ad 0))]) hx hb dX9_wipeErrands_23 hl (k := 1) rfl (by rw [ey_33]; rfl) (by decide) rfl (fun ls hl => ?_)
          have ty_33 : y_33.toInt = x_1.toInt + (1) := ar_add rfl ti_1 ey_33 (by omega)
          refine lv_goto (tgt := 2) hx hb dX9_wipeErrands_26 (by decide) ?_
          exact ih_9 y_33   ws_26 n_25  H locs ls (by show (9 - y_33.toInt).toNat < _; omega) (by show 0 ≤ y_33.toInt ∧ y_33.toInt ≤ 8; omega) (by show (n_25 0).toInt = (n 0).toInt; omega) (by show (n 0).toInt ≤ (n_25 0).toInt; omega) hQ ⟨i1_27, i2_12, i3_13, i4_14, i5_28, i6_29, i7_30, i8_31, i9_19⟩ hP hD hS (lv_sub hl [0, 2] rfl)
        · have w_23 : ¬ (0 ≤ x_1.toInt ∧ x_1.toInt < 8) := w_23
          refine W.eq (g2 := F0 m 13 ls [.null]) rfl ?_
          refine lv_astore_nN (lv' := [(2, .null), (1, .int x_1), (0, .ref (ad 0))]) hx hb dX9_wipeErrands_13 rfl hl (by decide) rfl (fun ls hl => ?_)
          refine lv_aload_nN hx hb dX9_wipeErrands_14 rfl (lv_at hl 0 rfl) ?_
          refine lv_ifnullN (tgt := 23) hx hb dX9_wipeErrands_15 (by decide) ?_
          obtain ⟨y_34, ey_34⟩ : ∃ q : Int32, q = x_1 + (1) := ⟨_, rfl⟩
          refine lv_iinc (v := y_34) (lv' := [(1, .int y_34), (2, .null), (0, .ref (ad 0))]) hx hb dX9_wipeErrands_23 hl (k := 1) rfl (by rw [ey_34]; rfl) (by decide) rfl (fun ls hl => ?_)
          have ty_34 : y_34.toInt = x_1.toInt + (1) := ar_add rfl ti_1 ey_34 (by omega)
          refine lv_goto (tgt := 2) hx hb dX9_wipeErrands_26 (by decide) ?_
          exact ih_9 y_34   ws_3 n_2  H locs ls (by show (9 - y_34.toInt).toNat < _; omega) (by show 0 ≤ y_34.toInt ∧ y_34.toInt ≤ 8; omega) (by show (n_2 0).toInt = (n 0).toInt; omega) (by show (n 0).toInt ≤ (n_2 0).toInt; omega) hQ ⟨i1_11, i2_12, i3_13, i4_14, i5_15, i6_16, i7_17, i8_18, i9_19⟩ hP hD hS (lv_sub hl [0, 2] rfl)
  exact L2 _ (0 : Int32)   ws n  _ _ _ (Nat.lt_succ_self _) (by have t_0 := ti_0; show 0 ≤ (0 : Int32).toInt ∧ (0 : Int32).toInt ≤ 8; omega) (by have t_0 := ti_0; show (n 0).toInt = (n 0).toInt; omega) (by have t_0 := ti_0; show (n 0).toInt ≤ (n 0).toInt; omega) hQ ⟨h_i1, h_i2, h_i3, h_i4, h_i5, h_i6, h_i7, h_i8, h_i9⟩ hP hD hS (lv_sub hl [0, 1] rfl)

set_option maxHeartbeats 8000000 in
set_option maxRecDepth 100000 in
theorem c_X9_anew (l : Launch) (dC : Nat → ClassId) (dI : Nat → Nat → Nat) (kc : Nat → ClassId) (ws : va_W) (ad : Nat → Nat) (ga : Nat → Nat) (gc : Nat → Nat) (M : Nat) (n : Nat → Int32) (f : Nat → Nat → Int32) (T : Nat → Option Nat) (G : Nat → Nat → Int32) (K : Nat → Nat → Option Nat) (F : Nat → Nat → Nat → Int32) (R : Nat) (v1 : Int32) (sz hz : Nat) (hQ : Pic9 kc ws ad ga gc M n f T G K F) (hI : I9 M n T gc G K R) : Met l yX9_anew (.code yX9_anew cX9_anew 3 none :: gw) ({ frames := 3, cells := 0, slots := 0, locals := 63 }) (va_Pc [.ref (ad 0), .int v1] (fun U => U.heap.size = sz ∧ hpS U.heap = hz ∧ va_P (dC, dI) vwCl ws U.heap ∧ va_K (dC, dI) vwCl (t9 kc) U ∧ va_D (fun _ => True) ws ∧ nx U)) (va_Qv (fun (u : (Nat → Nat) × (Nat → Nat) × (Nat → Nat) × Nat × (Nat → Int32) × (Nat → Nat → Int32) × (Nat → Option Nat) × (Nat → Nat → Int32) × (Nat → Nat → Option Nat) × (Nat → Nat → Nat → Int32)) => (u.2.2.2.2.1 0).toInt = 0) (fun u t => ∃ w : va_W, va_P (dC, dI) vwCl w t.heap ∧ va_D (va_A ws sz) w ∧ Pic9 kc w ad ga gc M u.2.2.2.2.1 f u.2.2.2.2.2.2.1 G K F ∧ I9 M u.2.2.2.2.1 u.2.2.2.2.2.2.1 gc G K R ∧ hpS t.heap + (260 * M + 2 * S9 M gc) ≤ hz + (260 * M + 2 * S9 M gc) ∧ 16 * t.heap.size + (256 * M + S9 M gc) ≤ 16 * sz + (256 * M + S9 M gc)) (va_A ws sz)) 0 0 (va_A ws sz) := by
  refine Met.ofW (cc := cX9_anew) (maxL := 3) (ret := none) (by decide) rfl ?_
  intro p e s m args below meth c s₁ B hml hv
  obtain ⟨rfl, hsz, rfl, hP, hK, hD0, hN⟩ := hv
  have hx := B.exec
  have hb := B.bytes
  have hr := B.returns
  have hts := atoms_spec (ws := .code yX9_anew cX9_anew 3 none :: gw) B.pre
  have hg : ∀ w ∈ gw, w.before _ s = true := fun w h => hts w (List.mem_cons_of_mem _ h)
  have hown : s.vm.findClass RX9 = some m.cls := findClass_of_methodNamed B.named
  have hlocks := B.notSynchronized
  subst hsz
  have hD := hD0.self (sz := s.heap.size)
  generalize hAe : va_A ws s.heap.size = A at hD ⊢
  have hA : ∀ q : Nat, s.heap.size ≤ q → A q := fun q h => by rw [← hAe]; exact Or.inr h
  clear hAe
  have hS : va_S A s.heap s.heap [] := va_S.rf
  have hl := lv_entry ([.ref (ad 0), .int v1]) (n := 3) (Nat.le_of_ble_eq_true rfl)
  rw [lg_entry_eq]
  generalize (lg_sl ([.ref (ad 0), .int v1]) ++ List.replicate (3 - (lg_sl ([.ref (ad 0), .int v1])).length) Slot.unset).toArray = ls at hl ⊢
  have hl : lv_has ls 3 [(0, .ref (ad 0)), (1, .int v1)] := hl
  obtain ⟨h_i1, h_i2, h_i3, h_i4, h_i5, h_i6, h_i7, h_i8, h_i9⟩ := id hI
  have q1_ := h_i1
  unfold i1 at q1_
  refine lv_aload_n hx hb dX9_anew_0 rfl (lv_at hl 0 rfl) ?_
  refine lv_iconst (v := 0) hx hb dX9_anew_1 (by decide) ?_
  refine va_put (D := (dC, dI)) (ci := 9) (v := .int (0)) (ty := .int) (C := RX9) (T := TX9) (N := 15) hx hb hg gb_9 tyX9 tyX9_ok nmX9 hown hK hP hD hS 0 hQ.x0 rfl 5 (by decide) (hg _ gm_fieldLink_RX9_66_ErrandGuild_runCount_I_) (fun _ h9 => h9) rfl (by decide +kernel) rfl rfl (Nat.le_of_ble_eq_true rfl) dX9_anew_2 (fun H locs hP hD hS => ?_)
  obtain ⟨ws_2, n_1, en_1, hP, hD, hQ⟩ : ∃ (ws_2 : va_W) (n_1 : Nat → Int32), n_1 = u1 n 0 0 ∧ va_P (dC, dI) vwCl ws_2 H ∧ va_D A ws_2 ∧ Pic9 kc ws_2 ad ga gc M n_1 f T G K F := ⟨_, _, rfl, hP, hD, hQ.x9 0 5 (by decide) 0⟩
  have i1_3 : i1 M n_1 := by rw [en_1]; exact i1.z h_i1
  have i5_4 : i5 n_1 K := by rw [en_1]; exact i5.z (u1_z _)
  have i6_5 : i6 n_1 T G := by rw [en_1]; exact i6.z (u1_z _)
  have i7_6 : i7 n_1 G := by rw [en_1]; exact i7.z (u1_z _)
  have i8_7 : i8 M n_1 gc G := by rw [en_1]; exact (i8.pn h_i8 _ (by decide))
  have hn_8 : n_1 0 = 0 := by rw [en_1]; exact u1_eq _ _ _
  have thn_8 : (n_1 0).toInt = 0 := by rw [hn_8]; decide
  refine lv_aload_n hx hb dX9_anew_5 rfl (lv_at hl 0 rfl) ?_
  refine lv_iconst (v := 0) hx hb dX9_anew_6 (by decide) ?_
  refine va_put (D := (dC, dI)) (ci := 9) (v := .int (0)) (ty := .int) (C := RX9) (T := TX9) (N := 15) hx hb hg gb_9 tyX9 tyX9_ok nmX9 hown hK hP hD hS 0 hQ.x0 rfl 8 (by decide) (hg _ gm_fieldLink_RX9_84_ErrandGuild_beats_I_) (fun _ h9 => h9) rfl (by decide +kernel) rfl rfl (Nat.le_of_ble_eq_true rfl) dX9_anew_7 (fun H locs hP hD hS => ?_)
  obtain ⟨ws_10, n_9, en_9, hP, hD, hQ⟩ : ∃ (ws_10 : va_W) (n_9 : Nat → Int32), n_9 = u1 n_1 2 0 ∧ va_P (dC, dI) vwCl ws_10 H ∧ va_D A ws_10 ∧ Pic9 kc ws_10 ad ga gc M n_9 f T G K F := ⟨_, _, rfl, hP, hD, hQ.x9 2 8 (by decide) 0⟩
  have i1_11 : i1 M n_9 := by rw [en_9]; exact (i1.pn i1_3 _ (by decide))
  have i5_12 : i5 n_9 K := by rw [en_9]; exact (i5.pn i5_4 _ (by decide))
  have i6_13 : i6 n_9 T G := by rw [en_9]; exact (i6.pn i6_5 _ (by decide))
  have i7_14 : i7 n_9 G := by rw [en_9]; exact (i7.pn i7_6 _ (by decide))
  have i8_15 : i8 M n_9 gc G := by rw [en_9]; exact (i8.pn i8_7 _ (by decide))
  have hn_16 : n_9 0 = n_1 0 := by rw [en_9]; rw [u1_ne _ _ (by decide)]
  have thn_16 := congrArg Int32.toInt hn_16
  refine lv_iconst (v := 0) hx hb dX9_anew_10 (by decide) ?_
  refine lv_istore_n (lv' := [(2, .int 0), (0, .ref (ad 0)), (1, .int v1)]) hx hb dX9_anew_11 rfl hl (by decide) rfl (fun ls hl => ?_)
  have L12 : ∀ (fuel : Nat) (x_17 : Int32)   (ws_19 : va_W) (T_18 : Nat → Option Nat)  (H : Heap) (locs : List Loc) (ls : Array Slot), (7 - x_17.toInt).toNat < fuel → (0 ≤ x_17.toInt ∧ x_17.toInt ≤ 6) → ((n_9 0).toInt = 0) → Pic9 kc ws_19 ad ga gc M n_9 f T_18 G K F → I9 M n_9 T_18 gc G K R → va_P (dC, dI) vwCl ws_19 H → va_D A ws_19 → va_S A s.heap H locs → lv_has ls 3 [(2, .int x_17), (0, .ref (ad 0)), (1, .int v1)] → W p l e (headSpec (.code yX9_anew cX9_anew 3 none :: gw) ({ frames := 3, cells := 0, slots := 0, locals := 63 })).room s m ([.ref (ad 0), .int v1] : List Value).toArray below meth c H locs 0 0 (MQ below (va_Qv (fun (u : (Nat → Nat) × (Nat → Nat) × (Nat → Nat) × Nat × (Nat → Int32) × (Nat → Nat → Int32) × (Nat → Option Nat) × (Nat → Nat → Int32) × (Nat → Nat → Option Nat) × (Nat → Nat → Nat → Int32)) => (u.2.2.2.2.1 0).toInt = 0) (fun u t => ∃ w : va_W, va_P (dC, dI) vwCl w t.heap ∧ va_D A w ∧ Pic9 kc w ad ga gc M u.2.2.2.2.1 f u.2.2.2.2.2.2.1 G K F ∧ I9 M u.2.2.2.2.1 u.2.2.2.2.2.2.1 gc G K R ∧ hpS t.heap + (260 * M + 2 * S9 M gc) ≤ (hpS s.heap) + (260 * M + 2 * S9 M gc) ∧ 16 * t.heap.size + (256 * M + S9 M gc) ≤ 16 * s.heap.size + (256 * M + S9 M gc)) A) ([.ref (ad 0), .int v1] : List Value).toArray s 0 0 A) (F0 m 12 ls []) := by
    intro fuel
    induction fuel with
    | zero => intro x_17 ws_19 T_18 H locs ls hm; exact absurd hm (Nat.not_lt_zero _)
    | succ fuel_25 ih_24 =>
      intro x_17 ws_19 T_18 H locs ls hm_20 v_21 v_22 hQ hI_23 hP hD hS hl
      obtain ⟨i1_26, i2_27, i3_28, i4_29, i5_30, i6_31, i7_32, i8_33, i9_34⟩ := id hI_23
      have q1_ := i1_26
      unfold i1 at q1_
      refine lv_iload_n hx hb dX9_anew_12 rfl (lv_at hl 0 rfl) ?_
      refine lv_bipush (v := 6) hx hb dX9_anew_13 (by decide) ?_
      refine lv_icmp_ge (tgt := 31) hx hb dX9_anew_15 (by decide) (fun c_35 => ?_) (fun c_35 => ?_)
      · simp only [i_lt, i_le, i_eq, ti_6] at c_35
        refine lv_aload_n hx hb dX9_anew_31 rfl (lv_at hl 1 rfl) ?_
        refine va_get (D := (dC, dI)) (ci := 9) (v := .ref (ad 42)) (C := RX9) (T := TX9) (N := 15) hx hb hg gb_9 hown hK hP 0 hQ.x0 rfl 9 (by decide) (hg _ gm_fieldLink_RX9_47_ErrandGuild_readings_LErrandGuild_Ledger_) (fun _ h9 => h9) rfl dX9_anew_32 ?_
        have hCc : ([42, 43] : List Nat).map (fun i => ws_19[i]?) = ([(ad 42, .inr (5, [.int (n_9 14), .ref (ad 43)])), (ad 43, .inr (0, [.int (n_9 15), .ref (ga 0), .int (n_9 16)]))] : va_W).map some := mp2 hQ.x42 hQ.x43
        have hNd : ([42, 43] : List Nat).Nodup := (by decide)
        have hPc := hP.pick [42, 43] hCc
        have hDc := hD.pick [42, 43] hNd hCc
        have hKc := hK.sub (tys' := []) [] rfl
        have hFc := va_free (wc := [(ad 42, .inr (5, [.int (n_9 14), .ref (ad 43)])), (ad 43, .inr (0, [.int (n_9 15), .ref (ga 0), .int (n_9 16)]))]) hD hS hA [42, 43] hCc
        refine va_callv (va_runV (As := []) (rest := []) ⟨hx, hb, hml, hown, hg⟩ (c_X5_clear l dC dI (ad 42) (ad 43) (ga 0) (n_9 14) (n_9 15) (n_9 16) H.size ) (cwV 0 hg (gw_V gm_methodLink_RX9_87_yX5_clear gm_instanceMethod_yX5_clear gm_selects_RX5_yX5_clear_yX5_clear gm_initialized_RX5 gm_code_yX5_clear_cX5_clear_1_none) rfl rfl rfl (by decide +kernel) ⟨Nat.le_of_ble_eq_true rfl, Nat.le_of_ble_eq_true rfl⟩) ⟨fun a U g mk q => by obtain ⟨q0, q1, qP, qK, qD, qN⟩ := q; exact ⟨q0, q1, qP, va_K.moved (u := U) (U := U.calling g mk a) (Vm.Alike.refl U.vm) qK, qD, nx_same (u := U) (U := U.calling g mk a) rfl qN⟩, va_recv hK hP (ci := 5) (q0 := 42) rfl hQ.x42, fun U hU hW => ⟨rfl, by rw [hU], by rw [hU]; exact hPc, va_K.moved hW.alike hKc, hDc.weaken (fun _ _ _ _ => trivial), nx_warm hW hN⟩⟩ rfl rfl hl.1 rfl (lv_room (Nat.le_of_ble_eq_true rfl)) dX9_anew_35 ⟨Nat.le_of_ble_eq_true rfl, Nat.le_of_ble_eq_true rfl⟩) hS (fun q _ h => hFc q h) hFc (fun u_37 t H1 locs ht hvm hw hB hz1 hk1 hS => ?_)
        obtain ⟨ad_38, ac_39, af_40, ag_41⟩ := u_37
        obtain ⟨hP1, hD1, hK1⟩ := hB
        rw [ht] at hP1
        obtain ⟨hP, hD⟩ := va_repl (w1 := [((ad 42), .inr (5, [.int (n_9 14), .ref (ad 43)])), ((ad 43), .inr (0, [.int (n_9 15), .ref (ga 0), .int 0]))]) hP hD [42, 43] hCc hNd rfl hk1 hFc hP1 hD1
        obtain ⟨ws_43, n_42, en_42, hP, hD, hQ⟩ : ∃ (ws_43 : va_W) (n_42 : Nat → Int32), n_42 = u1 n_9 16 0 ∧ va_P (dC, dI) vwCl ws_43 H1 ∧ va_D A ws_43 ∧ Pic9 kc ws_43 ad ga gc M n_42 f T_18 G K F := ⟨_, _, rfl, hP, hD, (hQ.same hQ.x42).grC0 0⟩
        have i1_44 : i1 M n_42 := by rw [en_42]; exact (i1.pn i1_26 _ (by decide))
        have i5_45 : i5 n_42 K := by rw [en_42]; exact (i5.pn i5_30 _ (by decide))
        have i6_46 : i6 n_42 T_18 G := by rw [en_42]; exact (i6.pn i6_31 _ (by decide))
        have i7_47 : i7 n_42 G := by rw [en_42]; exact (i7.pn i7_32 _ (by decide))
        have i8_48 : i8 M n_42 gc G := by rw [en_42]; exact (i8.pn i8_33 _ (by decide))
        have hn_49 : n_42 0 = n_9 0 := by rw [en_42]; rw [u1_ne _ _ (by decide)]
        have thn_49 := congrArg Int32.toInt hn_49
        generalize H1 = H at hP hS ⊢
        refine lv_aload_n hx hb dX9_anew_38 rfl (lv_at hl 1 rfl) ?_
        refine lv_iconst (v := 0) hx hb dX9_anew_39 (by decide) ?_
        refine va_put (D := (dC, dI)) (ci := 9) (v := .int (0)) (ty := .int) (C := RX9) (T := TX9) (N := 15) hx hb hg gb_9 tyX9 tyX9_ok nmX9 hown hK hP hD hS 0 hQ.x0 rfl 10 (by decide) (hg _ gm_fieldLink_RX9_90_ErrandGuild_readingCount_I_) (fun _ h9 => h9) rfl (by decide +kernel) rfl rfl (Nat.le_of_ble_eq_true rfl) dX9_anew_40 (fun H locs hP hD hS => ?_)
        obtain ⟨ws_51, n_50, en_50, hP, hD, hQ⟩ : ∃ (ws_51 : va_W) (n_50 : Nat → Int32), n_50 = u1 n_42 3 0 ∧ va_P (dC, dI) vwCl ws_51 H ∧ va_D A ws_51 ∧ Pic9 kc ws_51 ad ga gc M n_50 f T_18 G K F := ⟨_, _, rfl, hP, hD, hQ.x9 3 10 (by decide) 0⟩
        have i1_52 : i1 M n_50 := by rw [en_50]; exact (i1.pn i1_44 _ (by decide))
        have i5_53 : i5 n_50 K := by rw [en_50]; exact (i5.pn i5_45 _ (by decide))
        have i6_54 : i6 n_50 T_18 G := by rw [en_50]; exact (i6.pn i6_46 _ (by decide))
        have i7_55 : i7 n_50 G := by rw [en_50]; exact (i7.pn i7_47 _ (by decide))
        have i8_56 : i8 M n_50 gc G := by rw [en_50]; exact (i8.pn i8_48 _ (by decide))
        have hn_57 : n_50 0 = n_42 0 := by rw [en_50]; rw [u1_ne _ _ (by decide)]
        have thn_57 := congrArg Int32.toInt hn_57
        refine lv_aload_n hx hb dX9_anew_43 rfl (lv_at hl 1 rfl) ?_
        refine va_get (D := (dC, dI)) (ci := 9) (v := .ref (ad 45)) (C := RX9) (T := TX9) (N := 15) hx hb hg gb_9 hown hK hP 0 hQ.x0 rfl 11 (by decide) (hg _ gm_fieldLink_RX9_51_ErrandGuild_asked_LErrandGuild_Ledger_) (fun _ h9 => h9) rfl dX9_anew_44 ?_
        have hCc : ([45, 46] : List Nat).map (fun i => ws_51[i]?) = ([(ad 45, .inr (5, [.int (n_50 17), .ref (ad 46)])), (ad 46, .inr (0, [.int (n_50 18), .ref (ga 1), .int (n_50 19)]))] : va_W).map some := mp2 hQ.x45 hQ.x46
        have hNd : ([45, 46] : List Nat).Nodup := (by decide)
        have hPc := hP.pick [45, 46] hCc
        have hDc := hD.pick [45, 46] hNd hCc
        have hKc := hK.sub (tys' := []) [] rfl
        have hFc := va_free (wc := [(ad 45, .inr (5, [.int (n_50 17), .ref (ad 46)])), (ad 46, .inr (0, [.int (n_50 18), .ref (ga 1), .int (n_50 19)]))]) hD hS hA [45, 46] hCc
        refine va_callv (va_runV (As := []) (rest := []) ⟨hx, hb, hml, hown, hg⟩ (c_X5_clear l dC dI (ad 45) (ad 46) (ga 1) (n_50 17) (n_50 18) (n_50 19) H.size ) (cwV 0 hg (gw_V gm_methodLink_RX9_87_yX5_clear gm_instanceMethod_yX5_clear gm_selects_RX5_yX5_clear_yX5_clear gm_initialized_RX5 gm_code_yX5_clear_cX5_clear_1_none) rfl rfl rfl (by decide +kernel) ⟨Nat.le_of_ble_eq_true rfl, Nat.le_of_ble_eq_true rfl⟩) ⟨fun a U g mk q => by obtain ⟨q0, q1, qP, qK, qD, qN⟩ := q; exact ⟨q0, q1, qP, va_K.moved (u := U) (U := U.calling g mk a) (Vm.Alike.refl U.vm) qK, qD, nx_same (u := U) (U := U.calling g mk a) rfl qN⟩, va_recv hK hP (ci := 5) (q0 := 45) rfl hQ.x45, fun U hU hW => ⟨rfl, by rw [hU], by rw [hU]; exact hPc, va_K.moved hW.alike hKc, hDc.weaken (fun _ _ _ _ => trivial), nx_warm hW hN⟩⟩ rfl rfl hl.1 rfl (lv_room (Nat.le_of_ble_eq_true rfl)) dX9_anew_47 ⟨Nat.le_of_ble_eq_true rfl, Nat.le_of_ble_eq_true rfl⟩) hS (fun q _ h => hFc q h) hFc (fun u_59 t H1 locs ht hvm hw hB hz1 hk1 hS => ?_)
        obtain ⟨ad_60, ac_61, af_62, ag_63⟩ := u_59
        obtain ⟨hP1, hD1, hK1⟩ := hB
        rw [ht] at hP1
        obtain ⟨hP, hD⟩ := va_repl (w1 := [((ad 45), .inr (5, [.int (n_50 17), .ref (ad 46)])), ((ad 46), .inr (0, [.int (n_50 18), .ref (ga 1), .int 0]))]) hP hD [45, 46] hCc hNd rfl hk1 hFc hP1 hD1
        obtain ⟨ws_65, n_64, en_64, hP, hD, hQ⟩ : ∃ (ws_65 : va_W) (n_64 : Nat → Int32), n_64 = u1 n_50 19 0 ∧ va_P (dC, dI) vwCl ws_65 H1 ∧ va_D A ws_65 ∧ Pic9 kc ws_65 ad ga gc M n_64 f T_18 G K F := ⟨_, _, rfl, hP, hD, (hQ.same hQ.x45).grC1 0⟩
        have i1_66 : i1 M n_64 := by rw [en_64]; exact (i1.pn i1_52 _ (by decide))
        have i5_67 : i5 n_64 K := by rw [en_64]; exact (i5.pn i5_53 _ (by decide))
        have i6_68 : i6 n_64 T_18 G := by rw [en_64]; exact (i6.pn i6_54 _ (by decide))
        have i7_69 : i7 n_64 G := by rw [en_64]; exact (i7.pn i7_55 _ (by decide))
        have i8_70 : i8 M n_64 gc G := by rw [en_64]; exact (i8.pn i8_56 _ (by decide))
        have hn_71 : n_64 0 = n_50 0 := by rw [en_64]; rw [u1_ne _ _ (by decide)]
        have thn_71 := congrArg Int32.toInt hn_71
        generalize H1 = H at hP hS ⊢
        refine lv_aload_n hx hb dX9_anew_50 rfl (lv_at hl 1 rfl) ?_
        refine lv_iconst (v := 0) hx hb dX9_anew_51 (by decide) ?_
        refine va_put (D := (dC, dI)) (ci := 9) (v := .int (0)) (ty := .int) (C := RX9) (T := TX9) (N := 15) hx hb hg gb_9 tyX9 tyX9_ok nmX9 hown hK hP hD hS 0 hQ.x0 rfl 12 (by decide) (hg _ gm_fieldLink_RX9_93_ErrandGuild_askedCount_I_) (fun _ h9 => h9) rfl (by decide +kernel) rfl rfl (Nat.le_of_ble_eq_true rfl) dX9_anew_52 (fun H locs hP hD hS => ?_)
        obtain ⟨ws_73, n_72, en_72, hP, hD, hQ⟩ : ∃ (ws_73 : va_W) (n_72 : Nat → Int32), n_72 = u1 n_64 4 0 ∧ va_P (dC, dI) vwCl ws_73 H ∧ va_D A ws_73 ∧ Pic9 kc ws_73 ad ga gc M n_72 f T_18 G K F := ⟨_, _, rfl, hP, hD, hQ.x9 4 12 (by decide) 0⟩
        have i1_74 : i1 M n_72 := by rw [en_72]; exact (i1.pn i1_66 _ (by decide))
        have i5_75 : i5 n_72 K := by rw [en_72]; exact (i5.pn i5_67 _ (by decide))
        have i6_76 : i6 n_72 T_18 G := by rw [en_72]; exact (i6.pn i6_68 _ (by decide))
        have i7_77 : i7 n_72 G := by rw [en_72]; exact (i7.pn i7_69 _ (by decide))
        have i8_78 : i8 M n_72 gc G := by rw [en_72]; exact (i8.pn i8_70 _ (by decide))
        have hn_79 : n_72 0 = n_64 0 := by rw [en_72]; rw [u1_ne _ _ (by decide)]
        have thn_79 := congrArg Int32.toInt hn_79
        refine lv_aload_n hx hb dX9_anew_55 rfl (lv_at hl 1 rfl) ?_
        refine va_get (D := (dC, dI)) (ci := 9) (v := .ref (ad 48)) (C := RX9) (T := TX9) (N := 15) hx hb hg gb_9 hown hK hP 0 hQ.x0 rfl 13 (by decide) (hg _ gm_fieldLink_RX9_57_ErrandGuild_turns_LErrandGuild_Cells_) (fun _ h9 => h9) rfl dX9_anew_56 ?_
        have hCc : ([48] : List Nat).map (fun i => ws_73[i]?) = ([(ad 48, .inr (0, [.int (n_72 20), .ref (ga 2), .int (n_72 21)]))] : va_W).map some := mp1 hQ.x48
        have hNd : ([48] : List Nat).Nodup := (by decide)
        have hPc := hP.pick [48] hCc
        have hDc := hD.pick [48] hNd hCc
        have hKc := hK.sub (tys' := []) [] rfl
        have hFc := va_free (wc := [(ad 48, .inr (0, [.int (n_72 20), .ref (ga 2), .int (n_72 21)]))]) hD hS hA [48] hCc
        refine va_callv (va_runV (As := []) (rest := []) ⟨hx, hb, hml, hown, hg⟩ (c_X0_clear l dC dI (ad 48) (ga 2) (n_72 20) (n_72 21) H.size ) (cwV 0 hg (gw_V gm_methodLink_RX9_96_yX0_clear gm_instanceMethod_yX0_clear gm_selects_RX0_yX0_clear_yX0_clear gm_initialized_RX0 gm_code_yX0_clear_cX0_clear_1_none) rfl rfl rfl (by decide +kernel) ⟨Nat.le_of_ble_eq_true rfl, Nat.le_of_ble_eq_true rfl⟩) ⟨fun a U g mk q => by obtain ⟨q0, q1, qP, qK, qD, qN⟩ := q; exact ⟨q0, q1, qP, va_K.moved (u := U) (U := U.calling g mk a) (Vm.Alike.refl U.vm) qK, qD, nx_same (u := U) (U := U.calling g mk a) rfl qN⟩, va_recv hK hP (ci := 0) (q0 := 48) rfl hQ.x48, fun U hU hW => ⟨rfl, by rw [hU], by rw [hU]; exact hPc, va_K.moved hW.alike hKc, hDc.weaken (fun _ _ _ _ => trivial), nx_warm hW hN⟩⟩ rfl rfl hl.1 rfl (lv_room (Nat.le_of_ble_eq_true rfl)) dX9_anew_59 ⟨Nat.le_of_ble_eq_true rfl, Nat.le_of_ble_eq_true rfl⟩) hS (fun q _ h => hFc q h) hFc (fun u_81 t H1 locs ht hvm hw hB hz1 hk1 hS => ?_)
        obtain ⟨ad_82, ac_83, af_84, ag_85⟩ := u_81
        obtain ⟨hP1, hD1, hK1⟩ := hB
        rw [ht] at hP1
        obtain ⟨hP, hD⟩ := va_repl (w1 := [((ad 48), .inr (0, [.int (n_72 20), .ref (ga 2), .int 0]))]) hP hD [48] hCc hNd rfl hk1 hFc hP1 hD1
        obtain ⟨ws_87, n_86, en_86, hP, hD, hQ⟩ : ∃ (ws_87 : va_W) (n_86 : Nat → Int32), n_86 = u1 n_72 21 0 ∧ va_P (dC, dI) vwCl ws_87 H1 ∧ va_D A ws_87 ∧ Pic9 kc ws_87 ad ga gc M n_86 f T_18 G K F := ⟨_, _, rfl, hP, hD, hQ.grC2 0⟩
        have i1_88 : i1 M n_86 := by rw [en_86]; exact (i1.pn i1_74 _ (by decide))
        have i5_89 : i5 n_86 K := by rw [en_86]; exact (i5.pn i5_75 _ (by decide))
        have i6_90 : i6 n_86 T_18 G := by rw [en_86]; exact (i6.pn i6_76 _ (by decide))
        have i7_91 : i7 n_86 G := by rw [en_86]; exact (i7.pn i7_77 _ (by decide))
        have i8_92 : i8 M n_86 gc G := by rw [en_86]; exact (i8.pn i8_78 _ (by decide))
        have hn_93 : n_86 0 = n_72 0 := by rw [en_86]; rw [u1_ne _ _ (by decide)]
        have thn_93 := congrArg Int32.toInt hn_93
        generalize H1 = H at hP hS ⊢
        refine lv_aload_n hx hb dX9_anew_62 rfl (lv_at hl 1 rfl) ?_
        refine lv_iconst (v := 0) hx hb dX9_anew_63 (by decide) ?_
        refine va_put (D := (dC, dI)) (ci := 9) (v := .int (0)) (ty := .int) (C := RX9) (T := TX9) (N := 15) hx hb hg gb_9 tyX9 tyX9_ok nmX9 hown hK hP hD hS 0 hQ.x0 rfl 14 (by decide) (hg _ gm_fieldLink_RX9_97_ErrandGuild_turnCount_I_) (fun _ h9 => h9) rfl (by decide +kernel) rfl rfl (Nat.le_of_ble_eq_true rfl) dX9_anew_64 (fun H locs hP hD hS => ?_)
        obtain ⟨ws_95, n_94, en_94, hP, hD, hQ⟩ : ∃ (ws_95 : va_W) (n_94 : Nat → Int32), n_94 = u1 n_86 5 0 ∧ va_P (dC, dI) vwCl ws_95 H ∧ va_D A ws_95 ∧ Pic9 kc ws_95 ad ga gc M n_94 f T_18 G K F := ⟨_, _, rfl, hP, hD, hQ.x9 5 14 (by decide) 0⟩
        have i1_96 : i1 M n_94 := by rw [en_94]; exact (i1.pn i1_88 _ (by decide))
        have i5_97 : i5 n_94 K := by rw [en_94]; exact (i5.pn i5_89 _ (by decide))
        have i6_98 : i6 n_94 T_18 G := by rw [en_94]; exact (i6.pn i6_90 _ (by decide))
        have i7_99 : i7 n_94 G := by rw [en_94]; exact (i7.pn i7_91 _ (by decide))
        have i8_100 : i8 M n_94 gc G := by rw [en_94]; exact (i8.pn i8_92 _ (by decide))
        have hn_101 : n_94 0 = n_86 0 := by rw [en_94]; rw [u1_ne _ _ (by decide)]
        have thn_101 := congrArg Int32.toInt hn_101
        refine lv_iload_n hx hb dX9_anew_67 rfl (lv_at hl 2 rfl) ?_
        refine lv_if_eq (tgt := 75) hx hb dX9_anew_68 (by decide) (fun c_102 => ?_) (fun c_102 => ?_)
        · simp only [i_lt, i_le, i_eq, ti_0] at c_102
          refine W_msr2 (fun hm1 hm2 hm3 => ?_)
          exact W.vret hx hb hr (fun t ht hW => ⟨⟨(ad, ga, gc, M, n_94, f, T_18, G, K, F), rfl, (by show (n_94 0).toInt = 0; omega), ws_95, by rw [ht]; exact hP, hD, hQ, ⟨i1_96, i2_27, i3_28, i4_29, i5_97, i6_98, i7_99, i8_100, i9_34⟩, by rw [ht]; show hpS H + (260 * M + 2 * S9 M gc) ≤ hpS s.heap + (260 * M + 2 * S9 M gc); omega, by rw [ht]; show 16 * H.size + (256 * M + S9 M gc) ≤ 16 * s.heap.size + (256 * M + S9 M gc); omega⟩, hS.F ht⟩) hS.2.2 dX9_anew_75
        · simp only [i_lt, i_le, i_eq, ti_0] at c_102
          refine lv_aload_n hx hb dX9_anew_71 rfl (lv_at hl 1 rfl) ?_
          have hFc := free_all hD hS hA
          refine va_callv (va_runV (As := []) (rest := []) ⟨hx, hb, hml, hown, hg⟩ (c_X9_wipeErrands l dC dI kc ws_95 ad ga gc M n_94 f T_18 G K F R H.size (hpS H) hQ ⟨i1_96, i2_27, i3_28, i4_29, i5_97, i6_98, i7_99, i8_100, i9_34⟩) (cwV 0 hg (gw_V gm_methodLink_RX9_100_yX9_wipeErrands gm_instanceMethod_yX9_wipeErrands gm_selects_RX9_yX9_wipeErrands_yX9_wipeErrands gm_initialized_RX9 gm_code_yX9_wipeErrands_cX9_wipeErrands_3_none) rfl rfl rfl (by decide +kernel) ⟨Nat.le_of_ble_eq_true rfl, Nat.le_of_ble_eq_true rfl⟩) ⟨fun a U g mk q => by obtain ⟨q0, q1, q2, qP, qK, qD, qN⟩ := q; exact ⟨q0, q1, q2, qP, va_K.moved (u := U) (U := U.calling g mk a) (Vm.Alike.refl U.vm) qK, qD, nx_same (u := U) (U := U.calling g mk a) rfl qN⟩, va_recv hK hP (ci := 9) (q0 := 0) rfl hQ.x0, fun U hU hW => ⟨rfl, by rw [hU], by rw [hU], by rw [hU]; exact hP, va_K.moved hW.alike hK, hD.weaken (fun _ _ _ _ => trivial), nx_warm hW hN⟩⟩ rfl rfl hl.1 rfl (lv_room (Nat.le_of_ble_eq_true rfl)) dX9_anew_72 ⟨Nat.le_of_ble_eq_true rfl, Nat.le_of_ble_eq_true rfl⟩) hS (fun q _ h => hFc q h) hFc (fun u_104 t H1 locs ht hvm hw hB hz1 hk1 hS => ?_)
          obtain ⟨ad_105, ga_106, gc_107, M_108, n_109, f_110, T_111, G_112, K_113, F_114⟩ := u_104
          have hB : ∃ w : va_W, va_P (dC, dI) vwCl w t.heap ∧ va_D (va_A ws_95 H.size) w ∧ Pic9 kc w ad ga gc M n_109 f T_18 G K F ∧ I9 M n_109 T_18 gc G K R ∧ hpS t.heap + (260 * M + 2 * S9 M gc) ≤ hpS H + (260 * M + 2 * S9 M gc) ∧ 16 * t.heap.size + (256 * M + S9 M gc) ≤ 16 * H.size + (256 * M + S9 M gc) ∧ (n_94 0).toInt ≤ (n_109 0).toInt := hB
          rw [ht] at hB
          obtain ⟨ws_115, hP, hD, hQ, hI_117, hy1, hy2, hn_116⟩ := hB
          have hD := hD.weaken (fun k q _ h => hFc _ h)
          obtain ⟨i1_118, i2_119, i3_120, i4_121, i5_122, i6_123, i7_124, i8_125, i9_126⟩ := id hI_117
          have q1_ := i1_118
          unfold i1 at q1_
          generalize H1 = H at hP hS ⊢
          have w_127 : (n_109 0).toInt = (n_94 0).toInt := hw
          refine W_msr2 (fun hm1 hm2 hm3 => ?_)
          exact W.vret hx hb hr (fun t ht hW => ⟨⟨(ad, ga, gc, M, n_109, f, T_18, G, K, F), rfl, (by show (n_109 0).toInt = 0; omega), ws_115, by rw [ht]; exact hP, hD, hQ, ⟨i1_118, i2_119, i3_120, i4_121, i5_122, i6_123, i7_124, i8_125, i9_126⟩, by rw [ht]; show hpS H + (260 * M + 2 * S9 M gc) ≤ hpS s.heap + (260 * M + 2 * S9 M gc); omega, by rw [ht]; show 16 * H.size + (256 * M + S9 M gc) ≤ 16 * s.heap.size + (256 * M + S9 M gc); omega⟩, hS.F ht⟩) hS.2.2 dX9_anew_75
      · simp only [i_lt, i_le, i_eq, ti_6] at c_35
        refine lv_aload_n hx hb dX9_anew_18 rfl (lv_at hl 1 rfl) ?_
        refine va_get (D := (dC, dI)) (ci := 9) (v := .ref (ad 41)) (C := RX9) (T := TX9) (N := 15) hx hb hg gb_9 hown hK hP 0 hQ.x0 rfl 6 (by decide) (hg _ gm_fieldLink_RX9_35_ErrandGuild_onThreads_ALErrandGuild_Run_) (fun _ h9 => h9) rfl dX9_anew_19 ?_
        refine lv_iload_n hx hb dX9_anew_22 rfl (lv_at hl 0 rfl) ?_
        refine lv_null hx hb dX9_anew_23 ?_
        refine va_astqN hx hb hK hP hD hS 41 3 hQ.x41 rfl (vp_in_iff.mpr ⟨by omega, by omega⟩) dX9_anew_24 (fun H locs hP hD hS => ?_)
        obtain ⟨ws_129, T_128, eT_128, hP, hD, hQ⟩ : ∃ (ws_129 : va_W) (T_128 : Nat → Option Nat), T_128 = u1 T_18 (Int32.toNatClampNeg x_17) none ∧ va_P (dC, dI) vwCl ws_129 H ∧ va_D A ws_129 ∧ Pic9 kc ws_129 ad ga gc M n_9 f T_128 G K F := ⟨_, _, rfl, hP, hD, hQ.thr (Int32.toNatClampNeg x_17) none⟩
        have i2_130 : i2 M T_128 := by rw [eT_128]; exact i2.pT i2_27 _ (fun _ h => by cases h)
        have i6_131 : i6 n_9 T_128 G := by rw [eT_128]; exact i6.z (by omega)
        obtain ⟨y_132, ey_132⟩ : ∃ q : Int32, q = x_17 + (1) := ⟨_, rfl⟩
        refine lv_iinc (v := y_132) (lv' := [(2, .int y_132), (0, .ref (ad 0)), (1, .int v1)]) hx hb dX9_anew_25 hl (k := 0) rfl (by rw [ey_132]; rfl) (by decide) rfl (fun ls hl => ?_)
        have ty_132 : y_132.toInt = x_17.toInt + (1) := ar_add rfl ti_1 ey_132 (by omega)
        refine lv_goto (tgt := 12) hx hb dX9_anew_28 (by decide) ?_
        exact ih_24 y_132   ws_129 T_128  H locs ls (by show (7 - y_132.toInt).toNat < _; omega) (by show 0 ≤ y_132.toInt ∧ y_132.toInt ≤ 6; omega) (by show (n_9 0).toInt = 0; omega) hQ ⟨i1_26, i2_130, i3_28, i4_29, i5_30, i6_131, i7_32, i8_33, i9_34⟩ hP hD hS (lv_sub hl [0, 1, 2] rfl)
  exact L12 _ (0 : Int32)   ws_10 T  _ _ _ (Nat.lt_succ_self _) (by have t_0 := ti_0; show 0 ≤ (0 : Int32).toInt ∧ (0 : Int32).toInt ≤ 6; omega) (by have t_0 := ti_0; show (n_9 0).toInt = 0; omega) hQ ⟨i1_11, h_i2, h_i3, h_i4, i5_12, i6_13, i7_14, i8_15, h_i9⟩ hP hD hS (lv_sub hl [0, 1, 2] rfl)
