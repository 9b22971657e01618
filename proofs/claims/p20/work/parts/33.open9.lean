set_option maxHeartbeats 8000000 in
set_option maxRecDepth 100000 in
theorem c_X9_openRun_n (l : Launch) (dC : Nat → ClassId) (dI : Nat → Nat → Nat) (kc : Nat → ClassId) (ws : va_W) (ad : Nat → Nat) (ga : Nat → Nat) (gc : Nat → Nat) (M : Nat) (n : Nat → Int32) (f : Nat → Nat → Int32) (T : Nat → Option Nat) (G : Nat → Nat → Int32) (K : Nat → Nat → Option Nat) (F : Nat → Nat → Nat → Int32) (R : Nat) (v1 : Int32) (sz hz : Nat) (hQ : Pic9 kc ws ad ga gc M n f T G K F) (hI : I9 M n f T gc G K F R) (hR : R ≤ 310000) : Met l yX9_openRun (.code yX9_openRun cX9_openRun 5 (some (.object "ErrandGuild$Run")) :: gw) ({ frames := 3, cells := 20, slots := 300, locals := 62 }) (va_Pc [.ref (ad 0), .int v1, .null] (fun U => U.heap.size = sz ∧ hpS U.heap = hz ∧ va_P (dC, dI) vwCl ws U.heap ∧ va_K (dC, dI) vwCl (t9 kc) U ∧ va_D (fun _ => True) ws ∧ nx U)) (va_Qq (fun (r : Option Nat) (u : (Nat → Nat) × (Nat → Nat) × (Nat → Nat) × Nat × (Nat → Int32) × (Nat → Nat → Int32) × (Nat → Option Nat) × (Nat → Nat → Int32) × (Nat → Nat → Option Nat) × (Nat → Nat → Nat → Int32)) => (r = some (u.1 (50 + 16 * (n 0).toInt.toNat)) ∧ (C9.mk u.2.2.2.2.1 f T u.2.2.2.2.2.2.2.1 u.2.2.2.2.2.2.2.2.1 u.2.2.2.2.2.2.2.2.2) = k_openN v1 (C9.mk n f T G K F) ∧ (u.2.2.2.2.1 0).toInt = (n 0).toInt + 1 ∧ S9 u.2.2.2.1 u.2.2.1 + 16 * M ≤ S9 M gc + 16 * u.2.2.2.1 ∧ (∀ a j : Nat, (a : Int) < (n 0).toInt → u.2.2.2.2.2.2.2.2.1 a 3 = some j → (j : Int) < (n 0).toInt)) ∨ (r = none ∧ (C9.mk u.2.2.2.2.1 f T u.2.2.2.2.2.2.2.1 u.2.2.2.2.2.2.2.2.1 u.2.2.2.2.2.2.2.2.2) = k_openN v1 (C9.mk n f T G K F) ∧ (u.2.2.2.2.1 0).toInt = (n 0).toInt ∧ S9 u.2.2.2.1 u.2.2.1 + 16 * M ≤ S9 M gc + 16 * u.2.2.2.1 ∧ 200 ≤ (n 0).toInt)) (fun u t => ∃ w : va_W, va_P (dC, dI) vwCl w t.heap ∧ va_D (va_A ws sz) w ∧ Pic9 kc w u.1 u.2.1 u.2.2.1 u.2.2.2.1 u.2.2.2.2.1 f T u.2.2.2.2.2.2.2.1 u.2.2.2.2.2.2.2.2.1 u.2.2.2.2.2.2.2.2.2 ∧ I9 u.2.2.2.1 u.2.2.2.2.1 f T u.2.2.1 u.2.2.2.2.2.2.2.1 u.2.2.2.2.2.2.2.2.1 u.2.2.2.2.2.2.2.2.2 R ∧ hpS t.heap + (260 * M + 2 * S9 M gc) ≤ hz + (260 * u.2.2.2.1 + 2 * S9 u.2.2.2.1 u.2.2.1) ∧ 16 * t.heap.size + (256 * M + S9 M gc) ≤ 16 * sz + (256 * u.2.2.2.1 + S9 u.2.2.2.1 u.2.2.1) ∧ (n 0).toInt ≤ (u.2.2.2.2.1 0).toInt ∧ (∀ q : Nat, q < 50 + 16 * M → u.1 q = ad q) ∧ M ≤ u.2.2.2.1) (va_A ws sz)) 20 300 (va_A ws sz) := by
  refine Met.ofW (cc := cX9_openRun) (maxL := 5) (ret := (some (.object "ErrandGuild$Run"))) (by decide) rfl ?_
  intro p e s m args below meth c s₁ B hml hv
  obtain ⟨rfl, hsz, rfl, hP, hK, hD0, hN⟩ := hv
  have hx := B.exec
  have hb := B.bytes
  have hr := B.returns
  have hts := atoms_spec (ws := .code yX9_openRun cX9_openRun 5 (some (.object "ErrandGuild$Run")) :: gw) B.pre
  have hg : ∀ w ∈ gw, w.before _ s = true := fun w h => hts w (List.mem_cons_of_mem _ h)
  have hown : s.vm.findClass RX9 = some m.cls := findClass_of_methodNamed B.named
  have hlocks := B.notSynchronized
  subst hsz
  have hD := hD0.self (sz := s.heap.size)
  generalize hAe : va_A ws s.heap.size = A at hD ⊢
  have hA : ∀ q : Nat, s.heap.size ≤ q → A q := fun q h => by rw [← hAe]; exact Or.inr h
  clear hAe
  have hS : va_S A s.heap s.heap [] := va_S.rf
  have hl := lv_entry ([.ref (ad 0), .int v1, .null]) (n := 5) (Nat.le_of_ble_eq_true rfl)
  rw [lg_entry_eq]
  generalize (lg_sl ([.ref (ad 0), .int v1, .null]) ++ List.replicate (5 - (lg_sl ([.ref (ad 0), .int v1, .null])).length) Slot.unset).toArray = ls at hl ⊢
  have hl : lv_has ls 5 [(0, .ref (ad 0)), (1, .int v1), (2, .null)] := hl
  obtain ⟨h_i1, h_i2, h_i3, h_i4, h_i5, h_i6, h_i7, h_i8, h_i9, h_i10, h_i11⟩ := id hI
  have q1_ := h_i1
  unfold i1 at q1_
  have hSl0 := S9_le h_i8 h_i9
  have hb0_ := h_i8.2.1 0 (by omega)
  have hb1_ := h_i8.2.1 1 (by omega)
  have hb2_ := h_i8.2.1 2 (by omega)
  have hr1 : 0 + (260 * M + 2 * S9 M gc) ≤ (260 * M + 2 * S9 M gc) := by omega
  have hr2 : 16 * 0 + (256 * M + S9 M gc) ≤ (256 * M + S9 M gc) := by omega
  obtain ⟨ce, hce⟩ : ∃ q : Nat, q = 0 := ⟨_, rfl⟩
  obtain ⟨se, hse⟩ : ∃ q : Nat, q = 0 := ⟨_, rfl⟩
  rw [← hse] at hr1
  have hr2 : 16 * ce + (256 * M + S9 M gc) ≤ (256 * M + S9 M gc) := by omega
  refine W.widen (k := ce) (n := se) (Nat.zero_le _) (Nat.zero_le _) ?_
  exact by
   refine lv_aload_n hx hb dX9_openRun_0 rfl (lv_at hl 0 rfl) ?_
   refine va_get (D := (dC, dI)) (ci := 9) (v := .int (n 0)) (C := RX9) (T := TX9) (N := 15) hx hb hg gb_9 hown hK hP 0 hQ.x0 rfl 5 (by decide) (hg _ gm_fieldLink_RX9_66_ErrandGuild_runCount_I_) (fun _ h9 => h9) rfl dX9_openRun_1 ?_
   refine lv_if_lt (tgt := 17) hx hb dX9_openRun_4 (by decide) (fun c_1 => ?_) (fun c_1 => ?_)
   · simp only [i_lt, i_le, i_eq, ti_0] at c_1
     refine lv_null hx hb dX9_openRun_17 ?_
     refine W_msr2 (fun hm1 hm2 hm3 => ?_)
     have hSl := S9_le h_i8 h_i9
     have hb0_ := h_i8.2.1 0 (by omega)
     have hb1_ := h_i8.2.1 1 (by omega)
     have hb2_ := h_i8.2.1 2 (by omega)
     refine W.widen (k := 20) (n := 300) (by omega) (by omega) ?_
     exact W.aret (v := .null) hx hb hr (Or.inl ⟨_, rfl⟩) (Or.inl rfl) (fun t ht hW => ⟨⟨none, (ad, ga, gc, M, n, f, T, G, K, F), rfl, (Or.inr ⟨rfl, ⟨(by show (C9.mk n f T G K F) = k_openN v1 (C9.mk n f T G K F); have hX := (k_openN.eq_1 v1 (C9.mk n f T G K F)).symm; (repeat (first | dsimp +instances only [c9n, c9f, c9T, c9G, c9K, c9F, b_come, b_leave, b_fill, awB, b_settle, b_wake, b_take, f_take, b_gather, f_gather, b_ask, a_ask, b_tell, c_close, d_close, k_add, k_rem, sco, k_clrF, k_mem, k_rebind, k_bnd, k_beg0, k_beg1, b_giveN, b_giveR, f_open, b_hand, k_op, b_turn, wlB, b_beat, f_anew, b_wipe, b_off, k_sadd, fits, frP, cntB, b_trace, b_child, k_lat, cond_true, cond_false, Option.elim_none, Option.elim_some, Option.getD_none, Option.getD_some] at hX | rw [if_pos (by first | with_reducible assumption | omega)] at hX | rw [if_neg (by first | with_reducible assumption | omega)] at hX | rw [jx_of (by omega)] at hX)); first | exact hX | (exfalso; omega) | exact hX), ⟨by show (n 0).toInt = (n 0).toInt; omega, by show S9 M gc + 16 * M ≤ S9 M gc + 16 * M; omega, by omega⟩⟩⟩), ws, by rw [ht]; exact hP, hD, hQ, ⟨h_i1, h_i2, h_i3, h_i4, h_i5, h_i6, h_i7, h_i8, h_i9, h_i10, h_i11⟩, by rw [ht]; show hpS s.heap + (260 * M + 2 * S9 M gc) ≤ hpS s.heap + (260 * M + 2 * S9 M gc); omega, by rw [ht]; show 16 * s.heap.size + (256 * M + S9 M gc) ≤ 16 * s.heap.size + (256 * M + S9 M gc); omega, by show (n 0).toInt ≤ (n 0).toInt; omega, (fun _ _ => rfl), by show M ≤ M; omega⟩, hS.F ht⟩) hS.2.2 dX9_openRun_18
   · simp only [i_lt, i_le, i_eq, ti_0] at c_1
     exact by
      refine lv_aload_n hx hb dX9_openRun_7 rfl (lv_at hl 0 rfl) ?_
      refine va_get (D := (dC, dI)) (ci := 9) (v := .int (n 0)) (C := RX9) (T := TX9) (N := 15) hx hb hg gb_9 hown hK hP 0 hQ.x0 rfl 5 (by decide) (hg _ gm_fieldLink_RX9_66_ErrandGuild_runCount_I_) (fun _ h9 => h9) rfl dX9_openRun_8 ?_
      refine lv_sipush (v := 200) hx hb dX9_openRun_11 (by decide) ?_
      refine lv_icmp_lt (tgt := 19) hx hb dX9_openRun_14 (by decide) (fun c_2 => ?_) (fun c_2 => ?_)
      · simp only [i_lt, i_le, i_eq, ti_200] at c_2
        refine lv_aload_n hx hb dX9_openRun_19 rfl (lv_at hl 0 rfl) ?_
        refine va_get (D := (dC, dI)) (ci := 9) (v := .ref (ad 40)) (C := RX9) (T := TX9) (N := 15) hx hb hg gb_9 hown hK hP 0 hQ.x0 rfl 4 (by decide) (hg _ gm_fieldLink_RX9_31_ErrandGuild_runs_ALErrandGuild_Run_) (fun _ h9 => h9) rfl dX9_openRun_20 ?_
        refine lv_aload_n hx hb dX9_openRun_23 rfl (lv_at hl 0 rfl) ?_
        refine va_get (D := (dC, dI)) (ci := 9) (v := .int (n 0)) (C := RX9) (T := TX9) (N := 15) hx hb hg gb_9 hown hK hP 0 hQ.x0 rfl 5 (by decide) (hg _ gm_fieldLink_RX9_66_ErrandGuild_runCount_I_) (fun _ h9 => h9) rfl dX9_openRun_24 ?_
        refine va_aldq hx hb hK hP 40 3 hQ.x40 rfl (vp_in_iff.mpr ⟨by omega, by omega⟩) dX9_openRun_27 ?_
        by_cases hrc : (n 0).toInt.toNat < M
        · refine W.eq (g2 := F0 m 28 ls [.ref (ad (50 + 16 * ((n 0).toInt.toNat)))]) (by rw [cl_eq, rnA_in hrc]; rfl) ?_
          exact by
           refine lv_astore_n (lv' := [(3, .ref (ad (50 + 16 * ((n 0).toInt.toNat)))), (0, .ref (ad 0)), (1, .int v1), (2, .null)]) hx hb dX9_openRun_28 rfl hl (by decide) rfl (fun ls hl => ?_)
           refine lv_aload_n hx hb dX9_openRun_29 rfl (lv_at hl 0 rfl) ?_
           refine lv_ifnonnull (tgt := 55) hx hb dX9_openRun_30 (by decide) ?_
           refine lv_aload_n hx hb dX9_openRun_55 rfl (lv_at hl 0 rfl) ?_
           refine lv_iload_n hx hb dX9_openRun_56 rfl (lv_at hl 2 rfl) ?_
           refine lv_aload_nN hx hb dX9_openRun_57 rfl (lv_at hl 3 rfl) ?_
           have hFc := free_all hD hS hA
           refine W_msr2 (fun hm1 hm2 hm3 => ?_)
           refine va_callv (va_runV (As := [.int v1, .null]) (rest := []) ⟨hx, hb, hml, hown, hg⟩ (c_X7_begin_n l dC dI kc ws ad ga gc M n f T G K F R ((n 0).toInt.toNat) v1 s.heap.size (hpS s.heap) hQ ⟨h_i1, h_i2, h_i3, h_i4, h_i5, h_i6, h_i7, h_i8, h_i9, h_i10, h_i11⟩ (by show ((n 0).toInt.toNat) < M; omega)) (cwV 2 hg (gw_V gm_methodLink_RX9_369_yX7_begin gm_instanceMethod_yX7_begin gm_selects_RX7_yX7_begin_yX7_begin gm_initialized_RX7 gm_code_yX7_begin_cX7_begin_3_none) rfl rfl rfl (by decide +kernel) ⟨Nat.le_of_ble_eq_true rfl, Nat.le_of_ble_eq_true rfl⟩) ⟨fun a U g mk q => by obtain ⟨q0, q1, q2, qP, qK, qD, qN⟩ := q; exact ⟨q0, q1, q2, qP, va_K.moved (u := U) (U := U.calling g mk a) (Vm.Alike.refl U.vm) qK, qD, nx_same (u := U) (U := U.calling g mk a) rfl qN⟩, va_recv hK hP (ci := 7) (q0 := (50 + 16 * ((n 0).toInt.toNat))) rfl (hQ.b0 hrc), fun U hU hW => ⟨rfl, by rw [hU], by rw [hU], by rw [hU]; exact hP, va_K.moved hW.alike hK, hD.weaken (fun _ _ _ _ => trivial), nx_warm hW hN⟩⟩ rfl rfl hl.1 rfl (lv_room (Nat.le_of_ble_eq_true rfl)) dX9_openRun_58 ⟨by show ce + 0 ≤ 20; omega, by show se + 0 ≤ 300; omega⟩) hS (fun q _ h => hFc q h) hFc (fun u_4 t H1 locs ht hvm hw hB hz1 hk1 hS => ?_)
           obtain ⟨ad_5, ga_6, gc_7, M_8, n_9, f_10, T_11, G_12, K_13, F_14⟩ := u_4
           have hB : ∃ w : va_W, va_P (dC, dI) vwCl w t.heap ∧ va_D (va_A ws s.heap.size) w ∧ Pic9 kc w ad ga gc M n f T G_12 K_13 F_14 ∧ I9 M n f T gc G_12 K_13 F_14 R ∧ hpS t.heap + (260 * M + 2 * S9 M gc) ≤ hpS s.heap + (260 * M + 2 * S9 M gc) ∧ 16 * t.heap.size + (256 * M + S9 M gc) ≤ 16 * s.heap.size + (256 * M + S9 M gc) := hB
           rw [ht] at hB
           obtain ⟨ws_15, hP, hD, hQ, hI_16, hy1, hy2⟩ := hB
           have hD := hD.weaken (fun k q _ h => hFc _ h)
           obtain ⟨i1_17, i2_18, i3_19, i4_20, i5_21, i6_22, i7_23, i8_24, i9_25, i10_26, i11_27⟩ := id hI_16
           have q1_ := i1_17
           unfold i1 at q1_
           have hSl := S9_le i8_24 i9_25
           have hb0_ := i8_24.2.1 0 (by omega)
           have hb1_ := i8_24.2.1 1 (by omega)
           have hb2_ := i8_24.2.1 2 (by omega)
           refine W_msr2 (fun hn1 hn2 hn3 => ?_)
           obtain ⟨ce2, se2, hk3, hk4, hr1, hr2⟩ : ∃ c2 s2 : Nat, H1.size ≤ s.heap.size + c2 ∧ hpS H1 ≤ hpS s.heap + s2 ∧ s2 + (260 * M + 2 * S9 M gc) ≤ (260 * M + 2 * S9 M gc) ∧ 16 * c2 + (256 * M + S9 M gc) ≤ (256 * M + S9 M gc) := ⟨H1.size - s.heap.size, hpS H1 - hpS s.heap, by omega, by omega, by have := hS.1; omega, by have := hS.1; omega⟩
           refine W_tightP hk3 hk4 ?_
           clear hm1 hm2 hm3 hn1 hn2 hn3 hk3 hk4
           clear hk1 hz1
           generalize ce2 = ce, se2 = se at hr1 hr2 ⊢
           generalize H1 = H at hP hS ⊢
           have hc_29 : (C9.mk n f T G_12 K_13 F_14) = k_begN ((n 0).toInt.toNat) v1 (C9.mk n f T G K F) := hw.1
           have w_28 : (G_12 ((n 0).toInt.toNat) 2).toInt = 0 ∧ (G_12 ((n 0).toInt.toNat) 3).toInt = -1 ∧ K_13 ((n 0).toInt.toNat) 3 = none ∧ (∀ a : Nat, a ≠ ((n 0).toInt.toNat) → K_13 a = K a) := hw.2
           exact by
            refine lv_iconst (v := 0) hx hb dX9_openRun_61 (by decide) ?_
            refine lv_istore (lv' := [(4, .int 0), (3, .ref (ad (50 + 16 * ((n 0).toInt.toNat)))), (0, .ref (ad 0)), (1, .int v1), (2, .null)]) hx hb dX9_openRun_62 hl (by decide) rfl (fun ls hl => ?_)
            have L64 : ∀ (fuel : Nat) (x_30 : Int32)   (ws_32 : va_W) (F_31 : Nat → Nat → Nat → Int32) (ce se : Nat) (H : Heap) (locs : List Loc) (ls : Array Slot), (9 - x_30.toInt).toNat < fuel → (0 ≤ x_30.toInt ∧ x_30.toInt ≤ 8) → (itr (b_giveN (n 0).toInt.toNat) f_open x_30.toInt.toNat (8 - x_30.toInt.toNat) (C9.mk n f T G_12 K_13 F_31) = k_openN v1 (C9.mk n f T G K F)) → Pic9 kc ws_32 ad ga gc M n f T G_12 K_13 F_31 → I9 M n f T gc G_12 K_13 F_31 R → (se + (260 * M + 2 * S9 M gc) ≤ (260 * M + 2 * S9 M gc)) → (16 * ce + (256 * M + S9 M gc) ≤ (256 * M + S9 M gc)) → va_P (dC, dI) vwCl ws_32 H → va_D A ws_32 → va_S A s.heap H locs → lv_has ls 5 [(4, .int x_30), (3, .ref (ad (50 + 16 * ((n 0).toInt.toNat)))), (0, .ref (ad 0)), (1, .int v1), (2, .null)] → W p l e (headSpec (.code yX9_openRun cX9_openRun 5 (some (.object "ErrandGuild$Run")) :: gw) ({ frames := 3, cells := 20, slots := 300, locals := 62 })).room s m ([.ref (ad 0), .int v1, .null] : List Value).toArray below meth c H locs ce se (MQ below (va_Qq (fun (r : Option Nat) (u : (Nat → Nat) × (Nat → Nat) × (Nat → Nat) × Nat × (Nat → Int32) × (Nat → Nat → Int32) × (Nat → Option Nat) × (Nat → Nat → Int32) × (Nat → Nat → Option Nat) × (Nat → Nat → Nat → Int32)) => (r = some (u.1 (50 + 16 * (n 0).toInt.toNat)) ∧ (C9.mk u.2.2.2.2.1 f T u.2.2.2.2.2.2.2.1 u.2.2.2.2.2.2.2.2.1 u.2.2.2.2.2.2.2.2.2) = k_openN v1 (C9.mk n f T G K F) ∧ (u.2.2.2.2.1 0).toInt = (n 0).toInt + 1 ∧ S9 u.2.2.2.1 u.2.2.1 + 16 * M ≤ S9 M gc + 16 * u.2.2.2.1 ∧ (∀ a j : Nat, (a : Int) < (n 0).toInt → u.2.2.2.2.2.2.2.2.1 a 3 = some j → (j : Int) < (n 0).toInt)) ∨ (r = none ∧ (C9.mk u.2.2.2.2.1 f T u.2.2.2.2.2.2.2.1 u.2.2.2.2.2.2.2.2.1 u.2.2.2.2.2.2.2.2.2) = k_openN v1 (C9.mk n f T G K F) ∧ (u.2.2.2.2.1 0).toInt = (n 0).toInt ∧ S9 u.2.2.2.1 u.2.2.1 + 16 * M ≤ S9 M gc + 16 * u.2.2.2.1 ∧ 200 ≤ (n 0).toInt)) (fun u t => ∃ w : va_W, va_P (dC, dI) vwCl w t.heap ∧ va_D A w ∧ Pic9 kc w u.1 u.2.1 u.2.2.1 u.2.2.2.1 u.2.2.2.2.1 f T u.2.2.2.2.2.2.2.1 u.2.2.2.2.2.2.2.2.1 u.2.2.2.2.2.2.2.2.2 ∧ I9 u.2.2.2.1 u.2.2.2.2.1 f T u.2.2.1 u.2.2.2.2.2.2.2.1 u.2.2.2.2.2.2.2.2.1 u.2.2.2.2.2.2.2.2.2 R ∧ hpS t.heap + (260 * M + 2 * S9 M gc) ≤ (hpS s.heap) + (260 * u.2.2.2.1 + 2 * S9 u.2.2.2.1 u.2.2.1) ∧ 16 * t.heap.size + (256 * M + S9 M gc) ≤ 16 * s.heap.size + (256 * u.2.2.2.1 + S9 u.2.2.2.1 u.2.2.1) ∧ (n 0).toInt ≤ (u.2.2.2.2.1 0).toInt ∧ (∀ q : Nat, q < 50 + 16 * M → u.1 q = ad q) ∧ M ≤ u.2.2.2.1) A) ([.ref (ad 0), .int v1, .null] : List Value).toArray s 20 300 A) (F0 m 64 ls []) := by
              intro fuel
              induction fuel with
              | zero => intro x_30 ws_32 F_31 ce se H locs ls hm; exact absurd hm (Nat.not_lt_zero _)
              | succ fuel_38 ih_37 =>
                intro x_30 ws_32 F_31 ce se H locs ls hm_33 v_34 v_35 hQ hI_36 hr1 hr2 hP hD hS hl
                obtain ⟨i1_39, i2_40, i3_41, i4_42, i5_43, i6_44, i7_45, i8_46, i9_47, i10_48, i11_49⟩ := id hI_36
                have q1_ := i1_39
                unfold i1 at q1_
                have hSl := S9_le i8_46 i9_47
                have hb0_ := i8_46.2.1 0 (by omega)
                have hb1_ := i8_46.2.1 1 (by omega)
                have hb2_ := i8_46.2.1 2 (by omega)
                exact by
                 refine lv_iload hx hb dX9_openRun_64 (lv_at hl 0 rfl) ?_
                 refine lv_bipush (v := 8) hx hb dX9_openRun_66 (by decide) ?_
                 refine lv_icmp_ge (tgt := 107) hx hb dX9_openRun_68 (by decide) (fun c_50 => ?_) (fun c_50 => ?_)
                 · simp only [i_lt, i_le, i_eq, ti_8] at c_50
                   refine lv_aload_n hx hb dX9_openRun_107 rfl (lv_at hl 2 rfl) ?_
                   refine lv_dup hx hb dX9_openRun_108 rfl ?_
                   refine va_get (D := (dC, dI)) (ci := 9) (v := .int (n 0)) (C := RX9) (T := TX9) (N := 15) hx hb hg gb_9 hown hK hP 0 hQ.x0 rfl 5 (by decide) (hg _ gm_fieldLink_RX9_66_ErrandGuild_runCount_I_) (fun _ h9 => h9) rfl dX9_openRun_109 ?_
                   refine lv_iconst (v := 1) hx hb dX9_openRun_112 (by decide) ?_
                   refine lv_iadd hx hb dX9_openRun_113 ?_
                   refine lv_topi (fun z_51 ez_51 => ?_)
                   have tz_51 : z_51.toInt = (n 0).toInt + 1 := ar_add rfl ti_1 ez_51 (by omega)
                   refine va_put (D := (dC, dI)) (ci := 9) (v := .int (z_51)) (ty := .int) (C := RX9) (T := TX9) (N := 15) hx hb hg gb_9 tyX9 tyX9_ok nmX9 hown hK hP hD hS 0 hQ.x0 rfl 5 (by decide) (hg _ gm_fieldLink_RX9_66_ErrandGuild_runCount_I_) (fun _ h9 => h9) rfl (by decide +kernel) rfl rfl (Nat.le_of_ble_eq_true rfl) dX9_openRun_114 (fun H locs hP hD hS => ?_)
                   obtain ⟨ws_53, n_52, en_52, hP, hD, hQ⟩ : ∃ (ws_53 : va_W) (n_52 : Nat → Int32), n_52 = u1 n 0 z_51 ∧ va_P (dC, dI) vwCl ws_53 H ∧ va_D A ws_53 ∧ Pic9 kc ws_53 ad ga gc M n_52 f T G_12 K_13 F_31 := ⟨_, _, rfl, hP, hD, hQ.x9 0 5 (by decide) z_51⟩
                   have i1_54 : i1 M n_52 := by rw [en_52]; exact i1.inc i1_39 (by omega) (by omega)
                   have i5_55 : i5 n_52 K_13 := by rw [en_52]; exact i5.inc (a := (n 0).toInt.toNat) i5_43 (by omega) (by omega) w_28.2.2.1
                   have i6_56 : i6 n_52 T G_12 := by rw [en_52]; exact i6.inc (a := (n 0).toInt.toNat) i6_44 (by omega) (by omega) w_28.2.1
                   have i7_57 : i7 n_52 G_12 := by rw [en_52]; exact i7.inc (a := (n 0).toInt.toNat) i7_45 (by omega) (by omega) w_28.1
                   have i8_58 : i8 M n_52 gc G_12 := by rw [en_52]; exact (i8.pn i8_46 _ (by decide))
                   have i11_59 : i11 M n_52 gc f G_12 F_31 := by rw [en_52]; exact (i11.pn i11_49 _ (by decide))
                   have hn_60 : n_52 0 = z_51 := by rw [en_52]; exact u1_eq _ _ _
                   have thn_60 : (n_52 0).toInt = z_51.toInt := by rw [hn_60]
                   exact by
                    refine lv_aload_n hx hb dX9_openRun_117 rfl (lv_at hl 1 rfl) ?_
                    refine W_msr2 (fun hm1 hm2 hm3 => ?_)
                    have hSl := S9_le i8_58 i9_47
                    have hb0_ := i8_58.2.1 0 (by omega)
                    have hb1_ := i8_58.2.1 1 (by omega)
                    have hb2_ := i8_58.2.1 2 (by omega)
                    refine W.widen (k := 20) (n := 300) (by omega) (by omega) ?_
                    exact W.aret (v := .ref (ad (50 + 16 * ((n 0).toInt.toNat)))) hx hb hr (Or.inl ⟨_, rfl⟩) (Or.inr ⟨_, rfl⟩) (fun t ht hW => ⟨⟨some (ad (50 + 16 * ((n 0).toInt.toNat))), (ad, ga, gc, M, n_52, f, T, G_12, K_13, F_31), rfl, (Or.inl ⟨rfl, ⟨(by show (C9.mk n_52 f T G_12 K_13 F_31) = k_openN v1 (C9.mk n f T G K F); subst en_52; subst ez_51; have hX := v_35; (first | rw [itr_go (by omega)] at hX | rw [itr_end (by omega)] at hX); (repeat (first | dsimp +instances only [c9n, c9f, c9T, c9G, c9K, c9F, b_come, b_leave, b_fill, awB, b_settle, b_wake, b_take, f_take, b_gather, f_gather, b_ask, a_ask, b_tell, c_close, d_close, k_add, k_rem, sco, k_clrF, k_mem, k_rebind, k_bnd, k_beg0, k_beg1, b_giveN, b_giveR, f_open, b_hand, k_op, b_turn, wlB, b_beat, f_anew, b_wipe, b_off, k_sadd, fits, frP, cntB, b_trace, b_child, k_lat, cond_true, cond_false, Option.elim_none, Option.elim_some, Option.getD_none, Option.getD_some] at hX | rw [if_pos (by first | with_reducible assumption | omega)] at hX | rw [if_neg (by first | with_reducible assumption | omega)] at hX | rw [jx_of (by omega)] at hX)); first | exact hX | (exfalso; omega) | exact hX), ⟨by show (n_52 0).toInt = (n 0).toInt + 1; omega, by show S9 M gc + 16 * M ≤ S9 M gc + 16 * M; omega, fun a j ha hj => h_i5 a j ha (by have hj : K_13 a 3 = some j := hj; rw [w_28.2.2.2 a (by omega)] at hj; exact hj)⟩⟩⟩), ws_53, by rw [ht]; exact hP, hD, hQ, ⟨i1_54, i2_40, i3_41, i4_42, i5_55, i6_56, i7_57, i8_58, i9_47, i10_48, i11_59⟩, by rw [ht]; show hpS H + (260 * M + 2 * S9 M gc) ≤ hpS s.heap + (260 * M + 2 * S9 M gc); omega, by rw [ht]; show 16 * H.size + (256 * M + S9 M gc) ≤ 16 * s.heap.size + (256 * M + S9 M gc); omega, by show (n 0).toInt ≤ (n_52 0).toInt; omega, (fun _ _ => rfl), by show M ≤ M; omega⟩, hS.F ht⟩) hS.2.2 dX9_openRun_118
                 · simp only [i_lt, i_le, i_eq, ti_8] at c_50
                   refine lv_aload_n hx hb dX9_openRun_71 rfl (lv_at hl 1 rfl) ?_
                   refine va_get (D := (dC, dI)) (ci := 7) (v := .ref (ad (50 + 16 * ((n 0).toInt.toNat) + 2))) (C := RX7) (T := TX7) (N := 15) hx hb hg gb_7 hown hK hP (50 + 16 * ((n 0).toInt.toNat)) (hQ.b0 hrc) rfl 11 (by decide) (hg _ gm_fieldLink_RX9_253_ErrandGuild_Run_memory_LErrandGuild_Memory_) (fun _ h9 => h9) rfl dX9_openRun_72 ?_
                   refine lv_iload hx hb dX9_openRun_75 (lv_at hl 0 rfl) ?_
                   refine lv_aload_nN hx hb dX9_openRun_77 rfl (lv_at hl 4 rfl) ?_
                   refine lv_ifnonnullN hx hb dX9_openRun_78 ?_
                   refine lv_aload_n hx hb dX9_openRun_81 rfl (lv_at hl 2 rfl) ?_
                   refine va_get (D := (dC, dI)) (ci := 9) (v := .ref (ad 2)) (C := RX9) (T := TX9) (N := 15) hx hb hg gb_9 hown hK hP 0 hQ.x0 rfl 1 (by decide) (hg _ gm_fieldLink_RX9_13_ErrandGuild_firsts_AI_) (fun _ h9 => h9) rfl dX9_openRun_82 ?_
                   refine lv_iload hx hb dX9_openRun_85 (lv_at hl 0 rfl) ?_
                   refine va_iald (f := f 1) hx hb hK hP 2 0 hQ.x2 rfl (vp_in_iff.mpr ⟨by omega, by omega⟩) dX9_openRun_87 ?_
                   refine lv_topi (fun z_61 ez_61 => ?_)
                   have ez_61 : z_61 = f 1 x_30.toInt.toNat := ez_61
                   have qz_61 := congrArg Int32.toInt ez_61
                   exact by
                    refine lv_goto (tgt := 98) hx hb dX9_openRun_88 (by decide) ?_
                    have hCc : ([(50 + 16 * ((n 0).toInt.toNat) + 2), (50 + 16 * ((n 0).toInt.toNat) + 5)] : List Nat).map (fun i => ws_32[i]?) = ([(ad (50 + 16 * ((n 0).toInt.toNat) + 2), .inr (6, [.ref (ad (50 + 16 * ((n 0).toInt.toNat) + 3)), .ref (ad (50 + 16 * ((n 0).toInt.toNat) + 4)), .ref (ad (50 + 16 * ((n 0).toInt.toNat) + 5))])), (ad (50 + 16 * ((n 0).toInt.toNat) + 5), .inl (kc 0, 8, .inl (F_31 ((n 0).toInt.toNat) 2)))] : va_W).map some := mp2 (hQ.b2 hrc) (hQ.b5 hrc)
                    have hNd : ([(50 + 16 * ((n 0).toInt.toNat) + 2), (50 + 16 * ((n 0).toInt.toNat) + 5)] : List Nat).Nodup := (nd_off (50 + 16 * ((n 0).toInt.toNat)) (l := [2, 5]) (by decide))
                    have hPc := hP.pick [(50 + 16 * ((n 0).toInt.toNat) + 2), (50 + 16 * ((n 0).toInt.toNat) + 5)] hCc
                    have hDc := hD.pick [(50 + 16 * ((n 0).toInt.toNat) + 2), (50 + 16 * ((n 0).toInt.toNat) + 5)] hNd hCc
                    have hKc := hK.sub (tys' := [((kc 0), .int)]) [0] rfl
                    have hFc := va_free (wc := [(ad (50 + 16 * ((n 0).toInt.toNat) + 2), .inr (6, [.ref (ad (50 + 16 * ((n 0).toInt.toNat) + 3)), .ref (ad (50 + 16 * ((n 0).toInt.toNat) + 4)), .ref (ad (50 + 16 * ((n 0).toInt.toNat) + 5))])), (ad (50 + 16 * ((n 0).toInt.toNat) + 5), .inl (kc 0, 8, .inl (F_31 ((n 0).toInt.toNat) 2)))]) hD hS hA [(50 + 16 * ((n 0).toInt.toNat) + 2), (50 + 16 * ((n 0).toInt.toNat) + 5)] hCc
                    refine W_msr2 (fun hm1 hm2 hm3 => ?_)
                    refine va_callv (va_runV (As := [.int x_30, .int z_61]) (rest := []) ⟨hx, hb, hml, hown, hg⟩ (c_X6_give l dC dI (ad (50 + 16 * ((n 0).toInt.toNat) + 2)) (ad (50 + 16 * ((n 0).toInt.toNat) + 3)) (ad (50 + 16 * ((n 0).toInt.toNat) + 4)) (ad (50 + 16 * ((n 0).toInt.toNat) + 5)) (kc 0) (F_31 ((n 0).toInt.toNat) 2) x_30 z_61 H.size ) (cwV 2 hg (gw_V gm_methodLink_RX9_373_yX6_give gm_instanceMethod_yX6_give gm_selects_RX6_yX6_give_yX6_give gm_initialized_RX6 gm_code_yX6_give_cX6_give_3_none) rfl rfl rfl (by decide +kernel) ⟨Nat.le_of_ble_eq_true rfl, Nat.le_of_ble_eq_true rfl⟩) ⟨fun a U g mk q => by obtain ⟨q0, q1, qP, qK, qD, qN⟩ := q; exact ⟨q0, q1, qP, va_K.moved (u := U) (U := U.calling g mk a) (Vm.Alike.refl U.vm) qK, qD, nx_same (u := U) (U := U.calling g mk a) rfl qN⟩, va_recv hK hP (ci := 6) (q0 := (50 + 16 * ((n 0).toInt.toNat) + 2)) rfl (hQ.b2 hrc), fun U hU hW => ⟨rfl, by rw [hU], by rw [hU]; exact hPc, va_K.moved hW.alike hKc, hDc.weaken (fun _ _ _ _ => trivial), nx_warm hW hN⟩⟩ rfl rfl hl.1 rfl (lv_room (Nat.le_of_ble_eq_true rfl)) dX9_openRun_98 ⟨by show ce + 0 ≤ 20; omega, by show se + 0 ≤ 300; omega⟩) hS (fun q _ h => hFc q h) hFc (fun u_63 t H1 locs ht hvm hw hB hz1 hk1 hS => ?_)
                    obtain ⟨ad_64, ac_65, af_66, ag_67⟩ := u_63
                    obtain ⟨hP1, hD1, hK1, qe_68⟩ := hB
                    rw [ht] at hP1
                    have hP1 : va_P (dC, dI) vwCl [((ad (50 + 16 * ((n 0).toInt.toNat) + 2)), .inr (6, [.ref (ad (50 + 16 * ((n 0).toInt.toNat) + 3)), .ref (ad (50 + 16 * ((n 0).toInt.toNat) + 4)), .ref (ad (50 + 16 * ((n 0).toInt.toNat) + 5))])), ((ad (50 + 16 * ((n 0).toInt.toNat) + 5)), .inl ((kc 0), 8, .inl (af_66 2)))] H1 := hP1
                    have hD1 : va_D _ [((ad (50 + 16 * ((n 0).toInt.toNat) + 2)), .inr (6, [.ref (ad (50 + 16 * ((n 0).toInt.toNat) + 3)), .ref (ad (50 + 16 * ((n 0).toInt.toNat) + 4)), .ref (ad (50 + 16 * ((n 0).toInt.toNat) + 5))])), ((ad (50 + 16 * ((n 0).toInt.toNat) + 5)), .inl ((kc 0), 8, .inl (af_66 2)))] := hD1
                    have qe_68 : (af_66 2) = st8 (F_31 ((n 0).toInt.toNat) 2) x_30 z_61 := qe_68
                    rw [qe_68] at hP1 hD1
                    obtain ⟨hP, hD⟩ := va_repl (w1 := [((ad (50 + 16 * ((n 0).toInt.toNat) + 2)), .inr (6, [.ref (ad (50 + 16 * ((n 0).toInt.toNat) + 3)), .ref (ad (50 + 16 * ((n 0).toInt.toNat) + 4)), .ref (ad (50 + 16 * ((n 0).toInt.toNat) + 5))])), ((ad (50 + 16 * ((n 0).toInt.toNat) + 5)), .inl ((kc 0), 8, .inl (st8 (F_31 ((n 0).toInt.toNat) 2) x_30 z_61)))]) hP hD [(50 + 16 * ((n 0).toInt.toNat) + 2), (50 + 16 * ((n 0).toInt.toNat) + 5)] hCc hNd rfl hk1 hFc hP1 hD1
                    obtain ⟨ws_70, F_69, eF_69, hP, hD, hQ⟩ : ∃ (ws_70 : va_W) (F_69 : Nat → Nat → Nat → Int32), F_69 = u2 F_31 ((n 0).toInt.toNat) 2 (st8 (F_31 ((n 0).toInt.toNat) 2) x_30 z_61) ∧ va_P (dC, dI) vwCl ws_70 H1 ∧ va_D A ws_70 ∧ Pic9 kc ws_70 ad ga gc M n f T G_12 K_13 F_69 := ⟨_, _, rfl, hP, hD, (hQ.same (hQ.b2 hrc)).arr hrc 5 2 (by decide) (st8 (F_31 ((n 0).toInt.toNat) 2) x_30 z_61) rfl⟩
                    have i10_71 : i10 M G_12 K_13 F_69 := by rw [eF_69]; exact (i10.pF i10_48 hrc _ _)
                    have i11_72 : i11 M n gc f G_12 F_69 := by rw [eF_69]; exact (i11.pF i11_49 ((n 0).toInt.toNat) _ (by decide))
                    refine W.widen (k := ce) (n := se) (Nat.le_refl _) (Nat.le_refl _) ?_
                    generalize H1 = H at hP hS ⊢
                    obtain ⟨y_73, ey_73⟩ : ∃ q : Int32, q = x_30 + (1) := ⟨_, rfl⟩
                    exact by
                     refine lv_iinc (v := y_73) (lv' := [(4, .int y_73), (3, .ref (ad (50 + 16 * ((n 0).toInt.toNat)))), (0, .ref (ad 0)), (1, .int v1), (2, .null)]) hx hb dX9_openRun_101 hl (k := 0) rfl (by rw [ey_73]; rfl) (by decide) rfl (fun ls hl => ?_)
                     have ty_73 : y_73.toInt = x_30.toInt + (1) := ar_add rfl ti_1 ey_73 (by omega)
                     refine lv_goto (tgt := 64) hx hb dX9_openRun_104 (by decide) ?_
                     exact ih_37 y_73   ws_70 F_69 ce se H locs ls (by show (9 - y_73.toInt).toNat < _; omega) (by show 0 ≤ y_73.toInt ∧ y_73.toInt ≤ 8; omega) (by show itr (b_giveN (n 0).toInt.toNat) f_open y_73.toInt.toNat (8 - y_73.toInt.toNat) (C9.mk n f T G_12 K_13 F_69) = k_openN v1 (C9.mk n f T G K F); subst ez_61; subst eF_69; have hX := v_35; (first | rw [itr_go (by omega)] at hX | rw [itr_end (by omega)] at hX); (repeat (first | dsimp +instances only [c9n, c9f, c9T, c9G, c9K, c9F, b_come, b_leave, b_fill, awB, b_settle, b_wake, b_take, f_take, b_gather, f_gather, b_ask, a_ask, b_tell, c_close, d_close, k_add, k_rem, sco, k_clrF, k_mem, k_rebind, k_bnd, k_beg0, k_beg1, b_giveN, b_giveR, f_open, b_hand, k_op, b_turn, wlB, b_beat, f_anew, b_wipe, b_off, k_sadd, fits, frP, cntB, b_trace, b_child, k_lat, cond_true, cond_false, Option.elim_none, Option.elim_some, Option.getD_none, Option.getD_some] at hX | rw [if_pos (by first | with_reducible assumption | omega)] at hX | rw [if_neg (by first | with_reducible assumption | omega)] at hX | rw [jx_of (by omega)] at hX)); (rw [show y_73.toInt.toNat = x_30.toInt.toNat + 1 by omega]); first | exact hX | (exfalso; omega) | exact hX) hQ ⟨i1_39, i2_40, i3_41, i4_42, i5_43, i6_44, i7_45, i8_46, i9_47, i10_71, i11_72⟩ hr1 hr2 hP hD hS (lv_sub hl [0, 1, 2, 3, 4] rfl)
            exact L64 _ (0 : Int32)   ws_15 F_14 ce se _ _ _ (Nat.lt_succ_self _) (by have t_0 := ti_0; show 0 ≤ (0 : Int32).toInt ∧ (0 : Int32).toInt ≤ 8; omega) (by show itr (b_giveN (n 0).toInt.toNat) f_open (0 : Int32).toInt.toNat (8 - (0 : Int32).toInt.toNat) (C9.mk n f T G_12 K_13 F_14) = k_openN v1 (C9.mk n f T G K F); have hX := (k_openN.eq_1 v1 (C9.mk n f T G K F)).symm; (repeat (first | dsimp +instances only [c9n, c9f, c9T, c9G, c9K, c9F, b_come, b_leave, b_fill, awB, b_settle, b_wake, b_take, f_take, b_gather, f_gather, b_ask, a_ask, b_tell, c_close, d_close, k_add, k_rem, sco, k_clrF, k_mem, k_rebind, k_bnd, k_beg0, k_beg1, b_giveN, b_giveR, f_open, b_hand, k_op, b_turn, wlB, b_beat, f_anew, b_wipe, b_off, k_sadd, fits, frP, cntB, b_trace, b_child, k_lat, cond_true, cond_false, Option.elim_none, Option.elim_some, Option.getD_none, Option.getD_some] at hX | rw [← hc_29] at hX | rw [if_pos (by first | with_reducible assumption | omega)] at hX | rw [if_neg (by first | with_reducible assumption | omega)] at hX | rw [jx_of (by omega)] at hX)); (skip); first | exact hX | (exfalso; omega) | exact hX) hQ ⟨i1_17, i2_18, i3_19, i4_20, i5_21, i6_22, i7_23, i8_24, i9_25, i10_26, i11_27⟩ hr1 hr2 hP hD hS (lv_sub hl [0, 1, 2, 3, 4] rfl)
        · refine W.eq (g2 := F0 m 28 ls [.null]) (by rw [cl_eq, rnA_out hrc]; rfl) ?_
          refine lv_astore_nN (lv' := [(3, .null), (0, .ref (ad 0)), (1, .int v1), (2, .null)]) hx hb dX9_openRun_28 rfl hl (by decide) rfl (fun ls hl => ?_)
          refine lv_aload_nN hx hb dX9_openRun_29 rfl (lv_at hl 0 rfl) ?_
          refine lv_ifnonnullN hx hb dX9_openRun_30 ?_
          have hMe : M = (n 0).toInt.toNat := by omega
          refine va_new (ci := 7) (fs := [.int 0, .int 0, .int 0, .int 0, .int 0, .int 0, .int 0, .int 0, .int 0, .int 0, .null, .null, .null, .null, .null]) (C := RX7) (T := TX7) (N := 15) hx hb hg gb_7 tyX7 tyX7_ok hown (hg _ gm_classLink_RX9_29_RX7) (hg _ gm_instantiable_RX7_15) (hg _ gm_initialized_RX7) hK hP hD hS hA rfl df_X7 (by show ce + 1 ≤ 20; omega) (by show se + 15 ≤ 300; omega) dX9_openRun_33 (fun q0 H hP hD hS => ?_)
          refine lv_dup hx hb dX9_openRun_36 rfl ?_
          refine lv_aload_n hx hb dX9_openRun_37 rfl (lv_at hl 1 rfl) ?_
          refine va_get (D := (dC, dI)) (ci := 9) (v := .int (n 0)) (C := RX9) (T := TX9) (N := 15) hx hb hg gb_9 hown hK hP 0 (ap_l hQ.x0) rfl 5 (by decide) (hg _ gm_fieldLink_RX9_66_ErrandGuild_runCount_I_) (fun _ h9 => h9) rfl dX9_openRun_38 ?_
          have hw0 : (ws ++ [(q0, .inr (7, [.int 0, .int 0, .int 0, .int 0, .int 0, .int 0, .int 0, .int 0, .int 0, .int 0, .null, .null, .null, .null, .null]))])[50 + 16 * M]? = some (q0, .inr (7, [.int 0, .int 0, .int 0, .int 0, .int 0, .int 0, .int 0, .int 0, .int 0, .int 0, .null, .null, .null, .null, .null])) := ap_0 hQ.1
          have hCc : ([50 + 16 * M] : List Nat).map (fun i => (ws ++ [(q0, .inr (7, [.int 0, .int 0, .int 0, .int 0, .int 0, .int 0, .int 0, .int 0, .int 0, .int 0, .null, .null, .null, .null, .null]))])[i]?) = ([(q0, .inr (7, [.int 0, .int 0, .int 0, .int 0, .int 0, .int 0, .int 0, .int 0, .int 0, .int 0, .null, .null, .null, .null, .null]))] : va_W).map some := mp1 hw0
          have hPc := hP.pick [50 + 16 * M] hCc
          have hDc := hD.pick [50 + 16 * M] (List.nodup_cons.mpr ⟨List.not_mem_nil, List.nodup_nil⟩) hCc
          have hKc := hK.sub (tys' := []) [] rfl
          have hFc := va_free (wc := [(q0, .inr (7, [.int 0, .int 0, .int 0, .int 0, .int 0, .int 0, .int 0, .int 0, .int 0, .int 0, .null, .null, .null, .null, .null]))]) hD hS hA [50 + 16 * M] hCc
          exact by
           refine va_callv (va_runI (As := [.int (n 0)]) (rest := [.ref q0]) ⟨hx, hb, hml, hown, hg⟩ (c_X7_init l dC dI q0 (n 0) H.size) (cwI 1 hg (gw_c gm_code_yX7_init_cX7_init_2_none) rfl rfl rfl (hg _ gm_initialized_RX7) (hg _ gm_methodLink_RX9_368_yX7_init) (hg _ gm_instanceMethod_yX7_init) rfl (by decide +kernel) ⟨Nat.le_of_ble_eq_true rfl, Nat.le_of_ble_eq_true rfl⟩) ⟨fun a U g mk q => by obtain ⟨q0, q1, qP, qK, qD, qN⟩ := q; exact ⟨q0, q1, qP, va_K.moved (u := U) (U := U.calling g mk a) (Vm.Alike.refl U.vm) qK, qD, nx_same (u := U) (U := U.calling g mk a) rfl qN⟩, fun U hU hW => ⟨rfl, by rw [hU], by rw [hU]; exact hPc, va_K.moved hW.alike hKc, hDc.weaken (fun _ _ _ _ => trivial), nx_warm hW hN⟩⟩ rfl rfl hl.1 rfl (lv_room (Nat.le_of_ble_eq_true rfl)) dX9_openRun_41 ⟨by show ce + 1 + 15 ≤ 20; omega, by show se + 15 + 213 ≤ 300; omega⟩) hS (fun q _ h => hFc q h) hFc (fun u1_ t H1 locs ht hvm hw hB hz1 hk1 hS => ?_)
           obtain ⟨qa, qc, qf, qg⟩ := u1_
           obtain ⟨hP1, hD1, hK1⟩ := hB
           rw [ht] at hP1
           have hK1 := va_K.moved hvm.symm hK1
           have hK1 : va_K (dC, dI) vwCl [(qc 3, .boolean), (qc 4, .int), (qc 5, .int), (qc 7, .int), (qc 8, .int), (qc 9, .int), (qc 10, .int), (qc 11, .int), (qc 12, .int), (qc 15, .int)] s := hK1
           have kq3 : qc 3 = kc 1 := va_K.one (hK1.sub (tys' := [(qc 3, .boolean)]) [0] rfl) (hK.sub (tys' := [(kc 1, .boolean)]) [1] rfl)
           have kq4 : qc 4 = kc 0 := va_K.one (hK1.sub (tys' := [(qc 4, .int)]) [1] rfl) (hK.sub (tys' := [(kc 0, .int)]) [0] rfl)
           have kq5 : qc 5 = kc 0 := va_K.one (hK1.sub (tys' := [(qc 5, .int)]) [2] rfl) (hK.sub (tys' := [(kc 0, .int)]) [0] rfl)
           have kq7 : qc 7 = kc 0 := va_K.one (hK1.sub (tys' := [(qc 7, .int)]) [3] rfl) (hK.sub (tys' := [(kc 0, .int)]) [0] rfl)
           have kq8 : qc 8 = kc 0 := va_K.one (hK1.sub (tys' := [(qc 8, .int)]) [4] rfl) (hK.sub (tys' := [(kc 0, .int)]) [0] rfl)
           have kq9 : qc 9 = kc 0 := va_K.one (hK1.sub (tys' := [(qc 9, .int)]) [5] rfl) (hK.sub (tys' := [(kc 0, .int)]) [0] rfl)
           have kq10 : qc 10 = kc 0 := va_K.one (hK1.sub (tys' := [(qc 10, .int)]) [6] rfl) (hK.sub (tys' := [(kc 0, .int)]) [0] rfl)
           have kq11 : qc 11 = kc 0 := va_K.one (hK1.sub (tys' := [(qc 11, .int)]) [7] rfl) (hK.sub (tys' := [(kc 0, .int)]) [0] rfl)
           have kq12 : qc 12 = kc 0 := va_K.one (hK1.sub (tys' := [(qc 12, .int)]) [8] rfl) (hK.sub (tys' := [(kc 0, .int)]) [0] rfl)
           have kq15 : qc 15 = kc 0 := va_K.one (hK1.sub (tys' := [(qc 15, .int)]) [9] rfl) (hK.sub (tys' := [(kc 0, .int)]) [0] rfl)
           have hP1 : va_P (dC, dI) vwCl [(q0, .inr (7, [.int (n 0), .int 0, .int 0, .int 0, .int 0, .int 0, .int 0, .int 0, .int 0, .int 0, .ref (qa 1), .ref (qa 2), .ref (qa 6), .ref (qa 13), .ref (qa 14)])), (qa 1, .inr (4, [.null, .null, .int 0, .int 0, .int 0, .null, .null, .null, .int 0])), (qa 2, .inr (6, [.ref (qa 3), .ref (qa 4), .ref (qa 5)])), (qa 3, .inl (qc 3, 8, .inl (fun _ => 0))), (qa 4, .inl (qc 4, 8, .inl (fun _ => 0))), (qa 5, .inl (qc 5, 8, .inl (fun _ => 0))), (qa 6, .inr (8, [.ref (qa 7), .ref (qa 8), .ref (qa 9), .int 0, .ref (qa 10), .ref (qa 11), .ref (qa 12), .int 0, .int 0])), (qa 7, .inl (qc 7, 24, .inl (fun _ => 0))), (qa 8, .inl (qc 8, 24, .inl (fun _ => 0))), (qa 9, .inl (qc 9, 24, .inl (fun _ => 0))), (qa 10, .inl (qc 10, 24, .inl (fun _ => 0))), (qa 11, .inl (qc 11, 24, .inl (fun _ => 0))), (qa 12, .inl (qc 12, 24, .inl (fun _ => 0))), (qa 13, .inr (2, [.int 0, .int 0, .int 0, .int 0, .int 0])), (qa 14, .inr (0, [.int 1048576, .ref (qa 15), .int 0])), (qa 15, .inl (qc 15, 16, .inl (fun _ => 0)))] H1 := hP1
           have hD1 : va_D _ [(q0, .inr (7, [.int (n 0), .int 0, .int 0, .int 0, .int 0, .int 0, .int 0, .int 0, .int 0, .int 0, .ref (qa 1), .ref (qa 2), .ref (qa 6), .ref (qa 13), .ref (qa 14)])), (qa 1, .inr (4, [.null, .null, .int 0, .int 0, .int 0, .null, .null, .null, .int 0])), (qa 2, .inr (6, [.ref (qa 3), .ref (qa 4), .ref (qa 5)])), (qa 3, .inl (qc 3, 8, .inl (fun _ => 0))), (qa 4, .inl (qc 4, 8, .inl (fun _ => 0))), (qa 5, .inl (qc 5, 8, .inl (fun _ => 0))), (qa 6, .inr (8, [.ref (qa 7), .ref (qa 8), .ref (qa 9), .int 0, .ref (qa 10), .ref (qa 11), .ref (qa 12), .int 0, .int 0])), (qa 7, .inl (qc 7, 24, .inl (fun _ => 0))), (qa 8, .inl (qc 8, 24, .inl (fun _ => 0))), (qa 9, .inl (qc 9, 24, .inl (fun _ => 0))), (qa 10, .inl (qc 10, 24, .inl (fun _ => 0))), (qa 11, .inl (qc 11, 24, .inl (fun _ => 0))), (qa 12, .inl (qc 12, 24, .inl (fun _ => 0))), (qa 13, .inr (2, [.int 0, .int 0, .int 0, .int 0, .int 0])), (qa 14, .inr (0, [.int 1048576, .ref (qa 15), .int 0])), (qa 15, .inl (qc 15, 16, .inl (fun _ => 0)))] := hD1
           rw [kq3, kq4, kq5, kq7, kq8, kq9, kq10, kq11, kq12, kq15] at hP1 hD1
           obtain ⟨qq, hqq⟩ : ∃ f : Nat → Nat, f = (fun j => match j with | 0 => q0 | j + 1 => qa (j + 1)) := ⟨_, rfl⟩
           have hP1 : va_P (dC, dI) vwCl (cells16 kc qq (n 0)) H1 := by rw [hqq]; exact hP1
           have hD1 : va_D (va_A [(q0, .inr (7, [.int 0, .int 0, .int 0, .int 0, .int 0, .int 0, .int 0, .int 0, .int 0, .int 0, .null, .null, .null, .null, .null]))] H.size) (cells16 kc qq (n 0)) := by rw [hqq]; exact hD1
           have hq0 : qq 0 = q0 := by rw [hqq]
           obtain ⟨hP, hD⟩ := va_appR hP hD hk1 hFc hP1 hD1
           clear hP1 hD1 hk1 hz1 hPc hDc hKc hCc hw0
           generalize H1 = H at hP hS ⊢
           rw [← hq0]
           refine W.eq (g2 := F0 m 44 ls [.ref (qq 0)]) rfl ?_
           exact by
            refine lv_astore_n (lv' := [(3, .ref (qq 0)), (0, .ref (ad 0)), (1, .int v1), (2, .null)]) hx hb dX9_openRun_44 rfl hl (by decide) rfl (fun ls hl => ?_)
            refine lv_aload_n hx hb dX9_openRun_45 rfl (lv_at hl 1 rfl) ?_
            refine va_get (D := (dC, dI)) (ci := 9) (v := .ref (ad 40)) (C := RX9) (T := TX9) (N := 15) hx hb hg gb_9 hown hK hP 0 (ap_l hQ.x0) rfl 4 (by decide) (hg _ gm_fieldLink_RX9_31_ErrandGuild_runs_ALErrandGuild_Run_) (fun _ h9 => h9) rfl dX9_openRun_46 ?_
            refine lv_aload_n hx hb dX9_openRun_49 rfl (lv_at hl 1 rfl) ?_
            refine va_get (D := (dC, dI)) (ci := 9) (v := .int (n 0)) (C := RX9) (T := TX9) (N := 15) hx hb hg gb_9 hown hK hP 0 (ap_l hQ.x0) rfl 5 (by decide) (hg _ gm_fieldLink_RX9_66_ErrandGuild_runCount_I_) (fun _ h9 => h9) rfl dX9_openRun_50 ?_
            refine lv_aload_n hx hb dX9_openRun_53 rfl (lv_at hl 0 rfl) ?_
            refine va_astq (r := (RX7, TX7, 15)) hx hb hK hP hD hS 40 3 (50 + 16 * M) 7 (ap_l hQ.x40) rfl (ap_0 hQ.1) rfl (vp_in_iff.mpr ⟨by omega, by omega⟩) dX9_openRun_54 (fun H locs hP hD hS => ?_)
            have hix : Int32.toNatClampNeg (n 0) = M := by rw [cl_eq]; omega
            rw [hix] at hP hD
            obtain ⟨ws_78, ad_74, ga_75, gc_76, M_77, ead_74, ega_75, egc_76, eM_77, hP, hD, hQ⟩ : ∃ (ws_78 : va_W) (ad_74 : Nat → Nat) (ga_75 : Nat → Nat) (gc_76 : Nat → Nat) (M_77 : Nat), ad_74 = adX ad M qq ∧ ga_75 = u1 ga (3 + M) (qq 15) ∧ gc_76 = u1 gc (3 + M) 16 ∧ M_77 = M + 1 ∧ va_P (dC, dI) vwCl ws_78 H ∧ va_D A ws_78 ∧ Pic9 kc ws_78 ad_74 ga_75 gc_76 M_77 n f T G K F := ⟨_, _, _, _, _, rfl, rfl, rfl, rfl, hP, hD, (by have z := hQ.push h_i2 h_i3 qq (n 0); rw [h_i10.sameG (by omega), h_i10.sameK, h_i10.sameF] at z; exact z)⟩
            have hI2 : I9 M_77 n f T gc_76 G K F R := by rw [eM_77, egc_76]; exact I9.pushX hI (by omega) (by omega)
            obtain ⟨i1_79, i2_80, i3_81, i4_82, i5_83, i6_84, i7_85, i8_86, i9_87, i10_88, i11_89⟩ := id hI2
            have q1_ := i1_79
            unfold i1 at q1_
            have hS9 : S9 M_77 gc_76 = S9 M gc + 16 := by rw [eM_77, egc_76]; exact S9_push
            have hE1 : ∀ q : Nat, q < 50 + 16 * M → ad_74 q = ad q := fun q hq => by rw [ead_74]; exact adX_lt hq
            have hrc2 : (n 0).toInt.toNat < M_77 := by omega
            have hqa : qq 0 = ad_74 (50 + 16 * (n 0).toInt.toNat) := by rw [← hMe, ead_74]; exact adX_new0.symm
            rw [hqa] at hl
            obtain ⟨ce2, hce2⟩ : ∃ q : Nat, q = ce + 16 := ⟨_, rfl⟩
            obtain ⟨se2, hse2⟩ : ∃ q : Nat, q = se + 228 := ⟨_, rfl⟩
            refine W.widen (k := ce2) (n := se2) (by omega) (by omega) ?_
            have hr1 : se2 + (260 * M + 2 * S9 M gc) ≤ (260 * M_77 + 2 * S9 M_77 gc_76) := by omega
            have hr2 : 16 * ce2 + (256 * M + S9 M gc) ≤ (256 * M_77 + S9 M_77 gc_76) := by omega
            generalize ce2 = ce, se2 = se at hr1 hr2 ⊢
            have hl : lv_has ls 5 [(3, .ref (ad_74 (50 + 16 * ((n 0).toInt.toNat)))), (0, .ref (ad_74 0)), (1, .int v1), (2, .null)] := by rw [hE1 0 (by omega)]; exact hl
            exact by
             refine lv_aload_n hx hb dX9_openRun_55 rfl (lv_at hl 0 rfl) ?_
             refine lv_iload_n hx hb dX9_openRun_56 rfl (lv_at hl 2 rfl) ?_
             refine lv_aload_nN hx hb dX9_openRun_57 rfl (lv_at hl 3 rfl) ?_
             have hFc := free_all hD hS hA
             refine W_msr2 (fun hm1 hm2 hm3 => ?_)
             refine va_callv (va_runV (As := [.int v1, .null]) (rest := []) ⟨hx, hb, hml, hown, hg⟩ (c_X7_begin_n l dC dI kc ws_78 ad_74 ga_75 gc_76 M_77 n f T G K F R ((n 0).toInt.toNat) v1 H.size (hpS H) hQ ⟨i1_79, i2_80, i3_81, i4_82, i5_83, i6_84, i7_85, i8_86, i9_87, i10_88, i11_89⟩ (by show ((n 0).toInt.toNat) < M_77; omega)) (cwV 2 hg (gw_V gm_methodLink_RX9_369_yX7_begin gm_instanceMethod_yX7_begin gm_selects_RX7_yX7_begin_yX7_begin gm_initialized_RX7 gm_code_yX7_begin_cX7_begin_3_none) rfl rfl rfl (by decide +kernel) ⟨Nat.le_of_ble_eq_true rfl, Nat.le_of_ble_eq_true rfl⟩) ⟨fun a U g mk q => by obtain ⟨q0, q1, q2, qP, qK, qD, qN⟩ := q; exact ⟨q0, q1, q2, qP, va_K.moved (u := U) (U := U.calling g mk a) (Vm.Alike.refl U.vm) qK, qD, nx_same (u := U) (U := U.calling g mk a) rfl qN⟩, va_recv hK hP (ci := 7) (q0 := (50 + 16 * ((n 0).toInt.toNat))) rfl (hQ.b0 hrc2), fun U hU hW => ⟨rfl, by rw [hU], by rw [hU], by rw [hU]; exact hP, va_K.moved hW.alike hK, hD.weaken (fun _ _ _ _ => trivial), nx_warm hW hN⟩⟩ rfl rfl hl.1 rfl (lv_room (Nat.le_of_ble_eq_true rfl)) dX9_openRun_58 ⟨by show ce + 0 ≤ 20; omega, by show se + 0 ≤ 300; omega⟩) hS (fun q _ h => hFc q h) hFc (fun u_91 t H1 locs ht hvm hw hB hz1 hk1 hS => ?_)
             obtain ⟨ad_92, ga_93, gc_94, M_95, n_96, f_97, T_98, G_99, K_100, F_101⟩ := u_91
             have hB : ∃ w : va_W, va_P (dC, dI) vwCl w t.heap ∧ va_D (va_A ws_78 H.size) w ∧ Pic9 kc w ad_74 ga_75 gc_76 M_77 n f T G_99 K_100 F_101 ∧ I9 M_77 n f T gc_76 G_99 K_100 F_101 R ∧ hpS t.heap + (260 * M_77 + 2 * S9 M_77 gc_76) ≤ hpS H + (260 * M_77 + 2 * S9 M_77 gc_76) ∧ 16 * t.heap.size + (256 * M_77 + S9 M_77 gc_76) ≤ 16 * H.size + (256 * M_77 + S9 M_77 gc_76) := hB
             rw [ht] at hB
             obtain ⟨ws_102, hP, hD, hQ, hI_103, hy1, hy2⟩ := hB
             have hD := hD.weaken (fun k q _ h => hFc _ h)
             obtain ⟨i1_104, i2_105, i3_106, i4_107, i5_108, i6_109, i7_110, i8_111, i9_112, i10_113, i11_114⟩ := id hI_103
             have q1_ := i1_104
             unfold i1 at q1_
             have hSl := S9_le i8_111 i9_112
             have hb0_ := i8_111.2.1 0 (by omega)
             have hb1_ := i8_111.2.1 1 (by omega)
             have hb2_ := i8_111.2.1 2 (by omega)
             refine W_msr2 (fun hn1 hn2 hn3 => ?_)
             obtain ⟨ce2, se2, hk3, hk4, hr1, hr2⟩ : ∃ c2 s2 : Nat, H1.size ≤ s.heap.size + c2 ∧ hpS H1 ≤ hpS s.heap + s2 ∧ s2 + (260 * M + 2 * S9 M gc) ≤ (260 * M_77 + 2 * S9 M_77 gc_76) ∧ 16 * c2 + (256 * M + S9 M gc) ≤ (256 * M_77 + S9 M_77 gc_76) := ⟨H1.size - s.heap.size, hpS H1 - hpS s.heap, by omega, by omega, by have := hS.1; omega, by have := hS.1; omega⟩
             refine W_tightP hk3 hk4 ?_
             clear hm1 hm2 hm3 hn1 hn2 hn3 hk3 hk4
             clear hk1 hz1
             generalize ce2 = ce, se2 = se at hr1 hr2 ⊢
             generalize H1 = H at hP hS ⊢
             have hc_116 : (C9.mk n f T G_99 K_100 F_101) = k_begN ((n 0).toInt.toNat) v1 (C9.mk n f T G K F) := hw.1
             have w_115 : (G_99 ((n 0).toInt.toNat) 2).toInt = 0 ∧ (G_99 ((n 0).toInt.toNat) 3).toInt = -1 ∧ K_100 ((n 0).toInt.toNat) 3 = none ∧ (∀ a : Nat, a ≠ ((n 0).toInt.toNat) → K_100 a = K a) := hw.2
             exact by
              refine lv_iconst (v := 0) hx hb dX9_openRun_61 (by decide) ?_
              refine lv_istore (lv' := [(4, .int 0), (3, .ref (ad_74 (50 + 16 * ((n 0).toInt.toNat)))), (0, .ref (ad_74 0)), (1, .int v1), (2, .null)]) hx hb dX9_openRun_62 hl (by decide) rfl (fun ls hl => ?_)
              have L64 : ∀ (fuel : Nat) (x_117 : Int32)   (ws_119 : va_W) (F_118 : Nat → Nat → Nat → Int32) (ce se : Nat) (H : Heap) (locs : List Loc) (ls : Array Slot), (9 - x_117.toInt).toNat < fuel → (0 ≤ x_117.toInt ∧ x_117.toInt ≤ 8) → (itr (b_giveN (n 0).toInt.toNat) f_open x_117.toInt.toNat (8 - x_117.toInt.toNat) (C9.mk n f T G_99 K_100 F_118) = k_openN v1 (C9.mk n f T G K F)) → Pic9 kc ws_119 ad_74 ga_75 gc_76 M_77 n f T G_99 K_100 F_118 → I9 M_77 n f T gc_76 G_99 K_100 F_118 R → (se + (260 * M + 2 * S9 M gc) ≤ (260 * M_77 + 2 * S9 M_77 gc_76)) → (16 * ce + (256 * M + S9 M gc) ≤ (256 * M_77 + S9 M_77 gc_76)) → va_P (dC, dI) vwCl ws_119 H → va_D A ws_119 → va_S A s.heap H locs → lv_has ls 5 [(4, .int x_117), (3, .ref (ad_74 (50 + 16 * ((n 0).toInt.toNat)))), (0, .ref (ad_74 0)), (1, .int v1), (2, .null)] → W p l e (headSpec (.code yX9_openRun cX9_openRun 5 (some (.object "ErrandGuild$Run")) :: gw) ({ frames := 3, cells := 20, slots := 300, locals := 62 })).room s m ([.ref (ad 0), .int v1, .null] : List Value).toArray below meth c H locs ce se (MQ below (va_Qq (fun (r : Option Nat) (u : (Nat → Nat) × (Nat → Nat) × (Nat → Nat) × Nat × (Nat → Int32) × (Nat → Nat → Int32) × (Nat → Option Nat) × (Nat → Nat → Int32) × (Nat → Nat → Option Nat) × (Nat → Nat → Nat → Int32)) => (r = some (u.1 (50 + 16 * (n 0).toInt.toNat)) ∧ (C9.mk u.2.2.2.2.1 f T u.2.2.2.2.2.2.2.1 u.2.2.2.2.2.2.2.2.1 u.2.2.2.2.2.2.2.2.2) = k_openN v1 (C9.mk n f T G K F) ∧ (u.2.2.2.2.1 0).toInt = (n 0).toInt + 1 ∧ S9 u.2.2.2.1 u.2.2.1 + 16 * M ≤ S9 M gc + 16 * u.2.2.2.1 ∧ (∀ a j : Nat, (a : Int) < (n 0).toInt → u.2.2.2.2.2.2.2.2.1 a 3 = some j → (j : Int) < (n 0).toInt)) ∨ (r = none ∧ (C9.mk u.2.2.2.2.1 f T u.2.2.2.2.2.2.2.1 u.2.2.2.2.2.2.2.2.1 u.2.2.2.2.2.2.2.2.2) = k_openN v1 (C9.mk n f T G K F) ∧ (u.2.2.2.2.1 0).toInt = (n 0).toInt ∧ S9 u.2.2.2.1 u.2.2.1 + 16 * M ≤ S9 M gc + 16 * u.2.2.2.1 ∧ 200 ≤ (n 0).toInt)) (fun u t => ∃ w : va_W, va_P (dC, dI) vwCl w t.heap ∧ va_D A w ∧ Pic9 kc w u.1 u.2.1 u.2.2.1 u.2.2.2.1 u.2.2.2.2.1 f T u.2.2.2.2.2.2.2.1 u.2.2.2.2.2.2.2.2.1 u.2.2.2.2.2.2.2.2.2 ∧ I9 u.2.2.2.1 u.2.2.2.2.1 f T u.2.2.1 u.2.2.2.2.2.2.2.1 u.2.2.2.2.2.2.2.2.1 u.2.2.2.2.2.2.2.2.2 R ∧ hpS t.heap + (260 * M + 2 * S9 M gc) ≤ (hpS s.heap) + (260 * u.2.2.2.1 + 2 * S9 u.2.2.2.1 u.2.2.1) ∧ 16 * t.heap.size + (256 * M + S9 M gc) ≤ 16 * s.heap.size + (256 * u.2.2.2.1 + S9 u.2.2.2.1 u.2.2.1) ∧ (n 0).toInt ≤ (u.2.2.2.2.1 0).toInt ∧ (∀ q : Nat, q < 50 + 16 * M → u.1 q = ad q) ∧ M ≤ u.2.2.2.1) A) ([.ref (ad 0), .int v1, .null] : List Value).toArray s 20 300 A) (F0 m 64 ls []) := by
                intro fuel
                induction fuel with
                | zero => intro x_117 ws_119 F_118 ce se H locs ls hm; exact absurd hm (Nat.not_lt_zero _)
                | succ fuel_125 ih_124 =>
                  intro x_117 ws_119 F_118 ce se H locs ls hm_120 v_121 v_122 hQ hI_123 hr1 hr2 hP hD hS hl
                  obtain ⟨i1_126, i2_127, i3_128, i4_129, i5_130, i6_131, i7_132, i8_133, i9_134, i10_135, i11_136⟩ := id hI_123
                  have q1_ := i1_126
                  unfold i1 at q1_
                  have hSl := S9_le i8_133 i9_134
                  have hb0_ := i8_133.2.1 0 (by omega)
                  have hb1_ := i8_133.2.1 1 (by omega)
                  have hb2_ := i8_133.2.1 2 (by omega)
                  exact by
                   refine lv_iload hx hb dX9_openRun_64 (lv_at hl 0 rfl) ?_
                   refine lv_bipush (v := 8) hx hb dX9_openRun_66 (by decide) ?_
                   refine lv_icmp_ge (tgt := 107) hx hb dX9_openRun_68 (by decide) (fun c_137 => ?_) (fun c_137 => ?_)
                   · simp only [i_lt, i_le, i_eq, ti_8] at c_137
                     refine lv_aload_n hx hb dX9_openRun_107 rfl (lv_at hl 2 rfl) ?_
                     refine lv_dup hx hb dX9_openRun_108 rfl ?_
                     refine va_get (D := (dC, dI)) (ci := 9) (v := .int (n 0)) (C := RX9) (T := TX9) (N := 15) hx hb hg gb_9 hown hK hP 0 hQ.x0 rfl 5 (by decide) (hg _ gm_fieldLink_RX9_66_ErrandGuild_runCount_I_) (fun _ h9 => h9) rfl dX9_openRun_109 ?_
                     refine lv_iconst (v := 1) hx hb dX9_openRun_112 (by decide) ?_
                     refine lv_iadd hx hb dX9_openRun_113 ?_
                     refine lv_topi (fun z_138 ez_138 => ?_)
                     have tz_138 : z_138.toInt = (n 0).toInt + 1 := ar_add rfl ti_1 ez_138 (by omega)
                     refine va_put (D := (dC, dI)) (ci := 9) (v := .int (z_138)) (ty := .int) (C := RX9) (T := TX9) (N := 15) hx hb hg gb_9 tyX9 tyX9_ok nmX9 hown hK hP hD hS 0 hQ.x0 rfl 5 (by decide) (hg _ gm_fieldLink_RX9_66_ErrandGuild_runCount_I_) (fun _ h9 => h9) rfl (by decide +kernel) rfl rfl (Nat.le_of_ble_eq_true rfl) dX9_openRun_114 (fun H locs hP hD hS => ?_)
                     obtain ⟨ws_140, n_139, en_139, hP, hD, hQ⟩ : ∃ (ws_140 : va_W) (n_139 : Nat → Int32), n_139 = u1 n 0 z_138 ∧ va_P (dC, dI) vwCl ws_140 H ∧ va_D A ws_140 ∧ Pic9 kc ws_140 ad_74 ga_75 gc_76 M_77 n_139 f T G_99 K_100 F_118 := ⟨_, _, rfl, hP, hD, hQ.x9 0 5 (by decide) z_138⟩
                     have i1_141 : i1 M_77 n_139 := by rw [en_139]; exact i1.inc i1_126 (by omega) (by omega)
                     have i5_142 : i5 n_139 K_100 := by rw [en_139]; exact i5.inc (a := (n 0).toInt.toNat) i5_130 (by omega) (by omega) w_115.2.2.1
                     have i6_143 : i6 n_139 T G_99 := by rw [en_139]; exact i6.inc (a := (n 0).toInt.toNat) i6_131 (by omega) (by omega) w_115.2.1
                     have i7_144 : i7 n_139 G_99 := by rw [en_139]; exact i7.inc (a := (n 0).toInt.toNat) i7_132 (by omega) (by omega) w_115.1
                     have i8_145 : i8 M_77 n_139 gc_76 G_99 := by rw [en_139]; exact (i8.pn i8_133 _ (by decide))
                     have i11_146 : i11 M_77 n_139 gc_76 f G_99 F_118 := by rw [en_139]; exact (i11.pn i11_136 _ (by decide))
                     have hn_147 : n_139 0 = z_138 := by rw [en_139]; exact u1_eq _ _ _
                     have thn_147 : (n_139 0).toInt = z_138.toInt := by rw [hn_147]
                     exact by
                      refine lv_aload_n hx hb dX9_openRun_117 rfl (lv_at hl 1 rfl) ?_
                      refine W_msr2 (fun hm1 hm2 hm3 => ?_)
                      have hSl := S9_le i8_145 i9_134
                      have hb0_ := i8_145.2.1 0 (by omega)
                      have hb1_ := i8_145.2.1 1 (by omega)
                      have hb2_ := i8_145.2.1 2 (by omega)
                      refine W.widen (k := 20) (n := 300) (by omega) (by omega) ?_
                      exact W.aret (v := .ref (ad_74 (50 + 16 * ((n 0).toInt.toNat)))) hx hb hr (Or.inl ⟨_, rfl⟩) (Or.inr ⟨_, rfl⟩) (fun t ht hW => ⟨⟨some (ad_74 (50 + 16 * ((n 0).toInt.toNat))), (ad_74, ga_75, gc_76, M_77, n_139, f, T, G_99, K_100, F_118), rfl, (Or.inl ⟨rfl, ⟨(by show (C9.mk n_139 f T G_99 K_100 F_118) = k_openN v1 (C9.mk n f T G K F); subst en_139; subst ez_138; have hX := v_122; (first | rw [itr_go (by omega)] at hX | rw [itr_end (by omega)] at hX); (repeat (first | dsimp +instances only [c9n, c9f, c9T, c9G, c9K, c9F, b_come, b_leave, b_fill, awB, b_settle, b_wake, b_take, f_take, b_gather, f_gather, b_ask, a_ask, b_tell, c_close, d_close, k_add, k_rem, sco, k_clrF, k_mem, k_rebind, k_bnd, k_beg0, k_beg1, b_giveN, b_giveR, f_open, b_hand, k_op, b_turn, wlB, b_beat, f_anew, b_wipe, b_off, k_sadd, fits, frP, cntB, b_trace, b_child, k_lat, cond_true, cond_false, Option.elim_none, Option.elim_some, Option.getD_none, Option.getD_some] at hX | rw [if_pos (by first | with_reducible assumption | omega)] at hX | rw [if_neg (by first | with_reducible assumption | omega)] at hX | rw [jx_of (by omega)] at hX)); first | exact hX | (exfalso; omega) | exact hX), ⟨by show (n_139 0).toInt = (n 0).toInt + 1; omega, by show S9 M_77 gc_76 + 16 * M ≤ S9 M gc + 16 * M_77; omega, fun a j ha hj => h_i5 a j ha (by have hj : K_100 a 3 = some j := hj; rw [w_115.2.2.2 a (by omega)] at hj; exact hj)⟩⟩⟩), ws_140, by rw [ht]; exact hP, hD, hQ, ⟨i1_141, i2_127, i3_128, i4_129, i5_142, i6_143, i7_144, i8_145, i9_134, i10_135, i11_146⟩, by rw [ht]; show hpS H + (260 * M + 2 * S9 M gc) ≤ hpS s.heap + (260 * M_77 + 2 * S9 M_77 gc_76); omega, by rw [ht]; show 16 * H.size + (256 * M + S9 M gc) ≤ 16 * s.heap.size + (256 * M_77 + S9 M_77 gc_76); omega, by show (n 0).toInt ≤ (n_139 0).toInt; omega, hE1, by show M ≤ M_77; omega⟩, hS.F ht⟩) hS.2.2 dX9_openRun_118
                   · simp only [i_lt, i_le, i_eq, ti_8] at c_137
                     refine lv_aload_n hx hb dX9_openRun_71 rfl (lv_at hl 1 rfl) ?_
                     refine va_get (D := (dC, dI)) (ci := 7) (v := .ref (ad_74 (50 + 16 * ((n 0).toInt.toNat) + 2))) (C := RX7) (T := TX7) (N := 15) hx hb hg gb_7 hown hK hP (50 + 16 * ((n 0).toInt.toNat)) (hQ.b0 hrc2) rfl 11 (by decide) (hg _ gm_fieldLink_RX9_253_ErrandGuild_Run_memory_LErrandGuild_Memory_) (fun _ h9 => h9) rfl dX9_openRun_72 ?_
                     refine lv_iload hx hb dX9_openRun_75 (lv_at hl 0 rfl) ?_
                     refine lv_aload_nN hx hb dX9_openRun_77 rfl (lv_at hl 4 rfl) ?_
                     refine lv_ifnonnullN hx hb dX9_openRun_78 ?_
                     refine lv_aload_n hx hb dX9_openRun_81 rfl (lv_at hl 2 rfl) ?_
                     refine va_get (D := (dC, dI)) (ci := 9) (v := .ref (ad_74 2)) (C := RX9) (T := TX9) (N := 15) hx hb hg gb_9 hown hK hP 0 hQ.x0 rfl 1 (by decide) (hg _ gm_fieldLink_RX9_13_ErrandGuild_firsts_AI_) (fun _ h9 => h9) rfl dX9_openRun_82 ?_
                     refine lv_iload hx hb dX9_openRun_85 (lv_at hl 0 rfl) ?_
                     refine va_iald (f := f 1) hx hb hK hP 2 0 hQ.x2 rfl (vp_in_iff.mpr ⟨by omega, by omega⟩) dX9_openRun_87 ?_
                     refine lv_topi (fun z_148 ez_148 => ?_)
                     have ez_148 : z_148 = f 1 x_117.toInt.toNat := ez_148
                     have qz_148 := congrArg Int32.toInt ez_148
                     exact by
                      refine lv_goto (tgt := 98) hx hb dX9_openRun_88 (by decide) ?_
                      have hCc : ([(50 + 16 * ((n 0).toInt.toNat) + 2), (50 + 16 * ((n 0).toInt.toNat) + 5)] : List Nat).map (fun i => ws_119[i]?) = ([(ad_74 (50 + 16 * ((n 0).toInt.toNat) + 2), .inr (6, [.ref (ad_74 (50 + 16 * ((n 0).toInt.toNat) + 3)), .ref (ad_74 (50 + 16 * ((n 0).toInt.toNat) + 4)), .ref (ad_74 (50 + 16 * ((n 0).toInt.toNat) + 5))])), (ad_74 (50 + 16 * ((n 0).toInt.toNat) + 5), .inl (kc 0, 8, .inl (F_118 ((n 0).toInt.toNat) 2)))] : va_W).map some := mp2 (hQ.b2 hrc2) (hQ.b5 hrc2)
                      have hNd : ([(50 + 16 * ((n 0).toInt.toNat) + 2), (50 + 16 * ((n 0).toInt.toNat) + 5)] : List Nat).Nodup := (nd_off (50 + 16 * ((n 0).toInt.toNat)) (l := [2, 5]) (by decide))
                      have hPc := hP.pick [(50 + 16 * ((n 0).toInt.toNat) + 2), (50 + 16 * ((n 0).toInt.toNat) + 5)] hCc
                      have hDc := hD.pick [(50 + 16 * ((n 0).toInt.toNat) + 2), (50 + 16 * ((n 0).toInt.toNat) + 5)] hNd hCc
                      have hKc := hK.sub (tys' := [((kc 0), .int)]) [0] rfl
                      have hFc := va_free (wc := [(ad_74 (50 + 16 * ((n 0).toInt.toNat) + 2), .inr (6, [.ref (ad_74 (50 + 16 * ((n 0).toInt.toNat) + 3)), .ref (ad_74 (50 + 16 * ((n 0).toInt.toNat) + 4)), .ref (ad_74 (50 + 16 * ((n 0).toInt.toNat) + 5))])), (ad_74 (50 + 16 * ((n 0).toInt.toNat) + 5), .inl (kc 0, 8, .inl (F_118 ((n 0).toInt.toNat) 2)))]) hD hS hA [(50 + 16 * ((n 0).toInt.toNat) + 2), (50 + 16 * ((n 0).toInt.toNat) + 5)] hCc
                      refine W_msr2 (fun hm1 hm2 hm3 => ?_)
                      refine va_callv (va_runV (As := [.int x_117, .int z_148]) (rest := []) ⟨hx, hb, hml, hown, hg⟩ (c_X6_give l dC dI (ad_74 (50 + 16 * ((n 0).toInt.toNat) + 2)) (ad_74 (50 + 16 * ((n 0).toInt.toNat) + 3)) (ad_74 (50 + 16 * ((n 0).toInt.toNat) + 4)) (ad_74 (50 + 16 * ((n 0).toInt.toNat) + 5)) (kc 0) (F_118 ((n 0).toInt.toNat) 2) x_117 z_148 H.size ) (cwV 2 hg (gw_V gm_methodLink_RX9_373_yX6_give gm_instanceMethod_yX6_give gm_selects_RX6_yX6_give_yX6_give gm_initialized_RX6 gm_code_yX6_give_cX6_give_3_none) rfl rfl rfl (by decide +kernel) ⟨Nat.le_of_ble_eq_true rfl, Nat.le_of_ble_eq_true rfl⟩) ⟨fun a U g mk q => by obtain ⟨q0, q1, qP, qK, qD, qN⟩ := q; exact ⟨q0, q1, qP, va_K.moved (u := U) (U := U.calling g mk a) (Vm.Alike.refl U.vm) qK, qD, nx_same (u := U) (U := U.calling g mk a) rfl qN⟩, va_recv hK hP (ci := 6) (q0 := (50 + 16 * ((n 0).toInt.toNat) + 2)) rfl (hQ.b2 hrc2), fun U hU hW => ⟨rfl, by rw [hU], by rw [hU]; exact hPc, va_K.moved hW.alike hKc, hDc.weaken (fun _ _ _ _ => trivial), nx_warm hW hN⟩⟩ rfl rfl hl.1 rfl (lv_room (Nat.le_of_ble_eq_true rfl)) dX9_openRun_98 ⟨by show ce + 0 ≤ 20; omega, by show se + 0 ≤ 300; omega⟩) hS (fun q _ h => hFc q h) hFc (fun u_150 t H1 locs ht hvm hw hB hz1 hk1 hS => ?_)
                      obtain ⟨ad_151, ac_152, af_153, ag_154⟩ := u_150
                      obtain ⟨hP1, hD1, hK1, qe_155⟩ := hB
                      rw [ht] at hP1
                      have hP1 : va_P (dC, dI) vwCl [((ad_74 (50 + 16 * ((n 0).toInt.toNat) + 2)), .inr (6, [.ref (ad_74 (50 + 16 * ((n 0).toInt.toNat) + 3)), .ref (ad_74 (50 + 16 * ((n 0).toInt.toNat) + 4)), .ref (ad_74 (50 + 16 * ((n 0).toInt.toNat) + 5))])), ((ad_74 (50 + 16 * ((n 0).toInt.toNat) + 5)), .inl ((kc 0), 8, .inl (af_153 2)))] H1 := hP1
                      have hD1 : va_D _ [((ad_74 (50 + 16 * ((n 0).toInt.toNat) + 2)), .inr (6, [.ref (ad_74 (50 + 16 * ((n 0).toInt.toNat) + 3)), .ref (ad_74 (50 + 16 * ((n 0).toInt.toNat) + 4)), .ref (ad_74 (50 + 16 * ((n 0).toInt.toNat) + 5))])), ((ad_74 (50 + 16 * ((n 0).toInt.toNat) + 5)), .inl ((kc 0), 8, .inl (af_153 2)))] := hD1
                      have qe_155 : (af_153 2) = st8 (F_118 ((n 0).toInt.toNat) 2) x_117 z_148 := qe_155
                      rw [qe_155] at hP1 hD1
                      obtain ⟨hP, hD⟩ := va_repl (w1 := [((ad_74 (50 + 16 * ((n 0).toInt.toNat) + 2)), .inr (6, [.ref (ad_74 (50 + 16 * ((n 0).toInt.toNat) + 3)), .ref (ad_74 (50 + 16 * ((n 0).toInt.toNat) + 4)), .ref (ad_74 (50 + 16 * ((n 0).toInt.toNat) + 5))])), ((ad_74 (50 + 16 * ((n 0).toInt.toNat) + 5)), .inl ((kc 0), 8, .inl (st8 (F_118 ((n 0).toInt.toNat) 2) x_117 z_148)))]) hP hD [(50 + 16 * ((n 0).toInt.toNat) + 2), (50 + 16 * ((n 0).toInt.toNat) + 5)] hCc hNd rfl hk1 hFc hP1 hD1
                      obtain ⟨ws_157, F_156, eF_156, hP, hD, hQ⟩ : ∃ (ws_157 : va_W) (F_156 : Nat → Nat → Nat → Int32), F_156 = u2 F_118 ((n 0).toInt.toNat) 2 (st8 (F_118 ((n 0).toInt.toNat) 2) x_117 z_148) ∧ va_P (dC, dI) vwCl ws_157 H1 ∧ va_D A ws_157 ∧ Pic9 kc ws_157 ad_74 ga_75 gc_76 M_77 n f T G_99 K_100 F_156 := ⟨_, _, rfl, hP, hD, (hQ.same (hQ.b2 hrc2)).arr hrc2 5 2 (by decide) (st8 (F_118 ((n 0).toInt.toNat) 2) x_117 z_148) rfl⟩
                      have i10_158 : i10 M_77 G_99 K_100 F_156 := by rw [eF_156]; exact (i10.pF i10_135 hrc2 _ _)
                      have i11_159 : i11 M_77 n gc_76 f G_99 F_156 := by rw [eF_156]; exact (i11.pF i11_136 ((n 0).toInt.toNat) _ (by decide))
                      refine W.widen (k := ce) (n := se) (Nat.le_refl _) (Nat.le_refl _) ?_
                      generalize H1 = H at hP hS ⊢
                      obtain ⟨y_160, ey_160⟩ : ∃ q : Int32, q = x_117 + (1) := ⟨_, rfl⟩
                      exact by
                       refine lv_iinc (v := y_160) (lv' := [(4, .int y_160), (3, .ref (ad_74 (50 + 16 * ((n 0).toInt.toNat)))), (0, .ref (ad_74 0)), (1, .int v1), (2, .null)]) hx hb dX9_openRun_101 hl (k := 0) rfl (by rw [ey_160]; rfl) (by decide) rfl (fun ls hl => ?_)
                       have ty_160 : y_160.toInt = x_117.toInt + (1) := ar_add rfl ti_1 ey_160 (by omega)
                       refine lv_goto (tgt := 64) hx hb dX9_openRun_104 (by decide) ?_
                       exact ih_124 y_160   ws_157 F_156 ce se H locs ls (by show (9 - y_160.toInt).toNat < _; omega) (by show 0 ≤ y_160.toInt ∧ y_160.toInt ≤ 8; omega) (by show itr (b_giveN (n 0).toInt.toNat) f_open y_160.toInt.toNat (8 - y_160.toInt.toNat) (C9.mk n f T G_99 K_100 F_156) = k_openN v1 (C9.mk n f T G K F); subst ez_148; subst eF_156; have hX := v_122; (first | rw [itr_go (by omega)] at hX | rw [itr_end (by omega)] at hX); (repeat (first | dsimp +instances only [c9n, c9f, c9T, c9G, c9K, c9F, b_come, b_leave, b_fill, awB, b_settle, b_wake, b_take, f_take, b_gather, f_gather, b_ask, a_ask, b_tell, c_close, d_close, k_add, k_rem, sco, k_clrF, k_mem, k_rebind, k_bnd, k_beg0, k_beg1, b_giveN, b_giveR, f_open, b_hand, k_op, b_turn, wlB, b_beat, f_anew, b_wipe, b_off, k_sadd, fits, frP, cntB, b_trace, b_child, k_lat, cond_true, cond_false, Option.elim_none, Option.elim_some, Option.getD_none, Option.getD_some] at hX | rw [if_pos (by first | with_reducible assumption | omega)] at hX | rw [if_neg (by first | with_reducible assumption | omega)] at hX | rw [jx_of (by omega)] at hX)); (rw [show y_160.toInt.toNat = x_117.toInt.toNat + 1 by omega]); first | exact hX | (exfalso; omega) | exact hX) hQ ⟨i1_126, i2_127, i3_128, i4_129, i5_130, i6_131, i7_132, i8_133, i9_134, i10_158, i11_159⟩ hr1 hr2 hP hD hS (lv_sub hl [0, 1, 2, 3, 4] rfl)
              exact L64 _ (0 : Int32)   ws_102 F_101 ce se _ _ _ (Nat.lt_succ_self _) (by have t_0 := ti_0; show 0 ≤ (0 : Int32).toInt ∧ (0 : Int32).toInt ≤ 8; omega) (by show itr (b_giveN (n 0).toInt.toNat) f_open (0 : Int32).toInt.toNat (8 - (0 : Int32).toInt.toNat) (C9.mk n f T G_99 K_100 F_101) = k_openN v1 (C9.mk n f T G K F); have hX := (k_openN.eq_1 v1 (C9.mk n f T G K F)).symm; (repeat (first | dsimp +instances only [c9n, c9f, c9T, c9G, c9K, c9F, b_come, b_leave, b_fill, awB, b_settle, b_wake, b_take, f_take, b_gather, f_gather, b_ask, a_ask, b_tell, c_close, d_close, k_add, k_rem, sco, k_clrF, k_mem, k_rebind, k_bnd, k_beg0, k_beg1, b_giveN, b_giveR, f_open, b_hand, k_op, b_turn, wlB, b_beat, f_anew, b_wipe, b_off, k_sadd, fits, frP, cntB, b_trace, b_child, k_lat, cond_true, cond_false, Option.elim_none, Option.elim_some, Option.getD_none, Option.getD_some] at hX | rw [← hc_116] at hX | rw [if_pos (by first | with_reducible assumption | omega)] at hX | rw [if_neg (by first | with_reducible assumption | omega)] at hX | rw [jx_of (by omega)] at hX)); (skip); first | exact hX | (exfalso; omega) | exact hX) hQ ⟨i1_104, i2_105, i3_106, i4_107, i5_108, i6_109, i7_110, i8_111, i9_112, i10_113, i11_114⟩ hr1 hr2 hP hD hS (lv_sub hl [0, 1, 2, 3, 4] rfl)
      · simp only [i_lt, i_le, i_eq, ti_200] at c_2
        refine lv_null hx hb dX9_openRun_17 ?_
        refine W_msr2 (fun hm1 hm2 hm3 => ?_)
        have hSl := S9_le h_i8 h_i9
        have hb0_ := h_i8.2.1 0 (by omega)
        have hb1_ := h_i8.2.1 1 (by omega)
        have hb2_ := h_i8.2.1 2 (by omega)
        refine W.widen (k := 20) (n := 300) (by omega) (by omega) ?_
        exact W.aret (v := .null) hx hb hr (Or.inl ⟨_, rfl⟩) (Or.inl rfl) (fun t ht hW => ⟨⟨none, (ad, ga, gc, M, n, f, T, G, K, F), rfl, (Or.inr ⟨rfl, ⟨(by show (C9.mk n f T G K F) = k_openN v1 (C9.mk n f T G K F); have hX := (k_openN.eq_1 v1 (C9.mk n f T G K F)).symm; (repeat (first | dsimp +instances only [c9n, c9f, c9T, c9G, c9K, c9F, b_come, b_leave, b_fill, awB, b_settle, b_wake, b_take, f_take, b_gather, f_gather, b_ask, a_ask, b_tell, c_close, d_close, k_add, k_rem, sco, k_clrF, k_mem, k_rebind, k_bnd, k_beg0, k_beg1, b_giveN, b_giveR, f_open, b_hand, k_op, b_turn, wlB, b_beat, f_anew, b_wipe, b_off, k_sadd, fits, frP, cntB, b_trace, b_child, k_lat, cond_true, cond_false, Option.elim_none, Option.elim_some, Option.getD_none, Option.getD_some] at hX | rw [if_pos (by first | with_reducible assumption | omega)] at hX | rw [if_neg (by first | with_reducible assumption | omega)] at hX | rw [jx_of (by omega)] at hX)); first | exact hX | (exfalso; omega) | exact hX), ⟨by show (n 0).toInt = (n 0).toInt; omega, by show S9 M gc + 16 * M ≤ S9 M gc + 16 * M; omega, by omega⟩⟩⟩), ws, by rw [ht]; exact hP, hD, hQ, ⟨h_i1, h_i2, h_i3, h_i4, h_i5, h_i6, h_i7, h_i8, h_i9, h_i10, h_i11⟩, by rw [ht]; show hpS s.heap + (260 * M + 2 * S9 M gc) ≤ hpS s.heap + (260 * M + 2 * S9 M gc); omega, by rw [ht]; show 16 * s.heap.size + (256 * M + S9 M gc) ≤ 16 * s.heap.size + (256 * M + S9 M gc); omega, by show (n 0).toInt ≤ (n 0).toInt; omega, (fun _ _ => rfl), by show M ≤ M; omega⟩, hS.F ht⟩) hS.2.2 dX9_openRun_18

set_option maxHeartbeats 8000000 in
set_option maxRecDepth 100000 in
theorem c_X9_openRun_r (l : Launch) (dC : Nat → ClassId) (dI : Nat → Nat → Nat) (kc : Nat → ClassId) (ws : va_W) (ad : Nat → Nat) (ga : Nat → Nat) (gc : Nat → Nat) (M : Nat) (n : Nat → Int32) (f : Nat → Nat → Int32) (T : Nat → Option Nat) (G : Nat → Nat → Int32) (K : Nat → Nat → Option Nat) (F : Nat → Nat → Nat → Int32) (R : Nat) (v1 : Int32) (q : Nat) (sz hz : Nat) (hQ : Pic9 kc ws ad ga gc M n f T G K F) (hI : I9 M n f T gc G K F R) (hR : R ≤ 310000) (hq : q < M) : Met l yX9_openRun (.code yX9_openRun cX9_openRun 5 (some (.object "ErrandGuild$Run")) :: gw) ({ frames := 3, cells := 20, slots := 300, locals := 67 }) (va_Pc [.ref (ad 0), .int v1, .ref (ad (50 + 16 * q))] (fun U => U.heap.size = sz ∧ hpS U.heap = hz ∧ va_P (dC, dI) vwCl ws U.heap ∧ va_K (dC, dI) vwCl (t9 kc) U ∧ va_D (fun _ => True) ws ∧ nx U)) (va_Qq (fun (r : Option Nat) (u : (Nat → Nat) × (Nat → Nat) × (Nat → Nat) × Nat × (Nat → Int32) × (Nat → Nat → Int32) × (Nat → Option Nat) × (Nat → Nat → Int32) × (Nat → Nat → Option Nat) × (Nat → Nat → Nat → Int32)) => (r = some (u.1 (50 + 16 * (n 0).toInt.toNat)) ∧ (C9.mk u.2.2.2.2.1 f T u.2.2.2.2.2.2.2.1 u.2.2.2.2.2.2.2.2.1 u.2.2.2.2.2.2.2.2.2) = k_openR q v1 (C9.mk n f T G K F) ∧ (u.2.2.2.2.1 0).toInt = (n 0).toInt + 1 ∧ S9 u.2.2.2.1 u.2.2.1 + 16 * M ≤ S9 M gc + 16 * u.2.2.2.1 ∧ (∀ a j : Nat, (a : Int) < (n 0).toInt → u.2.2.2.2.2.2.2.2.1 a 3 = some j → (j : Int) < (n 0).toInt)) ∨ (r = none ∧ (C9.mk u.2.2.2.2.1 f T u.2.2.2.2.2.2.2.1 u.2.2.2.2.2.2.2.2.1 u.2.2.2.2.2.2.2.2.2) = k_openR q v1 (C9.mk n f T G K F) ∧ (u.2.2.2.2.1 0).toInt = (n 0).toInt ∧ S9 u.2.2.2.1 u.2.2.1 + 16 * M ≤ S9 M gc + 16 * u.2.2.2.1 ∧ 200 ≤ (n 0).toInt)) (fun u t => ∃ w : va_W, va_P (dC, dI) vwCl w t.heap ∧ va_D (va_A ws sz) w ∧ Pic9 kc w u.1 u.2.1 u.2.2.1 u.2.2.2.1 u.2.2.2.2.1 f T u.2.2.2.2.2.2.2.1 u.2.2.2.2.2.2.2.2.1 u.2.2.2.2.2.2.2.2.2 ∧ I9 u.2.2.2.1 u.2.2.2.2.1 f T u.2.2.1 u.2.2.2.2.2.2.2.1 u.2.2.2.2.2.2.2.2.1 u.2.2.2.2.2.2.2.2.2 R ∧ hpS t.heap + (260 * M + 2 * S9 M gc) ≤ hz + (260 * u.2.2.2.1 + 2 * S9 u.2.2.2.1 u.2.2.1) ∧ 16 * t.heap.size + (256 * M + S9 M gc) ≤ 16 * sz + (256 * u.2.2.2.1 + S9 u.2.2.2.1 u.2.2.1) ∧ (n 0).toInt ≤ (u.2.2.2.2.1 0).toInt ∧ (∀ q : Nat, q < 50 + 16 * M → u.1 q = ad q) ∧ M ≤ u.2.2.2.1) (va_A ws sz)) 20 300 (va_A ws sz) := by
  refine Met.ofW (cc := cX9_openRun) (maxL := 5) (ret := (some (.object "ErrandGuild$Run"))) (by decide) rfl ?_
  intro p e s m args below meth c s₁ B hml hv
  obtain ⟨rfl, hsz, rfl, hP, hK, hD0, hN⟩ := hv
  have hx := B.exec
  have hb := B.bytes
  have hr := B.returns
  have hts := atoms_spec (ws := .code yX9_openRun cX9_openRun 5 (some (.object "ErrandGuild$Run")) :: gw) B.pre
  have hg : ∀ w ∈ gw, w.before _ s = true := fun w h => hts w (List.mem_cons_of_mem _ h)
  have hown : s.vm.findClass RX9 = some m.cls := findClass_of_methodNamed B.named
  have hlocks := B.notSynchronized
  subst hsz
  have hD := hD0.self (sz := s.heap.size)
  generalize hAe : va_A ws s.heap.size = A at hD ⊢
  have hA : ∀ q : Nat, s.heap.size ≤ q → A q := fun q h => by rw [← hAe]; exact Or.inr h
  clear hAe
  have hS : va_S A s.heap s.heap [] := va_S.rf
  have hl := lv_entry ([.ref (ad 0), .int v1, .ref (ad (50 + 16 * q))]) (n := 5) (Nat.le_of_ble_eq_true rfl)
  rw [lg_entry_eq]
  generalize (lg_sl ([.ref (ad 0), .int v1, .ref (ad (50 + 16 * q))]) ++ List.replicate (5 - (lg_sl ([.ref (ad 0), .int v1, .ref (ad (50 + 16 * q))])).length) Slot.unset).toArray = ls at hl ⊢
  have hl : lv_has ls 5 [(0, .ref (ad 0)), (1, .int v1), (2, .ref (ad (50 + 16 * q)))] := hl
  obtain ⟨h_i1, h_i2, h_i3, h_i4, h_i5, h_i6, h_i7, h_i8, h_i9, h_i10, h_i11⟩ := id hI
  have q1_ := h_i1
  unfold i1 at q1_
  have hSl0 := S9_le h_i8 h_i9
  have hb0_ := h_i8.2.1 0 (by omega)
  have hb1_ := h_i8.2.1 1 (by omega)
  have hb2_ := h_i8.2.1 2 (by omega)
  have hr1 : 0 + (260 * M + 2 * S9 M gc) ≤ (260 * M + 2 * S9 M gc) := by omega
  have hr2 : 16 * 0 + (256 * M + S9 M gc) ≤ (256 * M + S9 M gc) := by omega
  obtain ⟨ce, hce⟩ : ∃ q : Nat, q = 0 := ⟨_, rfl⟩
  obtain ⟨se, hse⟩ : ∃ q : Nat, q = 0 := ⟨_, rfl⟩
  rw [← hse] at hr1
  have hr2 : 16 * ce + (256 * M + S9 M gc) ≤ (256 * M + S9 M gc) := by omega
  refine W.widen (k := ce) (n := se) (Nat.zero_le _) (Nat.zero_le _) ?_
  exact by
   refine lv_aload_n hx hb dX9_openRun_0 rfl (lv_at hl 0 rfl) ?_
   refine va_get (D := (dC, dI)) (ci := 9) (v := .int (n 0)) (C := RX9) (T := TX9) (N := 15) hx hb hg gb_9 hown hK hP 0 hQ.x0 rfl 5 (by decide) (hg _ gm_fieldLink_RX9_66_ErrandGuild_runCount_I_) (fun _ h9 => h9) rfl dX9_openRun_1 ?_
   refine lv_if_lt (tgt := 17) hx hb dX9_openRun_4 (by decide) (fun c_1 => ?_) (fun c_1 => ?_)
   · simp only [i_lt, i_le, i_eq, ti_0] at c_1
     refine lv_null hx hb dX9_openRun_17 ?_
     refine W_msr2 (fun hm1 hm2 hm3 => ?_)
     have hSl := S9_le h_i8 h_i9
     have hb0_ := h_i8.2.1 0 (by omega)
     have hb1_ := h_i8.2.1 1 (by omega)
     have hb2_ := h_i8.2.1 2 (by omega)
     refine W.widen (k := 20) (n := 300) (by omega) (by omega) ?_
     exact W.aret (v := .null) hx hb hr (Or.inl ⟨_, rfl⟩) (Or.inl rfl) (fun t ht hW => ⟨⟨none, (ad, ga, gc, M, n, f, T, G, K, F), rfl, (Or.inr ⟨rfl, ⟨(by show (C9.mk n f T G K F) = k_openR q v1 (C9.mk n f T G K F); have hX := (k_openR.eq_1 q v1 (C9.mk n f T G K F)).symm; (repeat (first | dsimp +instances only [c9n, c9f, c9T, c9G, c9K, c9F, b_come, b_leave, b_fill, awB, b_settle, b_wake, b_take, f_take, b_gather, f_gather, b_ask, a_ask, b_tell, c_close, d_close, k_add, k_rem, sco, k_clrF, k_mem, k_rebind, k_bnd, k_beg0, k_beg1, b_giveN, b_giveR, f_open, b_hand, k_op, b_turn, wlB, b_beat, f_anew, b_wipe, b_off, k_sadd, fits, frP, cntB, b_trace, b_child, k_lat, cond_true, cond_false, Option.elim_none, Option.elim_some, Option.getD_none, Option.getD_some] at hX | rw [if_pos (by first | with_reducible assumption | omega)] at hX | rw [if_neg (by first | with_reducible assumption | omega)] at hX | rw [jx_of (by omega)] at hX)); first | exact hX | (exfalso; omega) | exact hX), ⟨by show (n 0).toInt = (n 0).toInt; omega, by show S9 M gc + 16 * M ≤ S9 M gc + 16 * M; omega, by omega⟩⟩⟩), ws, by rw [ht]; exact hP, hD, hQ, ⟨h_i1, h_i2, h_i3, h_i4, h_i5, h_i6, h_i7, h_i8, h_i9, h_i10, h_i11⟩, by rw [ht]; show hpS s.heap + (260 * M + 2 * S9 M gc) ≤ hpS s.heap + (260 * M + 2 * S9 M gc); omega, by rw [ht]; show 16 * s.heap.size + (256 * M + S9 M gc) ≤ 16 * s.heap.size + (256 * M + S9 M gc); omega, by show (n 0).toInt ≤ (n 0).toInt; omega, (fun _ _ => rfl), by show M ≤ M; omega⟩, hS.F ht⟩) hS.2.2 dX9_openRun_18
   · simp only [i_lt, i_le, i_eq, ti_0] at c_1
     exact by
      refine lv_aload_n hx hb dX9_openRun_7 rfl (lv_at hl 0 rfl) ?_
      refine va_get (D := (dC, dI)) (ci := 9) (v := .int (n 0)) (C := RX9) (T := TX9) (N := 15) hx hb hg gb_9 hown hK hP 0 hQ.x0 rfl 5 (by decide) (hg _ gm_fieldLink_RX9_66_ErrandGuild_runCount_I_) (fun _ h9 => h9) rfl dX9_openRun_8 ?_
      refine lv_sipush (v := 200) hx hb dX9_openRun_11 (by decide) ?_
      refine lv_icmp_lt (tgt := 19) hx hb dX9_openRun_14 (by decide) (fun c_2 => ?_) (fun c_2 => ?_)
      · simp only [i_lt, i_le, i_eq, ti_200] at c_2
        refine lv_aload_n hx hb dX9_openRun_19 rfl (lv_at hl 0 rfl) ?_
        refine va_get (D := (dC, dI)) (ci := 9) (v := .ref (ad 40)) (C := RX9) (T := TX9) (N := 15) hx hb hg gb_9 hown hK hP 0 hQ.x0 rfl 4 (by decide) (hg _ gm_fieldLink_RX9_31_ErrandGuild_runs_ALErrandGuild_Run_) (fun _ h9 => h9) rfl dX9_openRun_20 ?_
        refine lv_aload_n hx hb dX9_openRun_23 rfl (lv_at hl 0 rfl) ?_
        refine va_get (D := (dC, dI)) (ci := 9) (v := .int (n 0)) (C := RX9) (T := TX9) (N := 15) hx hb hg gb_9 hown hK hP 0 hQ.x0 rfl 5 (by decide) (hg _ gm_fieldLink_RX9_66_ErrandGuild_runCount_I_) (fun _ h9 => h9) rfl dX9_openRun_24 ?_
        refine va_aldq hx hb hK hP 40 3 hQ.x40 rfl (vp_in_iff.mpr ⟨by omega, by omega⟩) dX9_openRun_27 ?_
        by_cases hrc : (n 0).toInt.toNat < M
        · refine W.eq (g2 := F0 m 28 ls [.ref (ad (50 + 16 * ((n 0).toInt.toNat)))]) (by rw [cl_eq, rnA_in hrc]; rfl) ?_
          exact by
           refine lv_astore_n (lv' := [(3, .ref (ad (50 + 16 * ((n 0).toInt.toNat)))), (0, .ref (ad 0)), (1, .int v1), (2, .ref (ad (50 + 16 * q)))]) hx hb dX9_openRun_28 rfl hl (by decide) rfl (fun ls hl => ?_)
           refine lv_aload_n hx hb dX9_openRun_29 rfl (lv_at hl 0 rfl) ?_
           refine lv_ifnonnull (tgt := 55) hx hb dX9_openRun_30 (by decide) ?_
           refine lv_aload_n hx hb dX9_openRun_55 rfl (lv_at hl 0 rfl) ?_
           refine lv_iload_n hx hb dX9_openRun_56 rfl (lv_at hl 2 rfl) ?_
           refine lv_aload_n hx hb dX9_openRun_57 rfl (lv_at hl 3 rfl) ?_
           have hFc := free_all hD hS hA
           refine W_msr2 (fun hm1 hm2 hm3 => ?_)
           refine va_callv (va_runV (As := [.int v1, .ref (ad (50 + 16 * q))]) (rest := []) ⟨hx, hb, hml, hown, hg⟩ (c_X7_begin_r l dC dI kc ws ad ga gc M n f T G K F R ((n 0).toInt.toNat) v1 q s.heap.size (hpS s.heap) hQ ⟨h_i1, h_i2, h_i3, h_i4, h_i5, h_i6, h_i7, h_i8, h_i9, h_i10, h_i11⟩ (by show ((n 0).toInt.toNat) < M; omega) (by show q < M; omega)) (cwV 2 hg (gw_V gm_methodLink_RX9_369_yX7_begin gm_instanceMethod_yX7_begin gm_selects_RX7_yX7_begin_yX7_begin gm_initialized_RX7 gm_code_yX7_begin_cX7_begin_3_none) rfl rfl rfl (by decide +kernel) ⟨Nat.le_of_ble_eq_true rfl, Nat.le_of_ble_eq_true rfl⟩) ⟨fun a U g mk q => by obtain ⟨q0, q1, q2, qP, qK, qD, qN⟩ := q; exact ⟨q0, q1, q2, qP, va_K.moved (u := U) (U := U.calling g mk a) (Vm.Alike.refl U.vm) qK, qD, nx_same (u := U) (U := U.calling g mk a) rfl qN⟩, va_recv hK hP (ci := 7) (q0 := (50 + 16 * ((n 0).toInt.toNat))) rfl (hQ.b0 hrc), fun U hU hW => ⟨rfl, by rw [hU], by rw [hU], by rw [hU]; exact hP, va_K.moved hW.alike hK, hD.weaken (fun _ _ _ _ => trivial), nx_warm hW hN⟩⟩ rfl rfl hl.1 rfl (lv_room (Nat.le_of_ble_eq_true rfl)) dX9_openRun_58 ⟨by show ce + 0 ≤ 20; omega, by show se + 0 ≤ 300; omega⟩) hS (fun q _ h => hFc q h) hFc (fun u_4 t H1 locs ht hvm hw hB hz1 hk1 hS => ?_)
           obtain ⟨ad_5, ga_6, gc_7, M_8, n_9, f_10, T_11, G_12, K_13, F_14⟩ := u_4
           have hB : ∃ w : va_W, va_P (dC, dI) vwCl w t.heap ∧ va_D (va_A ws s.heap.size) w ∧ Pic9 kc w ad ga gc M n f T G_12 K_13 F_14 ∧ I9 M n f T gc G_12 K_13 F_14 R ∧ hpS t.heap + (260 * M + 2 * S9 M gc) ≤ hpS s.heap + (260 * M + 2 * S9 M gc) ∧ 16 * t.heap.size + (256 * M + S9 M gc) ≤ 16 * s.heap.size + (256 * M + S9 M gc) := hB
           rw [ht] at hB
           obtain ⟨ws_15, hP, hD, hQ, hI_16, hy1, hy2⟩ := hB
           have hD := hD.weaken (fun k q _ h => hFc _ h)
           obtain ⟨i1_17, i2_18, i3_19, i4_20, i5_21, i6_22, i7_23, i8_24, i9_25, i10_26, i11_27⟩ := id hI_16
           have q1_ := i1_17
           unfold i1 at q1_
           have hSl := S9_le i8_24 i9_25
           have hb0_ := i8_24.2.1 0 (by omega)
           have hb1_ := i8_24.2.1 1 (by omega)
           have hb2_ := i8_24.2.1 2 (by omega)
           refine W_msr2 (fun hn1 hn2 hn3 => ?_)
           obtain ⟨ce2, se2, hk3, hk4, hr1, hr2⟩ : ∃ c2 s2 : Nat, H1.size ≤ s.heap.size + c2 ∧ hpS H1 ≤ hpS s.heap + s2 ∧ s2 + (260 * M + 2 * S9 M gc) ≤ (260 * M + 2 * S9 M gc) ∧ 16 * c2 + (256 * M + S9 M gc) ≤ (256 * M + S9 M gc) := ⟨H1.size - s.heap.size, hpS H1 - hpS s.heap, by omega, by omega, by have := hS.1; omega, by have := hS.1; omega⟩
           refine W_tightP hk3 hk4 ?_
           clear hm1 hm2 hm3 hn1 hn2 hn3 hk3 hk4
           clear hk1 hz1
           generalize ce2 = ce, se2 = se at hr1 hr2 ⊢
           generalize H1 = H at hP hS ⊢
           have hc_29 : (C9.mk n f T G_12 K_13 F_14) = k_begR ((n 0).toInt.toNat) q v1 (C9.mk n f T G K F) := hw.1
           have w_28 : (G_12 ((n 0).toInt.toNat) 2).toInt = 0 ∧ (G_12 ((n 0).toInt.toNat) 3).toInt = -1 ∧ K_13 ((n 0).toInt.toNat) 3 = none ∧ (∀ a : Nat, a ≠ ((n 0).toInt.toNat) → K_13 a = K a) := hw.2
           exact by
            refine lv_iconst (v := 0) hx hb dX9_openRun_61 (by decide) ?_
            refine lv_istore (lv' := [(4, .int 0), (3, .ref (ad (50 + 16 * ((n 0).toInt.toNat)))), (0, .ref (ad 0)), (1, .int v1), (2, .ref (ad (50 + 16 * q)))]) hx hb dX9_openRun_62 hl (by decide) rfl (fun ls hl => ?_)
            have L64 : ∀ (fuel : Nat) (x_30 : Int32)   (ws_32 : va_W) (F_31 : Nat → Nat → Nat → Int32) (ce se : Nat) (H : Heap) (locs : List Loc) (ls : Array Slot), (9 - x_30.toInt).toNat < fuel → (0 ≤ x_30.toInt ∧ x_30.toInt ≤ 8) → (itr (b_giveR (n 0).toInt.toNat q) f_open x_30.toInt.toNat (8 - x_30.toInt.toNat) (C9.mk n f T G_12 K_13 F_31) = k_openR q v1 (C9.mk n f T G K F)) → Pic9 kc ws_32 ad ga gc M n f T G_12 K_13 F_31 → I9 M n f T gc G_12 K_13 F_31 R → (se + (260 * M + 2 * S9 M gc) ≤ (260 * M + 2 * S9 M gc)) → (16 * ce + (256 * M + S9 M gc) ≤ (256 * M + S9 M gc)) → va_P (dC, dI) vwCl ws_32 H → va_D A ws_32 → va_S A s.heap H locs → lv_has ls 5 [(4, .int x_30), (3, .ref (ad (50 + 16 * ((n 0).toInt.toNat)))), (0, .ref (ad 0)), (1, .int v1), (2, .ref (ad (50 + 16 * q)))] → W p l e (headSpec (.code yX9_openRun cX9_openRun 5 (some (.object "ErrandGuild$Run")) :: gw) ({ frames := 3, cells := 20, slots := 300, locals := 67 })).room s m ([.ref (ad 0), .int v1, .ref (ad (50 + 16 * q))] : List Value).toArray below meth c H locs ce se (MQ below (va_Qq (fun (r : Option Nat) (u : (Nat → Nat) × (Nat → Nat) × (Nat → Nat) × Nat × (Nat → Int32) × (Nat → Nat → Int32) × (Nat → Option Nat) × (Nat → Nat → Int32) × (Nat → Nat → Option Nat) × (Nat → Nat → Nat → Int32)) => (r = some (u.1 (50 + 16 * (n 0).toInt.toNat)) ∧ (C9.mk u.2.2.2.2.1 f T u.2.2.2.2.2.2.2.1 u.2.2.2.2.2.2.2.2.1 u.2.2.2.2.2.2.2.2.2) = k_openR q v1 (C9.mk n f T G K F) ∧ (u.2.2.2.2.1 0).toInt = (n 0).toInt + 1 ∧ S9 u.2.2.2.1 u.2.2.1 + 16 * M ≤ S9 M gc + 16 * u.2.2.2.1 ∧ (∀ a j : Nat, (a : Int) < (n 0).toInt → u.2.2.2.2.2.2.2.2.1 a 3 = some j → (j : Int) < (n 0).toInt)) ∨ (r = none ∧ (C9.mk u.2.2.2.2.1 f T u.2.2.2.2.2.2.2.1 u.2.2.2.2.2.2.2.2.1 u.2.2.2.2.2.2.2.2.2) = k_openR q v1 (C9.mk n f T G K F) ∧ (u.2.2.2.2.1 0).toInt = (n 0).toInt ∧ S9 u.2.2.2.1 u.2.2.1 + 16 * M ≤ S9 M gc + 16 * u.2.2.2.1 ∧ 200 ≤ (n 0).toInt)) (fun u t => ∃ w : va_W, va_P (dC, dI) vwCl w t.heap ∧ va_D A w ∧ Pic9 kc w u.1 u.2.1 u.2.2.1 u.2.2.2.1 u.2.2.2.2.1 f T u.2.2.2.2.2.2.2.1 u.2.2.2.2.2.2.2.2.1 u.2.2.2.2.2.2.2.2.2 ∧ I9 u.2.2.2.1 u.2.2.2.2.1 f T u.2.2.1 u.2.2.2.2.2.2.2.1 u.2.2.2.2.2.2.2.2.1 u.2.2.2.2.2.2.2.2.2 R ∧ hpS t.heap + (260 * M + 2 * S9 M gc) ≤ (hpS s.heap) + (260 * u.2.2.2.1 + 2 * S9 u.2.2.2.1 u.2.2.1) ∧ 16 * t.heap.size + (256 * M + S9 M gc) ≤ 16 * s.heap.size + (256 * u.2.2.2.1 + S9 u.2.2.2.1 u.2.2.1) ∧ (n 0).toInt ≤ (u.2.2.2.2.1 0).toInt ∧ (∀ q : Nat, q < 50 + 16 * M → u.1 q = ad q) ∧ M ≤ u.2.2.2.1) A) ([.ref (ad 0), .int v1, .ref (ad (50 + 16 * q))] : List Value).toArray s 20 300 A) (F0 m 64 ls []) := by
              intro fuel
              induction fuel with
              | zero => intro x_30 ws_32 F_31 ce se H locs ls hm; exact absurd hm (Nat.not_lt_zero _)
              | succ fuel_38 ih_37 =>
                intro x_30 ws_32 F_31 ce se H locs ls hm_33 v_34 v_35 hQ hI_36 hr1 hr2 hP hD hS hl
                obtain ⟨i1_39, i2_40, i3_41, i4_42, i5_43, i6_44, i7_45, i8_46, i9_47, i10_48, i11_49⟩ := id hI_36
                have q1_ := i1_39
                unfold i1 at q1_
                have hSl := S9_le i8_46 i9_47
                have hb0_ := i8_46.2.1 0 (by omega)
                have hb1_ := i8_46.2.1 1 (by omega)
                have hb2_ := i8_46.2.1 2 (by omega)
                exact by
                 refine lv_iload hx hb dX9_openRun_64 (lv_at hl 0 rfl) ?_
                 refine lv_bipush (v := 8) hx hb dX9_openRun_66 (by decide) ?_
                 refine lv_icmp_ge (tgt := 107) hx hb dX9_openRun_68 (by decide) (fun c_50 => ?_) (fun c_50 => ?_)
                 · simp only [i_lt, i_le, i_eq, ti_8] at c_50
                   refine lv_aload_n hx hb dX9_openRun_107 rfl (lv_at hl 2 rfl) ?_
                   refine lv_dup hx hb dX9_openRun_108 rfl ?_
                   refine va_get (D := (dC, dI)) (ci := 9) (v := .int (n 0)) (C := RX9) (T := TX9) (N := 15) hx hb hg gb_9 hown hK hP 0 hQ.x0 rfl 5 (by decide) (hg _ gm_fieldLink_RX9_66_ErrandGuild_runCount_I_) (fun _ h9 => h9) rfl dX9_openRun_109 ?_
                   refine lv_iconst (v := 1) hx hb dX9_openRun_112 (by decide) ?_
                   refine lv_iadd hx hb dX9_openRun_113 ?_
                   refine lv_topi (fun z_51 ez_51 => ?_)
                   have tz_51 : z_51.toInt = (n 0).toInt + 1 := ar_add rfl ti_1 ez_51 (by omega)
                   refine va_put (D := (dC, dI)) (ci := 9) (v := .int (z_51)) (ty := .int) (C := RX9) (T := TX9) (N := 15) hx hb hg gb_9 tyX9 tyX9_ok nmX9 hown hK hP hD hS 0 hQ.x0 rfl 5 (by decide) (hg _ gm_fieldLink_RX9_66_ErrandGuild_runCount_I_) (fun _ h9 => h9) rfl (by decide +kernel) rfl rfl (Nat.le_of_ble_eq_true rfl) dX9_openRun_114 (fun H locs hP hD hS => ?_)
                   obtain ⟨ws_53, n_52, en_52, hP, hD, hQ⟩ : ∃ (ws_53 : va_W) (n_52 : Nat → Int32), n_52 = u1 n 0 z_51 ∧ va_P (dC, dI) vwCl ws_53 H ∧ va_D A ws_53 ∧ Pic9 kc ws_53 ad ga gc M n_52 f T G_12 K_13 F_31 := ⟨_, _, rfl, hP, hD, hQ.x9 0 5 (by decide) z_51⟩
                   have i1_54 : i1 M n_52 := by rw [en_52]; exact i1.inc i1_39 (by omega) (by omega)
                   have i5_55 : i5 n_52 K_13 := by rw [en_52]; exact i5.inc (a := (n 0).toInt.toNat) i5_43 (by omega) (by omega) w_28.2.2.1
                   have i6_56 : i6 n_52 T G_12 := by rw [en_52]; exact i6.inc (a := (n 0).toInt.toNat) i6_44 (by omega) (by omega) w_28.2.1
                   have i7_57 : i7 n_52 G_12 := by rw [en_52]; exact i7.inc (a := (n 0).toInt.toNat) i7_45 (by omega) (by omega) w_28.1
                   have i8_58 : i8 M n_52 gc G_12 := by rw [en_52]; exact (i8.pn i8_46 _ (by decide))
                   have i11_59 : i11 M n_52 gc f G_12 F_31 := by rw [en_52]; exact (i11.pn i11_49 _ (by decide))
                   have hn_60 : n_52 0 = z_51 := by rw [en_52]; exact u1_eq _ _ _
                   have thn_60 : (n_52 0).toInt = z_51.toInt := by rw [hn_60]
                   exact by
                    refine lv_aload_n hx hb dX9_openRun_117 rfl (lv_at hl 1 rfl) ?_
                    refine W_msr2 (fun hm1 hm2 hm3 => ?_)
                    have hSl := S9_le i8_58 i9_47
                    have hb0_ := i8_58.2.1 0 (by omega)
                    have hb1_ := i8_58.2.1 1 (by omega)
                    have hb2_ := i8_58.2.1 2 (by omega)
                    refine W.widen (k := 20) (n := 300) (by omega) (by omega) ?_
                    exact W.aret (v := .ref (ad (50 + 16 * ((n 0).toInt.toNat)))) hx hb hr (Or.inl ⟨_, rfl⟩) (Or.inr ⟨_, rfl⟩) (fun t ht hW => ⟨⟨some (ad (50 + 16 * ((n 0).toInt.toNat))), (ad, ga, gc, M, n_52, f, T, G_12, K_13, F_31), rfl, (Or.inl ⟨rfl, ⟨(by show (C9.mk n_52 f T G_12 K_13 F_31) = k_openR q v1 (C9.mk n f T G K F); subst en_52; subst ez_51; have hX := v_35; (first | rw [itr_go (by omega)] at hX | rw [itr_end (by omega)] at hX); (repeat (first | dsimp +instances only [c9n, c9f, c9T, c9G, c9K, c9F, b_come, b_leave, b_fill, awB, b_settle, b_wake, b_take, f_take, b_gather, f_gather, b_ask, a_ask, b_tell, c_close, d_close, k_add, k_rem, sco, k_clrF, k_mem, k_rebind, k_bnd, k_beg0, k_beg1, b_giveN, b_giveR, f_open, b_hand, k_op, b_turn, wlB, b_beat, f_anew, b_wipe, b_off, k_sadd, fits, frP, cntB, b_trace, b_child, k_lat, cond_true, cond_false, Option.elim_none, Option.elim_some, Option.getD_none, Option.getD_some] at hX | rw [if_pos (by first | with_reducible assumption | omega)] at hX | rw [if_neg (by first | with_reducible assumption | omega)] at hX | rw [jx_of (by omega)] at hX)); first | exact hX | (exfalso; omega) | exact hX), ⟨by show (n_52 0).toInt = (n 0).toInt + 1; omega, by show S9 M gc + 16 * M ≤ S9 M gc + 16 * M; omega, fun a j ha hj => h_i5 a j ha (by have hj : K_13 a 3 = some j := hj; rw [w_28.2.2.2 a (by omega)] at hj; exact hj)⟩⟩⟩), ws_53, by rw [ht]; exact hP, hD, hQ, ⟨i1_54, i2_40, i3_41, i4_42, i5_55, i6_56, i7_57, i8_58, i9_47, i10_48, i11_59⟩, by rw [ht]; show hpS H + (260 * M + 2 * S9 M gc) ≤ hpS s.heap + (260 * M + 2 * S9 M gc); omega, by rw [ht]; show 16 * H.size + (256 * M + S9 M gc) ≤ 16 * s.heap.size + (256 * M + S9 M gc); omega, by show (n 0).toInt ≤ (n_52 0).toInt; omega, (fun _ _ => rfl), by show M ≤ M; omega⟩, hS.F ht⟩) hS.2.2 dX9_openRun_118
                 · simp only [i_lt, i_le, i_eq, ti_8] at c_50
                   refine lv_aload_n hx hb dX9_openRun_71 rfl (lv_at hl 1 rfl) ?_
                   refine va_get (D := (dC, dI)) (ci := 7) (v := .ref (ad (50 + 16 * ((n 0).toInt.toNat) + 2))) (C := RX7) (T := TX7) (N := 15) hx hb hg gb_7 hown hK hP (50 + 16 * ((n 0).toInt.toNat)) (hQ.b0 hrc) rfl 11 (by decide) (hg _ gm_fieldLink_RX9_253_ErrandGuild_Run_memory_LErrandGuild_Memory_) (fun _ h9 => h9) rfl dX9_openRun_72 ?_
                   refine lv_iload hx hb dX9_openRun_75 (lv_at hl 0 rfl) ?_
                   refine lv_aload_n hx hb dX9_openRun_77 rfl (lv_at hl 4 rfl) ?_
                   refine lv_ifnonnull (tgt := 91) hx hb dX9_openRun_78 (by decide) ?_
                   refine lv_aload_n hx hb dX9_openRun_91 rfl (lv_at hl 2 rfl) ?_
                   refine lv_aload_n hx hb dX9_openRun_92 rfl (lv_at hl 4 rfl) ?_
                   refine lv_iload hx hb dX9_openRun_93 (lv_at hl 0 rfl) ?_
                   have hFc := free_all hD hS hA
                   refine W_msr2 (fun hm1 hm2 hm3 => ?_)
                   refine va_calli (va_runV (As := [.ref (ad (50 + 16 * q)), .int x_30]) (rest := [.int x_30, .ref (ad (50 + 16 * ((n 0).toInt.toNat) + 2))]) ⟨hx, hb, hml, hown, hg⟩ (c_X9_readIn l dC dI kc ws_32 ad ga gc M n f T G_12 K_13 F_31 R q x_30 H.size (hpS H) hQ ⟨i1_39, i2_40, i3_41, i4_42, i5_43, i6_44, i7_45, i8_46, i9_47, i10_48, i11_49⟩ (by show q < M; omega)) (cwV 2 hg (gw_V gm_methodLink_RX9_231_yX9_readIn gm_instanceMethod_yX9_readIn gm_selects_RX9_yX9_readIn_yX9_readIn gm_initialized_RX9 gm_code_yX9_readIn_cX9_readIn_3_some_int_) rfl rfl rfl (by decide +kernel) ⟨Nat.le_of_ble_eq_true rfl, Nat.le_of_ble_eq_true rfl⟩) ⟨fun a U g mk q => by obtain ⟨q0, q1, q2, qP, qK, qD, qN⟩ := q; exact ⟨q0, q1, q2, qP, va_K.moved (u := U) (U := U.calling g mk a) (Vm.Alike.refl U.vm) qK, qD, nx_same (u := U) (U := U.calling g mk a) rfl qN⟩, va_recv hK hP (ci := 9) (q0 := 0) rfl hQ.x0, fun U hU hW => ⟨rfl, by rw [hU], by rw [hU], by rw [hU]; exact hP, va_K.moved hW.alike hK, hD.weaken (fun _ _ _ _ => trivial), nx_warm hW hN⟩⟩ rfl rfl hl.1 rfl (lv_room (Nat.le_of_ble_eq_true rfl)) dX9_openRun_95 ⟨by show ce + 0 ≤ 20; omega, by show se + 0 ≤ 300; omega⟩) hS (fun q _ h => hFc q h) hFc (fun r_61 u_62 t H1 locs ht hvm hw hB hz1 hk1 hS => ?_)
                   obtain ⟨hP, hD, hy1, hy2⟩ := hB
                   rw [ht] at hP hy1 hy2
                   have hD := hD.weaken (fun k q _ h => hFc _ h)
                   refine W.widen (k := ce) (n := se) (Nat.le_refl _) (Nat.le_refl _) ?_
                   have q1_ := i1_39
                   unfold i1 at q1_
                   generalize H1 = H at hP hS ⊢
                   have hc_64 : r_61 = k_read (C9.mk n f T G_12 K_13 F_31) q x_30 := hw
                   have hCc : ([(50 + 16 * ((n 0).toInt.toNat) + 2), (50 + 16 * ((n 0).toInt.toNat) + 5)] : List Nat).map (fun i => ws_32[i]?) = ([(ad (50 + 16 * ((n 0).toInt.toNat) + 2), .inr (6, [.ref (ad (50 + 16 * ((n 0).toInt.toNat) + 3)), .ref (ad (50 + 16 * ((n 0).toInt.toNat) + 4)), .ref (ad (50 + 16 * ((n 0).toInt.toNat) + 5))])), (ad (50 + 16 * ((n 0).toInt.toNat) + 5), .inl (kc 0, 8, .inl (F_31 ((n 0).toInt.toNat) 2)))] : va_W).map some := mp2 (hQ.b2 hrc) (hQ.b5 hrc)
                   have hNd : ([(50 + 16 * ((n 0).toInt.toNat) + 2), (50 + 16 * ((n 0).toInt.toNat) + 5)] : List Nat).Nodup := (nd_off (50 + 16 * ((n 0).toInt.toNat)) (l := [2, 5]) (by decide))
                   have hPc := hP.pick [(50 + 16 * ((n 0).toInt.toNat) + 2), (50 + 16 * ((n 0).toInt.toNat) + 5)] hCc
                   have hDc := hD.pick [(50 + 16 * ((n 0).toInt.toNat) + 2), (50 + 16 * ((n 0).toInt.toNat) + 5)] hNd hCc
                   have hKc := hK.sub (tys' := [((kc 0), .int)]) [0] rfl
                   have hFc := va_free (wc := [(ad (50 + 16 * ((n 0).toInt.toNat) + 2), .inr (6, [.ref (ad (50 + 16 * ((n 0).toInt.toNat) + 3)), .ref (ad (50 + 16 * ((n 0).toInt.toNat) + 4)), .ref (ad (50 + 16 * ((n 0).toInt.toNat) + 5))])), (ad (50 + 16 * ((n 0).toInt.toNat) + 5), .inl (kc 0, 8, .inl (F_31 ((n 0).toInt.toNat) 2)))]) hD hS hA [(50 + 16 * ((n 0).toInt.toNat) + 2), (50 + 16 * ((n 0).toInt.toNat) + 5)] hCc
                   refine W_msr2 (fun hm1 hm2 hm3 => ?_)
                   exact by
                    refine va_callv (va_runV (As := [.int x_30, .int r_61]) (rest := []) ⟨hx, hb, hml, hown, hg⟩ (c_X6_give l dC dI (ad (50 + 16 * ((n 0).toInt.toNat) + 2)) (ad (50 + 16 * ((n 0).toInt.toNat) + 3)) (ad (50 + 16 * ((n 0).toInt.toNat) + 4)) (ad (50 + 16 * ((n 0).toInt.toNat) + 5)) (kc 0) (F_31 ((n 0).toInt.toNat) 2) x_30 r_61 H.size ) (cwV 2 hg (gw_V gm_methodLink_RX9_373_yX6_give gm_instanceMethod_yX6_give gm_selects_RX6_yX6_give_yX6_give gm_initialized_RX6 gm_code_yX6_give_cX6_give_3_none) rfl rfl rfl (by decide +kernel) ⟨Nat.le_of_ble_eq_true rfl, Nat.le_of_ble_eq_true rfl⟩) ⟨fun a U g mk q => by obtain ⟨q0, q1, qP, qK, qD, qN⟩ := q; exact ⟨q0, q1, qP, va_K.moved (u := U) (U := U.calling g mk a) (Vm.Alike.refl U.vm) qK, qD, nx_same (u := U) (U := U.calling g mk a) rfl qN⟩, va_recv hK hP (ci := 6) (q0 := (50 + 16 * ((n 0).toInt.toNat) + 2)) rfl (hQ.b2 hrc), fun U hU hW => ⟨rfl, by rw [hU], by rw [hU]; exact hPc, va_K.moved hW.alike hKc, hDc.weaken (fun _ _ _ _ => trivial), nx_warm hW hN⟩⟩ rfl rfl hl.1 rfl (lv_room (Nat.le_of_ble_eq_true rfl)) dX9_openRun_98 ⟨by show ce + 0 ≤ 20; omega, by show se + 0 ≤ 300; omega⟩) hS (fun q _ h => hFc q h) hFc (fun u_66 t H1 locs ht hvm hw hB hz1 hk1 hS => ?_)
                    obtain ⟨ad_67, ac_68, af_69, ag_70⟩ := u_66
                    obtain ⟨hP1, hD1, hK1, qe_71⟩ := hB
                    rw [ht] at hP1
                    have hP1 : va_P (dC, dI) vwCl [((ad (50 + 16 * ((n 0).toInt.toNat) + 2)), .inr (6, [.ref (ad (50 + 16 * ((n 0).toInt.toNat) + 3)), .ref (ad (50 + 16 * ((n 0).toInt.toNat) + 4)), .ref (ad (50 + 16 * ((n 0).toInt.toNat) + 5))])), ((ad (50 + 16 * ((n 0).toInt.toNat) + 5)), .inl ((kc 0), 8, .inl (af_69 2)))] H1 := hP1
                    have hD1 : va_D _ [((ad (50 + 16 * ((n 0).toInt.toNat) + 2)), .inr (6, [.ref (ad (50 + 16 * ((n 0).toInt.toNat) + 3)), .ref (ad (50 + 16 * ((n 0).toInt.toNat) + 4)), .ref (ad (50 + 16 * ((n 0).toInt.toNat) + 5))])), ((ad (50 + 16 * ((n 0).toInt.toNat) + 5)), .inl ((kc 0), 8, .inl (af_69 2)))] := hD1
                    have qe_71 : (af_69 2) = st8 (F_31 ((n 0).toInt.toNat) 2) x_30 r_61 := qe_71
                    rw [qe_71] at hP1 hD1
                    obtain ⟨hP, hD⟩ := va_repl (w1 := [((ad (50 + 16 * ((n 0).toInt.toNat) + 2)), .inr (6, [.ref (ad (50 + 16 * ((n 0).toInt.toNat) + 3)), .ref (ad (50 + 16 * ((n 0).toInt.toNat) + 4)), .ref (ad (50 + 16 * ((n 0).toInt.toNat) + 5))])), ((ad (50 + 16 * ((n 0).toInt.toNat) + 5)), .inl ((kc 0), 8, .inl (st8 (F_31 ((n 0).toInt.toNat) 2) x_30 r_61)))]) hP hD [(50 + 16 * ((n 0).toInt.toNat) + 2), (50 + 16 * ((n 0).toInt.toNat) + 5)] hCc hNd rfl hk1 hFc hP1 hD1
                    obtain ⟨ws_73, F_72, eF_72, hP, hD, hQ⟩ : ∃ (ws_73 : va_W) (F_72 : Nat → Nat → Nat → Int32), F_72 = u2 F_31 ((n 0).toInt.toNat) 2 (st8 (F_31 ((n 0).toInt.toNat) 2) x_30 r_61) ∧ va_P (dC, dI) vwCl ws_73 H1 ∧ va_D A ws_73 ∧ Pic9 kc ws_73 ad ga gc M n f T G_12 K_13 F_72 := ⟨_, _, rfl, hP, hD, (hQ.same (hQ.b2 hrc)).arr hrc 5 2 (by decide) (st8 (F_31 ((n 0).toInt.toNat) 2) x_30 r_61) rfl⟩
                    have i10_74 : i10 M G_12 K_13 F_72 := by rw [eF_72]; exact (i10.pF i10_48 hrc _ _)
                    have i11_75 : i11 M n gc f G_12 F_72 := by rw [eF_72]; exact (i11.pF i11_49 ((n 0).toInt.toNat) _ (by decide))
                    refine W.widen (k := ce) (n := se) (Nat.le_refl _) (Nat.le_refl _) ?_
                    generalize H1 = H at hP hS ⊢
                    obtain ⟨y_76, ey_76⟩ : ∃ q : Int32, q = x_30 + (1) := ⟨_, rfl⟩
                    exact by
                     refine lv_iinc (v := y_76) (lv' := [(4, .int y_76), (3, .ref (ad (50 + 16 * ((n 0).toInt.toNat)))), (0, .ref (ad 0)), (1, .int v1), (2, .ref (ad (50 + 16 * q)))]) hx hb dX9_openRun_101 hl (k := 0) rfl (by rw [ey_76]; rfl) (by decide) rfl (fun ls hl => ?_)
                     have ty_76 : y_76.toInt = x_30.toInt + (1) := ar_add rfl ti_1 ey_76 (by omega)
                     refine lv_goto (tgt := 64) hx hb dX9_openRun_104 (by decide) ?_
                     exact ih_37 y_76   ws_73 F_72 ce se H locs ls (by show (9 - y_76.toInt).toNat < _; omega) (by show 0 ≤ y_76.toInt ∧ y_76.toInt ≤ 8; omega) (by show itr (b_giveR (n 0).toInt.toNat q) f_open y_76.toInt.toNat (8 - y_76.toInt.toNat) (C9.mk n f T G_12 K_13 F_72) = k_openR q v1 (C9.mk n f T G K F); subst eF_72; have hX := v_35; (first | rw [itr_go (by omega)] at hX | rw [itr_end (by omega)] at hX); (repeat (first | dsimp +instances only [c9n, c9f, c9T, c9G, c9K, c9F, b_come, b_leave, b_fill, awB, b_settle, b_wake, b_take, f_take, b_gather, f_gather, b_ask, a_ask, b_tell, c_close, d_close, k_add, k_rem, sco, k_clrF, k_mem, k_rebind, k_bnd, k_beg0, k_beg1, b_giveN, b_giveR, f_open, b_hand, k_op, b_turn, wlB, b_beat, f_anew, b_wipe, b_off, k_sadd, fits, frP, cntB, b_trace, b_child, k_lat, cond_true, cond_false, Option.elim_none, Option.elim_some, Option.getD_none, Option.getD_some] at hX | rw [← hc_64] at hX | rw [if_pos (by first | with_reducible assumption | omega)] at hX | rw [if_neg (by first | with_reducible assumption | omega)] at hX | rw [jx_of (by omega)] at hX)); (rw [show y_76.toInt.toNat = x_30.toInt.toNat + 1 by omega]); first | exact hX | (exfalso; omega) | exact hX) hQ ⟨i1_39, i2_40, i3_41, i4_42, i5_43, i6_44, i7_45, i8_46, i9_47, i10_74, i11_75⟩ hr1 hr2 hP hD hS (lv_sub hl [0, 1, 2, 3, 4] rfl)
            exact L64 _ (0 : Int32)   ws_15 F_14 ce se _ _ _ (Nat.lt_succ_self _) (by have t_0 := ti_0; show 0 ≤ (0 : Int32).toInt ∧ (0 : Int32).toInt ≤ 8; omega) (by show itr (b_giveR (n 0).toInt.toNat q) f_open (0 : Int32).toInt.toNat (8 - (0 : Int32).toInt.toNat) (C9.mk n f T G_12 K_13 F_14) = k_openR q v1 (C9.mk n f T G K F); have hX := (k_openR.eq_1 q v1 (C9.mk n f T G K F)).symm; (repeat (first | dsimp +instances only [c9n, c9f, c9T, c9G, c9K, c9F, b_come, b_leave, b_fill, awB, b_settle, b_wake, b_take, f_take, b_gather, f_gather, b_ask, a_ask, b_tell, c_close, d_close, k_add, k_rem, sco, k_clrF, k_mem, k_rebind, k_bnd, k_beg0, k_beg1, b_giveN, b_giveR, f_open, b_hand, k_op, b_turn, wlB, b_beat, f_anew, b_wipe, b_off, k_sadd, fits, frP, cntB, b_trace, b_child, k_lat, cond_true, cond_false, Option.elim_none, Option.elim_some, Option.getD_none, Option.getD_some] at hX | rw [← hc_29] at hX | rw [if_pos (by first | with_reducible assumption | omega)] at hX | rw [if_neg (by first | with_reducible assumption | omega)] at hX | rw [jx_of (by omega)] at hX)); (skip); first | exact hX | (exfalso; omega) | exact hX) hQ ⟨i1_17, i2_18, i3_19, i4_20, i5_21, i6_22, i7_23, i8_24, i9_25, i10_26, i11_27⟩ hr1 hr2 hP hD hS (lv_sub hl [0, 1, 2, 3, 4] rfl)
        · refine W.eq (g2 := F0 m 28 ls [.null]) (by rw [cl_eq, rnA_out hrc]; rfl) ?_
          refine lv_astore_nN (lv' := [(3, .null), (0, .ref (ad 0)), (1, .int v1), (2, .ref (ad (50 + 16 * q)))]) hx hb dX9_openRun_28 rfl hl (by decide) rfl (fun ls hl => ?_)
          refine lv_aload_nN hx hb dX9_openRun_29 rfl (lv_at hl 0 rfl) ?_
          refine lv_ifnonnullN hx hb dX9_openRun_30 ?_
          have hMe : M = (n 0).toInt.toNat := by omega
          refine va_new (ci := 7) (fs := [.int 0, .int 0, .int 0, .int 0, .int 0, .int 0, .int 0, .int 0, .int 0, .int 0, .null, .null, .null, .null, .null]) (C := RX7) (T := TX7) (N := 15) hx hb hg gb_7 tyX7 tyX7_ok hown (hg _ gm_classLink_RX9_29_RX7) (hg _ gm_instantiable_RX7_15) (hg _ gm_initialized_RX7) hK hP hD hS hA rfl df_X7 (by show ce + 1 ≤ 20; omega) (by show se + 15 ≤ 300; omega) dX9_openRun_33 (fun q0 H hP hD hS => ?_)
          refine lv_dup hx hb dX9_openRun_36 rfl ?_
          refine lv_aload_n hx hb dX9_openRun_37 rfl (lv_at hl 1 rfl) ?_
          refine va_get (D := (dC, dI)) (ci := 9) (v := .int (n 0)) (C := RX9) (T := TX9) (N := 15) hx hb hg gb_9 hown hK hP 0 (ap_l hQ.x0) rfl 5 (by decide) (hg _ gm_fieldLink_RX9_66_ErrandGuild_runCount_I_) (fun _ h9 => h9) rfl dX9_openRun_38 ?_
          have hw0 : (ws ++ [(q0, .inr (7, [.int 0, .int 0, .int 0, .int 0, .int 0, .int 0, .int 0, .int 0, .int 0, .int 0, .null, .null, .null, .null, .null]))])[50 + 16 * M]? = some (q0, .inr (7, [.int 0, .int 0, .int 0, .int 0, .int 0, .int 0, .int 0, .int 0, .int 0, .int 0, .null, .null, .null, .null, .null])) := ap_0 hQ.1
          have hCc : ([50 + 16 * M] : List Nat).map (fun i => (ws ++ [(q0, .inr (7, [.int 0, .int 0, .int 0, .int 0, .int 0, .int 0, .int 0, .int 0, .int 0, .int 0, .null, .null, .null, .null, .null]))])[i]?) = ([(q0, .inr (7, [.int 0, .int 0, .int 0, .int 0, .int 0, .int 0, .int 0, .int 0, .int 0, .int 0, .null, .null, .null, .null, .null]))] : va_W).map some := mp1 hw0
          have hPc := hP.pick [50 + 16 * M] hCc
          have hDc := hD.pick [50 + 16 * M] (List.nodup_cons.mpr ⟨List.not_mem_nil, List.nodup_nil⟩) hCc
          have hKc := hK.sub (tys' := []) [] rfl
          have hFc := va_free (wc := [(q0, .inr (7, [.int 0, .int 0, .int 0, .int 0, .int 0, .int 0, .int 0, .int 0, .int 0, .int 0, .null, .null, .null, .null, .null]))]) hD hS hA [50 + 16 * M] hCc
          exact by
           refine va_callv (va_runI (As := [.int (n 0)]) (rest := [.ref q0]) ⟨hx, hb, hml, hown, hg⟩ (c_X7_init l dC dI q0 (n 0) H.size) (cwI 1 hg (gw_c gm_code_yX7_init_cX7_init_2_none) rfl rfl rfl (hg _ gm_initialized_RX7) (hg _ gm_methodLink_RX9_368_yX7_init) (hg _ gm_instanceMethod_yX7_init) rfl (by decide +kernel) ⟨Nat.le_of_ble_eq_true rfl, Nat.le_of_ble_eq_true rfl⟩) ⟨fun a U g mk q => by obtain ⟨q0, q1, qP, qK, qD, qN⟩ := q; exact ⟨q0, q1, qP, va_K.moved (u := U) (U := U.calling g mk a) (Vm.Alike.refl U.vm) qK, qD, nx_same (u := U) (U := U.calling g mk a) rfl qN⟩, fun U hU hW => ⟨rfl, by rw [hU], by rw [hU]; exact hPc, va_K.moved hW.alike hKc, hDc.weaken (fun _ _ _ _ => trivial), nx_warm hW hN⟩⟩ rfl rfl hl.1 rfl (lv_room (Nat.le_of_ble_eq_true rfl)) dX9_openRun_41 ⟨by show ce + 1 + 15 ≤ 20; omega, by show se + 15 + 213 ≤ 300; omega⟩) hS (fun q _ h => hFc q h) hFc (fun u1_ t H1 locs ht hvm hw hB hz1 hk1 hS => ?_)
           obtain ⟨qa, qc, qf, qg⟩ := u1_
           obtain ⟨hP1, hD1, hK1⟩ := hB
           rw [ht] at hP1
           have hK1 := va_K.moved hvm.symm hK1
           have hK1 : va_K (dC, dI) vwCl [(qc 3, .boolean), (qc 4, .int), (qc 5, .int), (qc 7, .int), (qc 8, .int), (qc 9, .int), (qc 10, .int), (qc 11, .int), (qc 12, .int), (qc 15, .int)] s := hK1
           have kq3 : qc 3 = kc 1 := va_K.one (hK1.sub (tys' := [(qc 3, .boolean)]) [0] rfl) (hK.sub (tys' := [(kc 1, .boolean)]) [1] rfl)
           have kq4 : qc 4 = kc 0 := va_K.one (hK1.sub (tys' := [(qc 4, .int)]) [1] rfl) (hK.sub (tys' := [(kc 0, .int)]) [0] rfl)
           have kq5 : qc 5 = kc 0 := va_K.one (hK1.sub (tys' := [(qc 5, .int)]) [2] rfl) (hK.sub (tys' := [(kc 0, .int)]) [0] rfl)
           have kq7 : qc 7 = kc 0 := va_K.one (hK1.sub (tys' := [(qc 7, .int)]) [3] rfl) (hK.sub (tys' := [(kc 0, .int)]) [0] rfl)
           have kq8 : qc 8 = kc 0 := va_K.one (hK1.sub (tys' := [(qc 8, .int)]) [4] rfl) (hK.sub (tys' := [(kc 0, .int)]) [0] rfl)
           have kq9 : qc 9 = kc 0 := va_K.one (hK1.sub (tys' := [(qc 9, .int)]) [5] rfl) (hK.sub (tys' := [(kc 0, .int)]) [0] rfl)
           have kq10 : qc 10 = kc 0 := va_K.one (hK1.sub (tys' := [(qc 10, .int)]) [6] rfl) (hK.sub (tys' := [(kc 0, .int)]) [0] rfl)
           have kq11 : qc 11 = kc 0 := va_K.one (hK1.sub (tys' := [(qc 11, .int)]) [7] rfl) (hK.sub (tys' := [(kc 0, .int)]) [0] rfl)
           have kq12 : qc 12 = kc 0 := va_K.one (hK1.sub (tys' := [(qc 12, .int)]) [8] rfl) (hK.sub (tys' := [(kc 0, .int)]) [0] rfl)
           have kq15 : qc 15 = kc 0 := va_K.one (hK1.sub (tys' := [(qc 15, .int)]) [9] rfl) (hK.sub (tys' := [(kc 0, .int)]) [0] rfl)
           have hP1 : va_P (dC, dI) vwCl [(q0, .inr (7, [.int (n 0), .int 0, .int 0, .int 0, .int 0, .int 0, .int 0, .int 0, .int 0, .int 0, .ref (qa 1), .ref (qa 2), .ref (qa 6), .ref (qa 13), .ref (qa 14)])), (qa 1, .inr (4, [.null, .null, .int 0, .int 0, .int 0, .null, .null, .null, .int 0])), (qa 2, .inr (6, [.ref (qa 3), .ref (qa 4), .ref (qa 5)])), (qa 3, .inl (qc 3, 8, .inl (fun _ => 0))), (qa 4, .inl (qc 4, 8, .inl (fun _ => 0))), (qa 5, .inl (qc 5, 8, .inl (fun _ => 0))), (qa 6, .inr (8, [.ref (qa 7), .ref (qa 8), .ref (qa 9), .int 0, .ref (qa 10), .ref (qa 11), .ref (qa 12), .int 0, .int 0])), (qa 7, .inl (qc 7, 24, .inl (fun _ => 0))), (qa 8, .inl (qc 8, 24, .inl (fun _ => 0))), (qa 9, .inl (qc 9, 24, .inl (fun _ => 0))), (qa 10, .inl (qc 10, 24, .inl (fun _ => 0))), (qa 11, .inl (qc 11, 24, .inl (fun _ => 0))), (qa 12, .inl (qc 12, 24, .inl (fun _ => 0))), (qa 13, .inr (2, [.int 0, .int 0, .int 0, .int 0, .int 0])), (qa 14, .inr (0, [.int 1048576, .ref (qa 15), .int 0])), (qa 15, .inl (qc 15, 16, .inl (fun _ => 0)))] H1 := hP1
           have hD1 : va_D _ [(q0, .inr (7, [.int (n 0), .int 0, .int 0, .int 0, .int 0, .int 0, .int 0, .int 0, .int 0, .int 0, .ref (qa 1), .ref (qa 2), .ref (qa 6), .ref (qa 13), .ref (qa 14)])), (qa 1, .inr (4, [.null, .null, .int 0, .int 0, .int 0, .null, .null, .null, .int 0])), (qa 2, .inr (6, [.ref (qa 3), .ref (qa 4), .ref (qa 5)])), (qa 3, .inl (qc 3, 8, .inl (fun _ => 0))), (qa 4, .inl (qc 4, 8, .inl (fun _ => 0))), (qa 5, .inl (qc 5, 8, .inl (fun _ => 0))), (qa 6, .inr (8, [.ref (qa 7), .ref (qa 8), .ref (qa 9), .int 0, .ref (qa 10), .ref (qa 11), .ref (qa 12), .int 0, .int 0])), (qa 7, .inl (qc 7, 24, .inl (fun _ => 0))), (qa 8, .inl (qc 8, 24, .inl (fun _ => 0))), (qa 9, .inl (qc 9, 24, .inl (fun _ => 0))), (qa 10, .inl (qc 10, 24, .inl (fun _ => 0))), (qa 11, .inl (qc 11, 24, .inl (fun _ => 0))), (qa 12, .inl (qc 12, 24, .inl (fun _ => 0))), (qa 13, .inr (2, [.int 0, .int 0, .int 0, .int 0, .int 0])), (qa 14, .inr (0, [.int 1048576, .ref (qa 15), .int 0])), (qa 15, .inl (qc 15, 16, .inl (fun _ => 0)))] := hD1
           rw [kq3, kq4, kq5, kq7, kq8, kq9, kq10, kq11, kq12, kq15] at hP1 hD1
           obtain ⟨qq, hqq⟩ : ∃ f : Nat → Nat, f = (fun j => match j with | 0 => q0 | j + 1 => qa (j + 1)) := ⟨_, rfl⟩
           have hP1 : va_P (dC, dI) vwCl (cells16 kc qq (n 0)) H1 := by rw [hqq]; exact hP1
           have hD1 : va_D (va_A [(q0, .inr (7, [.int 0, .int 0, .int 0, .int 0, .int 0, .int 0, .int 0, .int 0, .int 0, .int 0, .null, .null, .null, .null, .null]))] H.size) (cells16 kc qq (n 0)) := by rw [hqq]; exact hD1
           have hq0 : qq 0 = q0 := by rw [hqq]
           obtain ⟨hP, hD⟩ := va_appR hP hD hk1 hFc hP1 hD1
           clear hP1 hD1 hk1 hz1 hPc hDc hKc hCc hw0
           generalize H1 = H at hP hS ⊢
           rw [← hq0]
           refine W.eq (g2 := F0 m 44 ls [.ref (qq 0)]) rfl ?_
           exact by
            refine lv_astore_n (lv' := [(3, .ref (qq 0)), (0, .ref (ad 0)), (1, .int v1), (2, .ref (ad (50 + 16 * q)))]) hx hb dX9_openRun_44 rfl hl (by decide) rfl (fun ls hl => ?_)
            refine lv_aload_n hx hb dX9_openRun_45 rfl (lv_at hl 1 rfl) ?_
            refine va_get (D := (dC, dI)) (ci := 9) (v := .ref (ad 40)) (C := RX9) (T := TX9) (N := 15) hx hb hg gb_9 hown hK hP 0 (ap_l hQ.x0) rfl 4 (by decide) (hg _ gm_fieldLink_RX9_31_ErrandGuild_runs_ALErrandGuild_Run_) (fun _ h9 => h9) rfl dX9_openRun_46 ?_
            refine lv_aload_n hx hb dX9_openRun_49 rfl (lv_at hl 1 rfl) ?_
            refine va_get (D := (dC, dI)) (ci := 9) (v := .int (n 0)) (C := RX9) (T := TX9) (N := 15) hx hb hg gb_9 hown hK hP 0 (ap_l hQ.x0) rfl 5 (by decide) (hg _ gm_fieldLink_RX9_66_ErrandGuild_runCount_I_) (fun _ h9 => h9) rfl dX9_openRun_50 ?_
            refine lv_aload_n hx hb dX9_openRun_53 rfl (lv_at hl 0 rfl) ?_
            refine va_astq (r := (RX7, TX7, 15)) hx hb hK hP hD hS 40 3 (50 + 16 * M) 7 (ap_l hQ.x40) rfl (ap_0 hQ.1) rfl (vp_in_iff.mpr ⟨by omega, by omega⟩) dX9_openRun_54 (fun H locs hP hD hS => ?_)
            have hix : Int32.toNatClampNeg (n 0) = M := by rw [cl_eq]; omega
            rw [hix] at hP hD
            obtain ⟨ws_81, ad_77, ga_78, gc_79, M_80, ead_77, ega_78, egc_79, eM_80, hP, hD, hQ⟩ : ∃ (ws_81 : va_W) (ad_77 : Nat → Nat) (ga_78 : Nat → Nat) (gc_79 : Nat → Nat) (M_80 : Nat), ad_77 = adX ad M qq ∧ ga_78 = u1 ga (3 + M) (qq 15) ∧ gc_79 = u1 gc (3 + M) 16 ∧ M_80 = M + 1 ∧ va_P (dC, dI) vwCl ws_81 H ∧ va_D A ws_81 ∧ Pic9 kc ws_81 ad_77 ga_78 gc_79 M_80 n f T G K F := ⟨_, _, _, _, _, rfl, rfl, rfl, rfl, hP, hD, (by have z := hQ.push h_i2 h_i3 qq (n 0); rw [h_i10.sameG (by omega), h_i10.sameK, h_i10.sameF] at z; exact z)⟩
            have hI2 : I9 M_80 n f T gc_79 G K F R := by rw [eM_80, egc_79]; exact I9.pushX hI (by omega) (by omega)
            obtain ⟨i1_82, i2_83, i3_84, i4_85, i5_86, i6_87, i7_88, i8_89, i9_90, i10_91, i11_92⟩ := id hI2
            have q1_ := i1_82
            unfold i1 at q1_
            have hS9 : S9 M_80 gc_79 = S9 M gc + 16 := by rw [eM_80, egc_79]; exact S9_push
            have hE1 : ∀ q : Nat, q < 50 + 16 * M → ad_77 q = ad q := fun q hq => by rw [ead_77]; exact adX_lt hq
            have hrc2 : (n 0).toInt.toNat < M_80 := by omega
            have hqa : qq 0 = ad_77 (50 + 16 * (n 0).toInt.toNat) := by rw [← hMe, ead_77]; exact adX_new0.symm
            rw [hqa] at hl
            obtain ⟨ce2, hce2⟩ : ∃ q : Nat, q = ce + 16 := ⟨_, rfl⟩
            obtain ⟨se2, hse2⟩ : ∃ q : Nat, q = se + 228 := ⟨_, rfl⟩
            refine W.widen (k := ce2) (n := se2) (by omega) (by omega) ?_
            have hr1 : se2 + (260 * M + 2 * S9 M gc) ≤ (260 * M_80 + 2 * S9 M_80 gc_79) := by omega
            have hr2 : 16 * ce2 + (256 * M + S9 M gc) ≤ (256 * M_80 + S9 M_80 gc_79) := by omega
            generalize ce2 = ce, se2 = se at hr1 hr2 ⊢
            have hl : lv_has ls 5 [(3, .ref (ad_77 (50 + 16 * ((n 0).toInt.toNat)))), (0, .ref (ad_77 0)), (1, .int v1), (2, .ref (ad_77 (50 + 16 * q)))] := by rw [hE1 0 (by omega), hE1 (50 + 16 * q) (by omega)]; exact hl
            exact by
             refine lv_aload_n hx hb dX9_openRun_55 rfl (lv_at hl 0 rfl) ?_
             refine lv_iload_n hx hb dX9_openRun_56 rfl (lv_at hl 2 rfl) ?_
             refine lv_aload_n hx hb dX9_openRun_57 rfl (lv_at hl 3 rfl) ?_
             have hFc := free_all hD hS hA
             refine W_msr2 (fun hm1 hm2 hm3 => ?_)
             refine va_callv (va_runV (As := [.int v1, .ref (ad_77 (50 + 16 * q))]) (rest := []) ⟨hx, hb, hml, hown, hg⟩ (c_X7_begin_r l dC dI kc ws_81 ad_77 ga_78 gc_79 M_80 n f T G K F R ((n 0).toInt.toNat) v1 q H.size (hpS H) hQ ⟨i1_82, i2_83, i3_84, i4_85, i5_86, i6_87, i7_88, i8_89, i9_90, i10_91, i11_92⟩ (by show ((n 0).toInt.toNat) < M_80; omega) (by show q < M_80; omega)) (cwV 2 hg (gw_V gm_methodLink_RX9_369_yX7_begin gm_instanceMethod_yX7_begin gm_selects_RX7_yX7_begin_yX7_begin gm_initialized_RX7 gm_code_yX7_begin_cX7_begin_3_none) rfl rfl rfl (by decide +kernel) ⟨Nat.le_of_ble_eq_true rfl, Nat.le_of_ble_eq_true rfl⟩) ⟨fun a U g mk q => by obtain ⟨q0, q1, q2, qP, qK, qD, qN⟩ := q; exact ⟨q0, q1, q2, qP, va_K.moved (u := U) (U := U.calling g mk a) (Vm.Alike.refl U.vm) qK, qD, nx_same (u := U) (U := U.calling g mk a) rfl qN⟩, va_recv hK hP (ci := 7) (q0 := (50 + 16 * ((n 0).toInt.toNat))) rfl (hQ.b0 hrc2), fun U hU hW => ⟨rfl, by rw [hU], by rw [hU], by rw [hU]; exact hP, va_K.moved hW.alike hK, hD.weaken (fun _ _ _ _ => trivial), nx_warm hW hN⟩⟩ rfl rfl hl.1 rfl (lv_room (Nat.le_of_ble_eq_true rfl)) dX9_openRun_58 ⟨by show ce + 0 ≤ 20; omega, by show se + 0 ≤ 300; omega⟩) hS (fun q _ h => hFc q h) hFc (fun u_94 t H1 locs ht hvm hw hB hz1 hk1 hS => ?_)
             obtain ⟨ad_95, ga_96, gc_97, M_98, n_99, f_100, T_101, G_102, K_103, F_104⟩ := u_94
             have hB : ∃ w : va_W, va_P (dC, dI) vwCl w t.heap ∧ va_D (va_A ws_81 H.size) w ∧ Pic9 kc w ad_77 ga_78 gc_79 M_80 n f T G_102 K_103 F_104 ∧ I9 M_80 n f T gc_79 G_102 K_103 F_104 R ∧ hpS t.heap + (260 * M_80 + 2 * S9 M_80 gc_79) ≤ hpS H + (260 * M_80 + 2 * S9 M_80 gc_79) ∧ 16 * t.heap.size + (256 * M_80 + S9 M_80 gc_79) ≤ 16 * H.size + (256 * M_80 + S9 M_80 gc_79) := hB
             rw [ht] at hB
             obtain ⟨ws_105, hP, hD, hQ, hI_106, hy1, hy2⟩ := hB
             have hD := hD.weaken (fun k q _ h => hFc _ h)
             obtain ⟨i1_107, i2_108, i3_109, i4_110, i5_111, i6_112, i7_113, i8_114, i9_115, i10_116, i11_117⟩ := id hI_106
             have q1_ := i1_107
             unfold i1 at q1_
             have hSl := S9_le i8_114 i9_115
             have hb0_ := i8_114.2.1 0 (by omega)
             have hb1_ := i8_114.2.1 1 (by omega)
             have hb2_ := i8_114.2.1 2 (by omega)
             refine W_msr2 (fun hn1 hn2 hn3 => ?_)
             obtain ⟨ce2, se2, hk3, hk4, hr1, hr2⟩ : ∃ c2 s2 : Nat, H1.size ≤ s.heap.size + c2 ∧ hpS H1 ≤ hpS s.heap + s2 ∧ s2 + (260 * M + 2 * S9 M gc) ≤ (260 * M_80 + 2 * S9 M_80 gc_79) ∧ 16 * c2 + (256 * M + S9 M gc) ≤ (256 * M_80 + S9 M_80 gc_79) := ⟨H1.size - s.heap.size, hpS H1 - hpS s.heap, by omega, by omega, by have := hS.1; omega, by have := hS.1; omega⟩
             refine W_tightP hk3 hk4 ?_
             clear hm1 hm2 hm3 hn1 hn2 hn3 hk3 hk4
             clear hk1 hz1
             generalize ce2 = ce, se2 = se at hr1 hr2 ⊢
             generalize H1 = H at hP hS ⊢
             have hc_119 : (C9.mk n f T G_102 K_103 F_104) = k_begR ((n 0).toInt.toNat) q v1 (C9.mk n f T G K F) := hw.1
             have w_118 : (G_102 ((n 0).toInt.toNat) 2).toInt = 0 ∧ (G_102 ((n 0).toInt.toNat) 3).toInt = -1 ∧ K_103 ((n 0).toInt.toNat) 3 = none ∧ (∀ a : Nat, a ≠ ((n 0).toInt.toNat) → K_103 a = K a) := hw.2
             exact by
              refine lv_iconst (v := 0) hx hb dX9_openRun_61 (by decide) ?_
              refine lv_istore (lv' := [(4, .int 0), (3, .ref (ad_77 (50 + 16 * ((n 0).toInt.toNat)))), (0, .ref (ad_77 0)), (1, .int v1), (2, .ref (ad_77 (50 + 16 * q)))]) hx hb dX9_openRun_62 hl (by decide) rfl (fun ls hl => ?_)
              have L64 : ∀ (fuel : Nat) (x_120 : Int32)   (ws_122 : va_W) (F_121 : Nat → Nat → Nat → Int32) (ce se : Nat) (H : Heap) (locs : List Loc) (ls : Array Slot), (9 - x_120.toInt).toNat < fuel → (0 ≤ x_120.toInt ∧ x_120.toInt ≤ 8) → (itr (b_giveR (n 0).toInt.toNat q) f_open x_120.toInt.toNat (8 - x_120.toInt.toNat) (C9.mk n f T G_102 K_103 F_121) = k_openR q v1 (C9.mk n f T G K F)) → Pic9 kc ws_122 ad_77 ga_78 gc_79 M_80 n f T G_102 K_103 F_121 → I9 M_80 n f T gc_79 G_102 K_103 F_121 R → (se + (260 * M + 2 * S9 M gc) ≤ (260 * M_80 + 2 * S9 M_80 gc_79)) → (16 * ce + (256 * M + S9 M gc) ≤ (256 * M_80 + S9 M_80 gc_79)) → va_P (dC, dI) vwCl ws_122 H → va_D A ws_122 → va_S A s.heap H locs → lv_has ls 5 [(4, .int x_120), (3, .ref (ad_77 (50 + 16 * ((n 0).toInt.toNat)))), (0, .ref (ad_77 0)), (1, .int v1), (2, .ref (ad_77 (50 + 16 * q)))] → W p l e (headSpec (.code yX9_openRun cX9_openRun 5 (some (.object "ErrandGuild$Run")) :: gw) ({ frames := 3, cells := 20, slots := 300, locals := 67 })).room s m ([.ref (ad 0), .int v1, .ref (ad (50 + 16 * q))] : List Value).toArray below meth c H locs ce se (MQ below (va_Qq (fun (r : Option Nat) (u : (Nat → Nat) × (Nat → Nat) × (Nat → Nat) × Nat × (Nat → Int32) × (Nat → Nat → Int32) × (Nat → Option Nat) × (Nat → Nat → Int32) × (Nat → Nat → Option Nat) × (Nat → Nat → Nat → Int32)) => (r = some (u.1 (50 + 16 * (n 0).toInt.toNat)) ∧ (C9.mk u.2.2.2.2.1 f T u.2.2.2.2.2.2.2.1 u.2.2.2.2.2.2.2.2.1 u.2.2.2.2.2.2.2.2.2) = k_openR q v1 (C9.mk n f T G K F) ∧ (u.2.2.2.2.1 0).toInt = (n 0).toInt + 1 ∧ S9 u.2.2.2.1 u.2.2.1 + 16 * M ≤ S9 M gc + 16 * u.2.2.2.1 ∧ (∀ a j : Nat, (a : Int) < (n 0).toInt → u.2.2.2.2.2.2.2.2.1 a 3 = some j → (j : Int) < (n 0).toInt)) ∨ (r = none ∧ (C9.mk u.2.2.2.2.1 f T u.2.2.2.2.2.2.2.1 u.2.2.2.2.2.2.2.2.1 u.2.2.2.2.2.2.2.2.2) = k_openR q v1 (C9.mk n f T G K F) ∧ (u.2.2.2.2.1 0).toInt = (n 0).toInt ∧ S9 u.2.2.2.1 u.2.2.1 + 16 * M ≤ S9 M gc + 16 * u.2.2.2.1 ∧ 200 ≤ (n 0).toInt)) (fun u t => ∃ w : va_W, va_P (dC, dI) vwCl w t.heap ∧ va_D A w ∧ Pic9 kc w u.1 u.2.1 u.2.2.1 u.2.2.2.1 u.2.2.2.2.1 f T u.2.2.2.2.2.2.2.1 u.2.2.2.2.2.2.2.2.1 u.2.2.2.2.2.2.2.2.2 ∧ I9 u.2.2.2.1 u.2.2.2.2.1 f T u.2.2.1 u.2.2.2.2.2.2.2.1 u.2.2.2.2.2.2.2.2.1 u.2.2.2.2.2.2.2.2.2 R ∧ hpS t.heap + (260 * M + 2 * S9 M gc) ≤ (hpS s.heap) + (260 * u.2.2.2.1 + 2 * S9 u.2.2.2.1 u.2.2.1) ∧ 16 * t.heap.size + (256 * M + S9 M gc) ≤ 16 * s.heap.size + (256 * u.2.2.2.1 + S9 u.2.2.2.1 u.2.2.1) ∧ (n 0).toInt ≤ (u.2.2.2.2.1 0).toInt ∧ (∀ q : Nat, q < 50 + 16 * M → u.1 q = ad q) ∧ M ≤ u.2.2.2.1) A) ([.ref (ad 0), .int v1, .ref (ad (50 + 16 * q))] : List Value).toArray s 20 300 A) (F0 m 64 ls []) := by
                intro fuel
                induction fuel with
                | zero => intro x_120 ws_122 F_121 ce se H locs ls hm; exact absurd hm (Nat.not_lt_zero _)
                | succ fuel_128 ih_127 =>
                  intro x_120 ws_122 F_121 ce se H locs ls hm_123 v_124 v_125 hQ hI_126 hr1 hr2 hP hD hS hl
                  obtain ⟨i1_129, i2_130, i3_131, i4_132, i5_133, i6_134, i7_135, i8_136, i9_137, i10_138, i11_139⟩ := id hI_126
                  have q1_ := i1_129
                  unfold i1 at q1_
                  have hSl := S9_le i8_136 i9_137
                  have hb0_ := i8_136.2.1 0 (by omega)
                  have hb1_ := i8_136.2.1 1 (by omega)
                  have hb2_ := i8_136.2.1 2 (by omega)
                  exact by
                   refine lv_iload hx hb dX9_openRun_64 (lv_at hl 0 rfl) ?_
                   refine lv_bipush (v := 8) hx hb dX9_openRun_66 (by decide) ?_
                   refine lv_icmp_ge (tgt := 107) hx hb dX9_openRun_68 (by decide) (fun c_140 => ?_) (fun c_140 => ?_)
                   · simp only [i_lt, i_le, i_eq, ti_8] at c_140
                     refine lv_aload_n hx hb dX9_openRun_107 rfl (lv_at hl 2 rfl) ?_
                     refine lv_dup hx hb dX9_openRun_108 rfl ?_
                     refine va_get (D := (dC, dI)) (ci := 9) (v := .int (n 0)) (C := RX9) (T := TX9) (N := 15) hx hb hg gb_9 hown hK hP 0 hQ.x0 rfl 5 (by decide) (hg _ gm_fieldLink_RX9_66_ErrandGuild_runCount_I_) (fun _ h9 => h9) rfl dX9_openRun_109 ?_
                     refine lv_iconst (v := 1) hx hb dX9_openRun_112 (by decide) ?_
                     refine lv_iadd hx hb dX9_openRun_113 ?_
                     refine lv_topi (fun z_141 ez_141 => ?_)
                     have tz_141 : z_141.toInt = (n 0).toInt + 1 := ar_add rfl ti_1 ez_141 (by omega)
                     refine va_put (D := (dC, dI)) (ci := 9) (v := .int (z_141)) (ty := .int) (C := RX9) (T := TX9) (N := 15) hx hb hg gb_9 tyX9 tyX9_ok nmX9 hown hK hP hD hS 0 hQ.x0 rfl 5 (by decide) (hg _ gm_fieldLink_RX9_66_ErrandGuild_runCount_I_) (fun _ h9 => h9) rfl (by decide +kernel) rfl rfl (Nat.le_of_ble_eq_true rfl) dX9_openRun_114 (fun H locs hP hD hS => ?_)
                     obtain ⟨ws_143, n_142, en_142, hP, hD, hQ⟩ : ∃ (ws_143 : va_W) (n_142 : Nat → Int32), n_142 = u1 n 0 z_141 ∧ va_P (dC, dI) vwCl ws_143 H ∧ va_D A ws_143 ∧ Pic9 kc ws_143 ad_77 ga_78 gc_79 M_80 n_142 f T G_102 K_103 F_121 := ⟨_, _, rfl, hP, hD, hQ.x9 0 5 (by decide) z_141⟩
                     have i1_144 : i1 M_80 n_142 := by rw [en_142]; exact i1.inc i1_129 (by omega) (by omega)
                     have i5_145 : i5 n_142 K_103 := by rw [en_142]; exact i5.inc (a := (n 0).toInt.toNat) i5_133 (by omega) (by omega) w_118.2.2.1
                     have i6_146 : i6 n_142 T G_102 := by rw [en_142]; exact i6.inc (a := (n 0).toInt.toNat) i6_134 (by omega) (by omega) w_118.2.1
                     have i7_147 : i7 n_142 G_102 := by rw [en_142]; exact i7.inc (a := (n 0).toInt.toNat) i7_135 (by omega) (by omega) w_118.1
                     have i8_148 : i8 M_80 n_142 gc_79 G_102 := by rw [en_142]; exact (i8.pn i8_136 _ (by decide))
                     have i11_149 : i11 M_80 n_142 gc_79 f G_102 F_121 := by rw [en_142]; exact (i11.pn i11_139 _ (by decide))
                     have hn_150 : n_142 0 = z_141 := by rw [en_142]; exact u1_eq _ _ _
                     have thn_150 : (n_142 0).toInt = z_141.toInt := by rw [hn_150]
                     exact by
                      refine lv_aload_n hx hb dX9_openRun_117 rfl (lv_at hl 1 rfl) ?_
                      refine W_msr2 (fun hm1 hm2 hm3 => ?_)
                      have hSl := S9_le i8_148 i9_137
                      have hb0_ := i8_148.2.1 0 (by omega)
                      have hb1_ := i8_148.2.1 1 (by omega)
                      have hb2_ := i8_148.2.1 2 (by omega)
                      refine W.widen (k := 20) (n := 300) (by omega) (by omega) ?_
                      exact W.aret (v := .ref (ad_77 (50 + 16 * ((n 0).toInt.toNat)))) hx hb hr (Or.inl ⟨_, rfl⟩) (Or.inr ⟨_, rfl⟩) (fun t ht hW => ⟨⟨some (ad_77 (50 + 16 * ((n 0).toInt.toNat))), (ad_77, ga_78, gc_79, M_80, n_142, f, T, G_102, K_103, F_121), rfl, (Or.inl ⟨rfl, ⟨(by show (C9.mk n_142 f T G_102 K_103 F_121) = k_openR q v1 (C9.mk n f T G K F); subst en_142; subst ez_141; have hX := v_125; (first | rw [itr_go (by omega)] at hX | rw [itr_end (by omega)] at hX); (repeat (first | dsimp +instances only [c9n, c9f, c9T, c9G, c9K, c9F, b_come, b_leave, b_fill, awB, b_settle, b_wake, b_take, f_take, b_gather, f_gather, b_ask, a_ask, b_tell, c_close, d_close, k_add, k_rem, sco, k_clrF, k_mem, k_rebind, k_bnd, k_beg0, k_beg1, b_giveN, b_giveR, f_open, b_hand, k_op, b_turn, wlB, b_beat, f_anew, b_wipe, b_off, k_sadd, fits, frP, cntB, b_trace, b_child, k_lat, cond_true, cond_false, Option.elim_none, Option.elim_some, Option.getD_none, Option.getD_some] at hX | rw [if_pos (by first | with_reducible assumption | omega)] at hX | rw [if_neg (by first | with_reducible assumption | omega)] at hX | rw [jx_of (by omega)] at hX)); first | exact hX | (exfalso; omega) | exact hX), ⟨by show (n_142 0).toInt = (n 0).toInt + 1; omega, by show S9 M_80 gc_79 + 16 * M ≤ S9 M gc + 16 * M_80; omega, fun a j ha hj => h_i5 a j ha (by have hj : K_103 a 3 = some j := hj; rw [w_118.2.2.2 a (by omega)] at hj; exact hj)⟩⟩⟩), ws_143, by rw [ht]; exact hP, hD, hQ, ⟨i1_144, i2_130, i3_131, i4_132, i5_145, i6_146, i7_147, i8_148, i9_137, i10_138, i11_149⟩, by rw [ht]; show hpS H + (260 * M + 2 * S9 M gc) ≤ hpS s.heap + (260 * M_80 + 2 * S9 M_80 gc_79); omega, by rw [ht]; show 16 * H.size + (256 * M + S9 M gc) ≤ 16 * s.heap.size + (256 * M_80 + S9 M_80 gc_79); omega, by show (n 0).toInt ≤ (n_142 0).toInt; omega, hE1, by show M ≤ M_80; omega⟩, hS.F ht⟩) hS.2.2 dX9_openRun_118
                   · simp only [i_lt, i_le, i_eq, ti_8] at c_140
                     refine lv_aload_n hx hb dX9_openRun_71 rfl (lv_at hl 1 rfl) ?_
                     refine va_get (D := (dC, dI)) (ci := 7) (v := .ref (ad_77 (50 + 16 * ((n 0).toInt.toNat) + 2))) (C := RX7) (T := TX7) (N := 15) hx hb hg gb_7 hown hK hP (50 + 16 * ((n 0).toInt.toNat)) (hQ.b0 hrc2) rfl 11 (by decide) (hg _ gm_fieldLink_RX9_253_ErrandGuild_Run_memory_LErrandGuild_Memory_) (fun _ h9 => h9) rfl dX9_openRun_72 ?_
                     refine lv_iload hx hb dX9_openRun_75 (lv_at hl 0 rfl) ?_
                     refine lv_aload_n hx hb dX9_openRun_77 rfl (lv_at hl 4 rfl) ?_
                     refine lv_ifnonnull (tgt := 91) hx hb dX9_openRun_78 (by decide) ?_
                     refine lv_aload_n hx hb dX9_openRun_91 rfl (lv_at hl 2 rfl) ?_
                     refine lv_aload_n hx hb dX9_openRun_92 rfl (lv_at hl 4 rfl) ?_
                     refine lv_iload hx hb dX9_openRun_93 (lv_at hl 0 rfl) ?_
                     have hFc := free_all hD hS hA
                     refine W_msr2 (fun hm1 hm2 hm3 => ?_)
                     refine va_calli (va_runV (As := [.ref (ad_77 (50 + 16 * q)), .int x_120]) (rest := [.int x_120, .ref (ad_77 (50 + 16 * ((n 0).toInt.toNat) + 2))]) ⟨hx, hb, hml, hown, hg⟩ (c_X9_readIn l dC dI kc ws_122 ad_77 ga_78 gc_79 M_80 n f T G_102 K_103 F_121 R q x_120 H.size (hpS H) hQ ⟨i1_129, i2_130, i3_131, i4_132, i5_133, i6_134, i7_135, i8_136, i9_137, i10_138, i11_139⟩ (by show q < M_80; omega)) (cwV 2 hg (gw_V gm_methodLink_RX9_231_yX9_readIn gm_instanceMethod_yX9_readIn gm_selects_RX9_yX9_readIn_yX9_readIn gm_initialized_RX9 gm_code_yX9_readIn_cX9_readIn_3_some_int_) rfl rfl rfl (by decide +kernel) ⟨Nat.le_of_ble_eq_true rfl, Nat.le_of_ble_eq_true rfl⟩) ⟨fun a U g mk q => by obtain ⟨q0, q1, q2, qP, qK, qD, qN⟩ := q; exact ⟨q0, q1, q2, qP, va_K.moved (u := U) (U := U.calling g mk a) (Vm.Alike.refl U.vm) qK, qD, nx_same (u := U) (U := U.calling g mk a) rfl qN⟩, va_recv hK hP (ci := 9) (q0 := 0) rfl hQ.x0, fun U hU hW => ⟨rfl, by rw [hU], by rw [hU], by rw [hU]; exact hP, va_K.moved hW.alike hK, hD.weaken (fun _ _ _ _ => trivial), nx_warm hW hN⟩⟩ rfl rfl hl.1 rfl (lv_room (Nat.le_of_ble_eq_true rfl)) dX9_openRun_95 ⟨by show ce + 0 ≤ 20; omega, by show se + 0 ≤ 300; omega⟩) hS (fun q _ h => hFc q h) hFc (fun r_151 u_152 t H1 locs ht hvm hw hB hz1 hk1 hS => ?_)
                     obtain ⟨hP, hD, hy1, hy2⟩ := hB
                     rw [ht] at hP hy1 hy2
                     have hD := hD.weaken (fun k q _ h => hFc _ h)
                     refine W.widen (k := ce) (n := se) (Nat.le_refl _) (Nat.le_refl _) ?_
                     have q1_ := i1_129
                     unfold i1 at q1_
                     generalize H1 = H at hP hS ⊢
                     have hc_154 : r_151 = k_read (C9.mk n f T G_102 K_103 F_121) q x_120 := hw
                     have hCc : ([(50 + 16 * ((n 0).toInt.toNat) + 2), (50 + 16 * ((n 0).toInt.toNat) + 5)] : List Nat).map (fun i => ws_122[i]?) = ([(ad_77 (50 + 16 * ((n 0).toInt.toNat) + 2), .inr (6, [.ref (ad_77 (50 + 16 * ((n 0).toInt.toNat) + 3)), .ref (ad_77 (50 + 16 * ((n 0).toInt.toNat) + 4)), .ref (ad_77 (50 + 16 * ((n 0).toInt.toNat) + 5))])), (ad_77 (50 + 16 * ((n 0).toInt.toNat) + 5), .inl (kc 0, 8, .inl (F_121 ((n 0).toInt.toNat) 2)))] : va_W).map some := mp2 (hQ.b2 hrc2) (hQ.b5 hrc2)
                     have hNd : ([(50 + 16 * ((n 0).toInt.toNat) + 2), (50 + 16 * ((n 0).toInt.toNat) + 5)] : List Nat).Nodup := (nd_off (50 + 16 * ((n 0).toInt.toNat)) (l := [2, 5]) (by decide))
                     have hPc := hP.pick [(50 + 16 * ((n 0).toInt.toNat) + 2), (50 + 16 * ((n 0).toInt.toNat) + 5)] hCc
                     have hDc := hD.pick [(50 + 16 * ((n 0).toInt.toNat) + 2), (50 + 16 * ((n 0).toInt.toNat) + 5)] hNd hCc
                     have hKc := hK.sub (tys' := [((kc 0), .int)]) [0] rfl
                     have hFc := va_free (wc := [(ad_77 (50 + 16 * ((n 0).toInt.toNat) + 2), .inr (6, [.ref (ad_77 (50 + 16 * ((n 0).toInt.toNat) + 3)), .ref (ad_77 (50 + 16 * ((n 0).toInt.toNat) + 4)), .ref (ad_77 (50 + 16 * ((n 0).toInt.toNat) + 5))])), (ad_77 (50 + 16 * ((n 0).toInt.toNat) + 5), .inl (kc 0, 8, .inl (F_121 ((n 0).toInt.toNat) 2)))]) hD hS hA [(50 + 16 * ((n 0).toInt.toNat) + 2), (50 + 16 * ((n 0).toInt.toNat) + 5)] hCc
                     refine W_msr2 (fun hm1 hm2 hm3 => ?_)
                     exact by
                      refine va_callv (va_runV (As := [.int x_120, .int r_151]) (rest := []) ⟨hx, hb, hml, hown, hg⟩ (c_X6_give l dC dI (ad_77 (50 + 16 * ((n 0).toInt.toNat) + 2)) (ad_77 (50 + 16 * ((n 0).toInt.toNat) + 3)) (ad_77 (50 + 16 * ((n 0).toInt.toNat) + 4)) (ad_77 (50 + 16 * ((n 0).toInt.toNat) + 5)) (kc 0) (F_121 ((n 0).toInt.toNat) 2) x_120 r_151 H.size ) (cwV 2 hg (gw_V gm_methodLink_RX9_373_yX6_give gm_instanceMethod_yX6_give gm_selects_RX6_yX6_give_yX6_give gm_initialized_RX6 gm_code_yX6_give_cX6_give_3_none) rfl rfl rfl (by decide +kernel) ⟨Nat.le_of_ble_eq_true rfl, Nat.le_of_ble_eq_true rfl⟩) ⟨fun a U g mk q => by obtain ⟨q0, q1, qP, qK, qD, qN⟩ := q; exact ⟨q0, q1, qP, va_K.moved (u := U) (U := U.calling g mk a) (Vm.Alike.refl U.vm) qK, qD, nx_same (u := U) (U := U.calling g mk a) rfl qN⟩, va_recv hK hP (ci := 6) (q0 := (50 + 16 * ((n 0).toInt.toNat) + 2)) rfl (hQ.b2 hrc2), fun U hU hW => ⟨rfl, by rw [hU], by rw [hU]; exact hPc, va_K.moved hW.alike hKc, hDc.weaken (fun _ _ _ _ => trivial), nx_warm hW hN⟩⟩ rfl rfl hl.1 rfl (lv_room (Nat.le_of_ble_eq_true rfl)) dX9_openRun_98 ⟨by show ce + 0 ≤ 20; omega, by show se + 0 ≤ 300; omega⟩) hS (fun q _ h => hFc q h) hFc (fun u_156 t H1 locs ht hvm hw hB hz1 hk1 hS => ?_)
                      obtain ⟨ad_157, ac_158, af_159, ag_160⟩ := u_156
                      obtain ⟨hP1, hD1, hK1, qe_161⟩ := hB
                      rw [ht] at hP1
                      have hP1 : va_P (dC, dI) vwCl [((ad_77 (50 + 16 * ((n 0).toInt.toNat) + 2)), .inr (6, [.ref (ad_77 (50 + 16 * ((n 0).toInt.toNat) + 3)), .ref (ad_77 (50 + 16 * ((n 0).toInt.toNat) + 4)), .ref (ad_77 (50 + 16 * ((n 0).toInt.toNat) + 5))])), ((ad_77 (50 + 16 * ((n 0).toInt.toNat) + 5)), .inl ((kc 0), 8, .inl (af_159 2)))] H1 := hP1
                      have hD1 : va_D _ [((ad_77 (50 + 16 * ((n 0).toInt.toNat) + 2)), .inr (6, [.ref (ad_77 (50 + 16 * ((n 0).toInt.toNat) + 3)), .ref (ad_77 (50 + 16 * ((n 0).toInt.toNat) + 4)), .ref (ad_77 (50 + 16 * ((n 0).toInt.toNat) + 5))])), ((ad_77 (50 + 16 * ((n 0).toInt.toNat) + 5)), .inl ((kc 0), 8, .inl (af_159 2)))] := hD1
                      have qe_161 : (af_159 2) = st8 (F_121 ((n 0).toInt.toNat) 2) x_120 r_151 := qe_161
                      rw [qe_161] at hP1 hD1
                      obtain ⟨hP, hD⟩ := va_repl (w1 := [((ad_77 (50 + 16 * ((n 0).toInt.toNat) + 2)), .inr (6, [.ref (ad_77 (50 + 16 * ((n 0).toInt.toNat) + 3)), .ref (ad_77 (50 + 16 * ((n 0).toInt.toNat) + 4)), .ref (ad_77 (50 + 16 * ((n 0).toInt.toNat) + 5))])), ((ad_77 (50 + 16 * ((n 0).toInt.toNat) + 5)), .inl ((kc 0), 8, .inl (st8 (F_121 ((n 0).toInt.toNat) 2) x_120 r_151)))]) hP hD [(50 + 16 * ((n 0).toInt.toNat) + 2), (50 + 16 * ((n 0).toInt.toNat) + 5)] hCc hNd rfl hk1 hFc hP1 hD1
                      obtain ⟨ws_163, F_162, eF_162, hP, hD, hQ⟩ : ∃ (ws_163 : va_W) (F_162 : Nat → Nat → Nat → Int32), F_162 = u2 F_121 ((n 0).toInt.toNat) 2 (st8 (F_121 ((n 0).toInt.toNat) 2) x_120 r_151) ∧ va_P (dC, dI) vwCl ws_163 H1 ∧ va_D A ws_163 ∧ Pic9 kc ws_163 ad_77 ga_78 gc_79 M_80 n f T G_102 K_103 F_162 := ⟨_, _, rfl, hP, hD, (hQ.same (hQ.b2 hrc2)).arr hrc2 5 2 (by decide) (st8 (F_121 ((n 0).toInt.toNat) 2) x_120 r_151) rfl⟩
                      have i10_164 : i10 M_80 G_102 K_103 F_162 := by rw [eF_162]; exact (i10.pF i10_138 hrc2 _ _)
                      have i11_165 : i11 M_80 n gc_79 f G_102 F_162 := by rw [eF_162]; exact (i11.pF i11_139 ((n 0).toInt.toNat) _ (by decide))
                      refine W.widen (k := ce) (n := se) (Nat.le_refl _) (Nat.le_refl _) ?_
                      generalize H1 = H at hP hS ⊢
                      obtain ⟨y_166, ey_166⟩ : ∃ q : Int32, q = x_120 + (1) := ⟨_, rfl⟩
                      exact by
                       refine lv_iinc (v := y_166) (lv' := [(4, .int y_166), (3, .ref (ad_77 (50 + 16 * ((n 0).toInt.toNat)))), (0, .ref (ad_77 0)), (1, .int v1), (2, .ref (ad_77 (50 + 16 * q)))]) hx hb dX9_openRun_101 hl (k := 0) rfl (by rw [ey_166]; rfl) (by decide) rfl (fun ls hl => ?_)
                       have ty_166 : y_166.toInt = x_120.toInt + (1) := ar_add rfl ti_1 ey_166 (by omega)
                       refine lv_goto (tgt := 64) hx hb dX9_openRun_104 (by decide) ?_
                       exact ih_127 y_166   ws_163 F_162 ce se H locs ls (by show (9 - y_166.toInt).toNat < _; omega) (by show 0 ≤ y_166.toInt ∧ y_166.toInt ≤ 8; omega) (by show itr (b_giveR (n 0).toInt.toNat q) f_open y_166.toInt.toNat (8 - y_166.toInt.toNat) (C9.mk n f T G_102 K_103 F_162) = k_openR q v1 (C9.mk n f T G K F); subst eF_162; have hX := v_125; (first | rw [itr_go (by omega)] at hX | rw [itr_end (by omega)] at hX); (repeat (first | dsimp +instances only [c9n, c9f, c9T, c9G, c9K, c9F, b_come, b_leave, b_fill, awB, b_settle, b_wake, b_take, f_take, b_gather, f_gather, b_ask, a_ask, b_tell, c_close, d_close, k_add, k_rem, sco, k_clrF, k_mem, k_rebind, k_bnd, k_beg0, k_beg1, b_giveN, b_giveR, f_open, b_hand, k_op, b_turn, wlB, b_beat, f_anew, b_wipe, b_off, k_sadd, fits, frP, cntB, b_trace, b_child, k_lat, cond_true, cond_false, Option.elim_none, Option.elim_some, Option.getD_none, Option.getD_some] at hX | rw [← hc_154] at hX | rw [if_pos (by first | with_reducible assumption | omega)] at hX | rw [if_neg (by first | with_reducible assumption | omega)] at hX | rw [jx_of (by omega)] at hX)); (rw [show y_166.toInt.toNat = x_120.toInt.toNat + 1 by omega]); first | exact hX | (exfalso; omega) | exact hX) hQ ⟨i1_129, i2_130, i3_131, i4_132, i5_133, i6_134, i7_135, i8_136, i9_137, i10_164, i11_165⟩ hr1 hr2 hP hD hS (lv_sub hl [0, 1, 2, 3, 4] rfl)
              exact L64 _ (0 : Int32)   ws_105 F_104 ce se _ _ _ (Nat.lt_succ_self _) (by have t_0 := ti_0; show 0 ≤ (0 : Int32).toInt ∧ (0 : Int32).toInt ≤ 8; omega) (by show itr (b_giveR (n 0).toInt.toNat q) f_open (0 : Int32).toInt.toNat (8 - (0 : Int32).toInt.toNat) (C9.mk n f T G_102 K_103 F_104) = k_openR q v1 (C9.mk n f T G K F); have hX := (k_openR.eq_1 q v1 (C9.mk n f T G K F)).symm; (repeat (first | dsimp +instances only [c9n, c9f, c9T, c9G, c9K, c9F, b_come, b_leave, b_fill, awB, b_settle, b_wake, b_take, f_take, b_gather, f_gather, b_ask, a_ask, b_tell, c_close, d_close, k_add, k_rem, sco, k_clrF, k_mem, k_rebind, k_bnd, k_beg0, k_beg1, b_giveN, b_giveR, f_open, b_hand, k_op, b_turn, wlB, b_beat, f_anew, b_wipe, b_off, k_sadd, fits, frP, cntB, b_trace, b_child, k_lat, cond_true, cond_false, Option.elim_none, Option.elim_some, Option.getD_none, Option.getD_some] at hX | rw [← hc_119] at hX | rw [if_pos (by first | with_reducible assumption | omega)] at hX | rw [if_neg (by first | with_reducible assumption | omega)] at hX | rw [jx_of (by omega)] at hX)); (skip); first | exact hX | (exfalso; omega) | exact hX) hQ ⟨i1_107, i2_108, i3_109, i4_110, i5_111, i6_112, i7_113, i8_114, i9_115, i10_116, i11_117⟩ hr1 hr2 hP hD hS (lv_sub hl [0, 1, 2, 3, 4] rfl)
      · simp only [i_lt, i_le, i_eq, ti_200] at c_2
        refine lv_null hx hb dX9_openRun_17 ?_
        refine W_msr2 (fun hm1 hm2 hm3 => ?_)
        have hSl := S9_le h_i8 h_i9
        have hb0_ := h_i8.2.1 0 (by omega)
        have hb1_ := h_i8.2.1 1 (by omega)
        have hb2_ := h_i8.2.1 2 (by omega)
        refine W.widen (k := 20) (n := 300) (by omega) (by omega) ?_
        exact W.aret (v := .null) hx hb hr (Or.inl ⟨_, rfl⟩) (Or.inl rfl) (fun t ht hW => ⟨⟨none, (ad, ga, gc, M, n, f, T, G, K, F), rfl, (Or.inr ⟨rfl, ⟨(by show (C9.mk n f T G K F) = k_openR q v1 (C9.mk n f T G K F); have hX := (k_openR.eq_1 q v1 (C9.mk n f T G K F)).symm; (repeat (first | dsimp +instances only [c9n, c9f, c9T, c9G, c9K, c9F, b_come, b_leave, b_fill, awB, b_settle, b_wake, b_take, f_take, b_gather, f_gather, b_ask, a_ask, b_tell, c_close, d_close, k_add, k_rem, sco, k_clrF, k_mem, k_rebind, k_bnd, k_beg0, k_beg1, b_giveN, b_giveR, f_open, b_hand, k_op, b_turn, wlB, b_beat, f_anew, b_wipe, b_off, k_sadd, fits, frP, cntB, b_trace, b_child, k_lat, cond_true, cond_false, Option.elim_none, Option.elim_some, Option.getD_none, Option.getD_some] at hX | rw [if_pos (by first | with_reducible assumption | omega)] at hX | rw [if_neg (by first | with_reducible assumption | omega)] at hX | rw [jx_of (by omega)] at hX)); first | exact hX | (exfalso; omega) | exact hX), ⟨by show (n 0).toInt = (n 0).toInt; omega, by show S9 M gc + 16 * M ≤ S9 M gc + 16 * M; omega, by omega⟩⟩⟩), ws, by rw [ht]; exact hP, hD, hQ, ⟨h_i1, h_i2, h_i3, h_i4, h_i5, h_i6, h_i7, h_i8, h_i9, h_i10, h_i11⟩, by rw [ht]; show hpS s.heap + (260 * M + 2 * S9 M gc) ≤ hpS s.heap + (260 * M + 2 * S9 M gc); omega, by rw [ht]; show 16 * s.heap.size + (256 * M + S9 M gc) ≤ 16 * s.heap.size + (256 * M + S9 M gc); omega, by show (n 0).toInt ≤ (n 0).toInt; omega, (fun _ _ => rfl), by show M ≤ M; omega⟩, hS.F ht⟩) hS.2.2 dX9_openRun_18
