set_option maxHeartbeats 8000000 in
set_option maxRecDepth 100000 in
theorem c_X9_openRun_n (l : Launch) (dC : Nat → ClassId) (dI : Nat → Nat → Nat) (kc : Nat → ClassId) (ws : va_W) (ad : Nat → Nat) (ga : Nat → Nat) (gc : Nat → Nat) (M : Nat) (n : Nat → Int32) (f : Nat → Nat → Int32) (T : Nat → Option Nat) (G : Nat → Nat → Int32) (K : Nat → Nat → Option Nat) (F : Nat → Nat → Nat → Int32) (R : Nat) (v1 : Int32) (sz hz : Nat) (hQ : Pic9 kc ws ad ga gc M n f T G K F) (hI : I9 M n T gc G K R) (hR : R ≤ 310000) : Met l yX9_openRun (.code yX9_openRun cX9_openRun 5 (some (.object "ErrandGuild$Run")) :: gw) ({ frames := 3, cells := 20, slots := 300, locals := 62 }) (va_Pc [.ref (ad 0), .int v1, .null] (fun U => U.heap.size = sz ∧ hpS U.heap = hz ∧ va_P (dC, dI) vwCl ws U.heap ∧ va_K (dC, dI) vwCl (t9 kc) U ∧ va_D (fun _ => True) ws ∧ nx U)) (va_Qq (fun (r : Option Nat) (u : (Nat → Nat) × (Nat → Nat) × (Nat → Nat) × Nat × (Nat → Int32) × (Nat → Nat → Int32) × (Nat → Option Nat) × (Nat → Nat → Int32) × (Nat → Nat → Option Nat) × (Nat → Nat → Nat → Int32)) => (r = some (u.1 (50 + 16 * (n 0).toInt.toNat)) ∧ (u.2.2.2.2.1 0).toInt = (n 0).toInt + 1 ∧ S9 u.2.2.2.1 u.2.2.1 + 16 * M ≤ S9 M gc + 16 * u.2.2.2.1 ∧ (∀ a j : Nat, (a : Int) < (n 0).toInt → u.2.2.2.2.2.2.2.2.1 a 3 = some j → (j : Int) < (n 0).toInt)) ∨ (r = none ∧ (u.2.2.2.2.1 0).toInt = (n 0).toInt ∧ S9 u.2.2.2.1 u.2.2.1 + 16 * M ≤ S9 M gc + 16 * u.2.2.2.1 ∧ 200 ≤ (n 0).toInt)) (fun u t => ∃ w : va_W, va_P (dC, dI) vwCl w t.heap ∧ va_D (va_A ws sz) w ∧ Pic9 kc w u.1 u.2.1 u.2.2.1 u.2.2.2.1 u.2.2.2.2.1 f T u.2.2.2.2.2.2.2.1 u.2.2.2.2.2.2.2.2.1 u.2.2.2.2.2.2.2.2.2 ∧ I9 u.2.2.2.1 u.2.2.2.2.1 T u.2.2.1 u.2.2.2.2.2.2.2.1 u.2.2.2.2.2.2.2.2.1 R ∧ hpS t.heap + (260 * M + 2 * S9 M gc) ≤ hz + (260 * u.2.2.2.1 + 2 * S9 u.2.2.2.1 u.2.2.1) ∧ 16 * t.heap.size + (256 * M + S9 M gc) ≤ 16 * sz + (256 * u.2.2.2.1 + S9 u.2.2.2.1 u.2.2.1) ∧ (n 0).toInt ≤ (u.2.2.2.2.1 0).toInt ∧ (∀ q : Nat, q < 50 + 16 * M → u.1 q = ad q) ∧ M ≤ u.2.2.2.1) (va_A ws sz)) 20 300 (va_A ws sz) := by
  refine Met.ofW (cc := cX9_openRun) (maxL := 5) (ret := (some (.object "ErrandGuild$Run"))) (by decide) rfl ?_
  intro p e s m args below meth c s₁ B hml hv
  obtain ⟨rfl, hsz, rfl, hP, hK, hD0, hN⟩ := hv
  have hx := B.exec
  have hb := B.bytes
  have hr := B.returns
  have hts := atoms_spec (ws := .code yX9_openRun cX9_openRun 5 (some (.object "ErrandGuild$Run")) :: gw) B.pre
  have hg : ∀ w ∈ gw, w.before _ s = true := fun w h => hts w (List.mem_cons_of_mem _ h)
  have hown : s.vm.findClass RX9 = some m.cls := findClass_of_methodNamed B.named
  have hlocks := B.notSynchronized
  subst hsz
  have hD := hD0.self (sz := s.heap.size)
  generalize hAe : va_A ws s.heap.size = A at hD ⊢
  have hA : ∀ q : Nat, s.heap.size ≤ q → A q := fun q h => by rw [← hAe]; exact Or.inr h
  clear hAe
  have hS : va_S A s.heap s.heap [] := va_S.rf
  have hl := lv_entry ([.ref (ad 0), .int v1, .null]) (n := 5) (Nat.le_of_ble_eq_true rfl)
  rw [lg_entry_eq]
  generalize (lg_sl ([.ref (ad 0), .int v1, .null]) ++ List.replicate (5 - (lg_sl ([.ref (ad 0), .int v1, .null])).length) Slot.unset).toArray = ls at hl ⊢
  have hl : lv_has ls 5 [(0, .ref (ad 0)), (1, .int v1), (2, .null)] := hl
  obtain ⟨h_i1, h_i2, h_i3, h_i4, h_i5, h_i6, h_i7, h_i8, h_i9⟩ := id hI
  have q1_ := h_i1
  unfold i1 at q1_
  have hSl0 := S9_le h_i8 h_i9
  have hb0_ := h_i8.2.1 0 (by omega)
  have hb1_ := h_i8.2.1 1 (by omega)
  have hb2_ := h_i8.2.1 2 (by omega)
  have hr1 : 0 + (260 * M + 2 * S9 M gc) ≤ (260 * M + 2 * S9 M gc) := by omega
  have hr2 : 16 * 0 + (256 * M + S9 M gc) ≤ (256 * M + S9 M gc) := by omega
  obtain ⟨ce, hce⟩ : ∃ q : Nat, q = 0 := ⟨_, rfl⟩
  obtain ⟨se, hse⟩ : ∃ q : Nat, q = 0 := ⟨_, rfl⟩
  rw [← hse] at hr1
  have hr2 : 16 * ce + (256 * M + S9 M gc) ≤ (256 * M + S9 M gc) := by omega
  refine W.widen (k := ce) (n := se) (Nat.zero_le _) (Nat.zero_le _) ?_
  refine lv_aload_n hx hb dX9_openRun_0 rfl (lv_at hl 0 rfl) ?_
  refine va_get (D := (dC, dI)) (ci := 9) (v := .int (n 0)) (C := RX9) (T := TX9) (N := 15) hx hb hg gb_9 hown hK hP 0 hQ.x0 rfl 5 (by decide) (hg _ gm_fieldLink_RX9_66_ErrandGuild_runCount_I_) (fun _ h9 => h9) rfl dX9_openRun_1 ?_
  refine lv_if_lt (tgt := 17) hx hb dX9_openRun_4 (by decide) (fun c_1 => ?_) (fun c_1 => ?_)
  · simp only [i_lt, i_le, i_eq, ti_0] at c_1
    refine lv_null hx hb dX9_openRun_17 ?_
    refine W_msr2 (fun hm1 hm2 hm3 => ?_)
    have hSl := S9_le h_i8 h_i9
    have hb0_ := h_i8.2.1 0 (by omega)
    have hb1_ := h_i8.2.1 1 (by omega)
    have hb2_ := h_i8.2.1 2 (by omega)
    refine W.widen (k := 20) (n := 300) (by omega) (by omega) ?_
    exact W.aret (v := .null) hx hb hr (Or.inl ⟨_, rfl⟩) (Or.inl rfl) (fun t ht hW => ⟨⟨none, (ad, ga, gc, M, n, f, T, G, K, F), rfl, (Or.inr ⟨rfl, ⟨by show (n 0).toInt = (n 0).toInt; omega, by show S9 M gc + 16 * M ≤ S9 M gc + 16 * M; omega, by omega⟩⟩), ws, by rw [ht]; exact hP, hD, hQ, ⟨h_i1, h_i2, h_i3, h_i4, h_i5, h_i6, h_i7, h_i8, h_i9⟩, by rw [ht]; show hpS s.heap + (260 * M + 2 * S9 M gc) ≤ hpS s.heap + (260 * M + 2 * S9 M gc); omega, by rw [ht]; show 16 * s.heap.size + (256 * M + S9 M gc) ≤ 16 * s.heap.size + (256 * M + S9 M gc); omega, by show (n 0).toInt ≤ (n 0).toInt; omega, (fun _ _ => rfl), by show M ≤ M; omega⟩, hS.F ht⟩) hS.2.2 dX9_openRun_18
  · simp only [i_lt, i_le, i_eq, ti_0] at c_1
    refine lv_aload_n hx hb dX9_openRun_7 rfl (lv_at hl 0 rfl) ?_
    refine va_get (D := (dC, dI)) (ci := 9) (v := .int (n 0)) (C := RX9) (T := TX9) (N := 15) hx hb hg gb_9 hown hK hP 0 hQ.x0 rfl 5 (by decide) (hg _ gm_fieldLink_RX9_66_ErrandGuild_runCount_I_) (fun _ h9 => h9) rfl dX9_openRun_8 ?_
    refine lv_sipush (v := 200) hx hb dX9_openRun_11 (by decide) ?_
    refine lv_icmp_lt (tgt := 19) hx hb dX9_openRun_14 (by decide) (fun c_2 => ?_) (fun c_2 => ?_)
    · simp only [i_lt, i_le, i_eq, ti_200] at c_2
      refine lv_aload_n hx hb dX9_openRun_19 rfl (lv_at hl 0 rfl) ?_
      refine va_get (D := (dC, dI)) (ci := 9) (v := .ref (ad 40)) (C := RX9) (T := TX9) (N := 15) hx hb hg gb_9 hown hK hP 0 hQ.x0 rfl 4 (by decide) (hg _ gm_fieldLink_RX9_31_ErrandGuild_runs_ALErrandGuild_Run_) (fun _ h9 => h9) rfl dX9_openRun_20 ?_
      refine lv_aload_n hx hb dX9_openRun_23 rfl (lv_at hl 0 rfl) ?_
      refine va_get (D := (dC, dI)) (ci := 9) (v := .int (n 0)) (C := RX9) (T := TX9) (N := 15) hx hb hg gb_9 hown hK hP 0 hQ.x0 rfl 5 (by decide) (hg _ gm_fieldLink_RX9_66_ErrandGuild_runCount_I_) (fun _ h9 => h9) rfl dX9_openRun_24 ?_
      refine va_aldq hx hb hK hP 40 3 hQ.x40 rfl (vp_in_iff.mpr ⟨by omega, by omega⟩) dX9_openRun_27 ?_
      by_cases hrc : (n 0).toInt.toNat < M
      · refine W.eq (g2 := F0 m 28 ls [.ref (ad (50 + 16 * ((n 0).toInt.toNat)))]) (by rw [cl_eq, rnA_in hrc]; rfl) ?_
        refine lv_astore_n (lv' := [(3, .ref (ad (50 + 16 * ((n 0).toInt.toNat)))), (0, .ref (ad 0)), (1, .int v1), (2, .null)]) hx hb dX9_openRun_28 rfl hl (by decide) rfl (fun ls hl => ?_)
        refine lv_aload_n hx hb dX9_openRun_29 rfl (lv_at hl 0 rfl) ?_
        refine lv_ifnonnull (tgt := 55) hx hb dX9_openRun_30 (by decide) ?_
        refine lv_aload_n hx hb dX9_openRun_55 rfl (lv_at hl 0 rfl) ?_
        refine lv_iload_n hx hb dX9_openRun_56 rfl (lv_at hl 2 rfl) ?_
        refine lv_aload_nN hx hb dX9_openRun_57 rfl (lv_at hl 3 rfl) ?_
        have hFc := free_all hD hS hA
        refine W_msr2 (fun hm1 hm2 hm3 => ?_)
        refine va_callv (va_runV (As := [.int v1, .null]) (rest := []) ⟨hx, hb, hml, hown, hg⟩ (c_X7_begin_n l dC dI kc ws ad ga gc M n f T G K F R ((n 0).toInt.toNat) v1 s.heap.size (hpS s.heap) hQ ⟨h_i1, h_i2, h_i3, h_i4, h_i5, h_i6, h_i7, h_i8, h_i9⟩ (by show ((n 0).toInt.toNat) < M; omega)) (cwV 2 hg (gw_V gm_methodLink_RX9_369_yX7_begin gm_instanceMethod_yX7_begin gm_selects_RX7_yX7_begin_yX7_begin gm_initialized_RX7 gm_code_yX7_begin_cX7_begin_3_none) rfl rfl rfl (by decide +kernel) ⟨Nat.le_of_ble_eq_true rfl, Nat.le_of_ble_eq_true rfl⟩) ⟨fun a U g mk q => by obtain ⟨q0, q1, q2, qP, qK, qD, qN⟩ := q; exact ⟨q0, q1, q2, qP, va_K.moved (u := U) (U := U.calling g mk a) (Vm.Alike.refl U.vm) qK, qD, nx_same (u := U) (U := U.calling g mk a) rfl qN⟩, va_recv hK hP (ci := 7) (q0 := (50 + 16 * ((n 0).toInt.toNat))) rfl (hQ.b0 hrc), fun U hU hW => ⟨rfl, by rw [hU], by rw [hU], by rw [hU]; exact hP, va_K.moved hW.alike hK, hD.weaken (fun _ _ _ _ => trivial), nx_warm hW hN⟩⟩ rfl rfl hl.1 rfl (lv_room (Nat.le_of_ble_eq_true rfl)) dX9_openRun_58 ⟨by show ce + 0 ≤ 20; omega, by show se + 0 ≤ 300; omega⟩) hS (fun q _ h => hFc q h) hFc (fun u_4 t H1 locs ht hvm hw hB hz1 hk1 hS => ?_)
        obtain ⟨ad_5, ga_6, gc_7, M_8, n_9, f_10, T_11, G_12, K_13, F_14⟩ := u_4
        have hB : ∃ w : va_W, va_P (dC, dI) vwCl w t.heap ∧ va_D (va_A ws s.heap.size) w ∧ Pic9 kc w ad ga gc M n f T G_12 K_13 F_14 ∧ I9 M n T gc G_12 K_13 R ∧ hpS t.heap + (260 * M + 2 * S9 M gc) ≤ hpS s.heap + (260 * M + 2 * S9 M gc) ∧ 16 * t.heap.size + (256 * M + S9 M gc) ≤ 16 * s.heap.size + (256 * M + S9 M gc) := hB
        rw [ht] at hB
        obtain ⟨ws_15, hP, hD, hQ, hI_16, hy1, hy2⟩ := hB
        have hD := hD.weaken (fun k q _ h => hFc _ h)
        obtain ⟨i1_17, i2_18, i3_19, i4_20, i5_21, i6_22, i7_23, i8_24, i9_25⟩ := id hI_16
        have q1_ := i1_17
        unfold i1 at q1_
        have hSl := S9_le i8_24 i9_25
        have hb0_ := i8_24.2.1 0 (by omega)
        have hb1_ := i8_24.2.1 1 (by omega)
        have hb2_ := i8_24.2.1 2 (by omega)
        refine W_msr2 (fun hn1 hn2 hn3 => ?_)
        obtain ⟨ce2, se2, hk3, hk4, hr1, hr2⟩ : ∃ c2 s2 : Nat, H1.size ≤ s.heap.size + c2 ∧ hpS H1 ≤ hpS s.heap + s2 ∧ s2 + (260 * M + 2 * S9 M gc) ≤ (260 * M + 2 * S9 M gc) ∧ 16 * c2 + (256 * M + S9 M gc) ≤ (256 * M + S9 M gc) := ⟨H1.size - s.heap.size, hpS H1 - hpS s.heap, by omega, by omega, by have := hS.1; omega, by have := hS.1; omega⟩
        refine W_tightP hk3 hk4 ?_
        clear hm1 hm2 hm3 hn1 hn2 hn3 hk3 hk4
        clear hk1 hz1
        generalize ce2 = ce, se2 = se at hr1 hr2 ⊢
        generalize H1 = H at hP hS ⊢
        have w_26 : (G_12 ((n 0).toInt.toNat) 2).toInt = 0 ∧ (G_12 ((n 0).toInt.toNat) 3).toInt = -1 ∧ K_13 ((n 0).toInt.toNat) 3 = none ∧ (∀ a : Nat, a ≠ ((n 0).toInt.toNat) → K_13 a = K a) := hw
        refine lv_iconst (v := 0) hx hb dX9_openRun_61 (by decide) ?_
        refine lv_istore (lv' := [(4, .int 0), (3, .ref (ad (50 + 16 * ((n 0).toInt.toNat)))), (0, .ref (ad 0)), (1, .int v1), (2, .null)]) hx hb dX9_openRun_62 hl (by decide) rfl (fun ls hl => ?_)
        have L64 : ∀ (fuel : Nat) (x_27 : Int32)   (ws_29 : va_W) (F_28 : Nat → Nat → Nat → Int32) (ce se : Nat) (H : Heap) (locs : List Loc) (ls : Array Slot), (9 - x_27.toInt).toNat < fuel → (0 ≤ x_27.toInt ∧ x_27.toInt ≤ 8) → Pic9 kc ws_29 ad ga gc M n f T G_12 K_13 F_28 → I9 M n T gc G_12 K_13 R → (se + (260 * M + 2 * S9 M gc) ≤ (260 * M + 2 * S9 M gc)) → (16 * ce + (256 * M + S9 M gc) ≤ (256 * M + S9 M gc)) → va_P (dC, dI) vwCl ws_29 H → va_D A ws_29 → va_S A s.heap H locs → lv_has ls 5 [(4, .int x_27), (3, .ref (ad (50 + 16 * ((n 0).toInt.toNat)))), (0, .ref (ad 0)), (1, .int v1), (2, .null)] → W p l e (headSpec (.code yX9_openRun cX9_openRun 5 (some (.object "ErrandGuild$Run")) :: gw) ({ frames := 3, cells := 20, slots := 300, locals := 62 })).room s m ([.ref (ad 0), .int v1, .null] : List Value).toArray below meth c H locs ce se (MQ below (va_Qq (fun (r : Option Nat) (u : (Nat → Nat) × (Nat → Nat) × (Nat → Nat) × Nat × (Nat → Int32) × (Nat → Nat → Int32) × (Nat → Option Nat) × (Nat → Nat → Int32) × (Nat → Nat → Option Nat) × (Nat → Nat → Nat → Int32)) => (r = some (u.1 (50 + 16 * (n 0).toInt.toNat)) ∧ (u.2.2.2.2.1 0).toInt = (n 0).toInt + 1 ∧ S9 u.2.2.2.1 u.2.2.1 + 16 * M ≤ S9 M gc + 16 * u.2.2.2.1 ∧ (∀ a j : Nat, (a : Int) < (n 0).toInt → u.2.2.2.2.2.2.2.2.1 a 3 = some j → (j : Int) < (n 0).toInt)) ∨ (r = none ∧ (u.2.2.2.2.1 0).toInt = (n 0).toInt ∧ S9 u.2.2.2.1 u.2.2.1 + 16 * M ≤ S9 M gc + 16 * u.2.2.2.1 ∧ 200 ≤ (n 0).toInt)) (fun u t => ∃ w : va_W, va_P (dC, dI) vwCl w t.heap ∧ va_D A w ∧ Pic9 kc w u.1 u.2.1 u.2.2.1 u.2.2.2.1 u.2.2.2.2.1 f T u.2.2.2.2.2.2.2.1 u.2.2.2.2.2.2.2.2.1 u.2.2.2.2.2.2.2.2.2 ∧ I9 u.2.2.2.1 u.2.2.2.2.1 T u.2.2.1 u.2.2.2.2.2.2.2.1 u.2.2.2.2.2.2.2.2.1 R ∧ hpS t.heap + (260 * M + 2 * S9 M gc) ≤ (hpS s.heap) + (260 * u.2.2.2.1 + 2 * S9 u.2.2.2.1 u.2.2.1) ∧ 16 * t.heap.size + (256 * M + S9 M gc) ≤ 16 * s.heap.size + (256 * u.2.2.2.1 + S9 u.2.2.2.1 u.2.2.1) ∧ (n 0).toInt ≤ (u.2.2.2.2.1 0).toInt ∧ (∀ q : Nat, q < 50 + 16 * M → u.1 q = ad q) ∧ M ≤ u.2.2.2.1) A) ([.ref (ad 0), .int v1, .null] : List Value).toArray s 20 300 A) (F0 m 64 ls []) := by
          intro fuel
          induction fuel with
          | zero => intro x_27 ws_29 F_28 ce se H locs ls hm; exact absurd hm (Nat.not_lt_zero _)
          | succ fuel_34 ih_33 =>
            intro x_27 ws_29 F_28 ce se H locs ls hm_30 v_31 hQ hI_32 hr1 hr2 hP hD hS hl
            obtain ⟨i1_35, i2_36, i3_37, i4_38, i5_39, i6_40, i7_41, i8_42, i9_43⟩ := id hI_32
            have q1_ := i1_35
            unfold i1 at q1_
            have hSl := S9_le i8_42 i9_43
            have hb0_ := i8_42.2.1 0 (by omega)
            have hb1_ := i8_42.2.1 1 (by omega)
            have hb2_ := i8_42.2.1 2 (by omega)
            refine lv_iload hx hb dX9_openRun_64 (lv_at hl 0 rfl) ?_
            refine lv_bipush (v := 8) hx hb dX9_openRun_66 (by decide) ?_
            refine lv_icmp_ge (tgt := 107) hx hb dX9_openRun_68 (by decide) (fun c_44 => ?_) (fun c_44 => ?_)
            · simp only [i_lt, i_le, i_eq, ti_8] at c_44
              refine lv_aload_n hx hb dX9_openRun_107 rfl (lv_at hl 2 rfl) ?_
              refine lv_dup hx hb dX9_openRun_108 rfl ?_
              refine va_get (D := (dC, dI)) (ci := 9) (v := .int (n 0)) (C := RX9) (T := TX9) (N := 15) hx hb hg gb_9 hown hK hP 0 hQ.x0 rfl 5 (by decide) (hg _ gm_fieldLink_RX9_66_ErrandGuild_runCount_I_) (fun _ h9 => h9) rfl dX9_openRun_109 ?_
              refine lv_iconst (v := 1) hx hb dX9_openRun_112 (by decide) ?_
              refine lv_iadd hx hb dX9_openRun_113 ?_
              refine lv_topi (fun z_45 ez_45 => ?_)
              have tz_45 : z_45.toInt = (n 0).toInt + 1 := ar_add rfl ti_1 ez_45 (by omega)
              refine va_put (D := (dC, dI)) (ci := 9) (v := .int (z_45)) (ty := .int) (C := RX9) (T := TX9) (N := 15) hx hb hg gb_9 tyX9 tyX9_ok nmX9 hown hK hP hD hS 0 hQ.x0 rfl 5 (by decide) (hg _ gm_fieldLink_RX9_66_ErrandGuild_runCount_I_) (fun _ h9 => h9) rfl (by decide +kernel) rfl rfl (Nat.le_of_ble_eq_true rfl) dX9_openRun_114 (fun H locs hP hD hS => ?_)
              obtain ⟨ws_47, n_46, en_46, hP, hD, hQ⟩ : ∃ (ws_47 : va_W) (n_46 : Nat → Int32), n_46 = u1 n 0 z_45 ∧ va_P (dC, dI) vwCl ws_47 H ∧ va_D A ws_47 ∧ Pic9 kc ws_47 ad ga gc M n_46 f T G_12 K_13 F_28 := ⟨_, _, rfl, hP, hD, hQ.x9 0 5 (by decide) z_45⟩
              have i1_48 : i1 M n_46 := by rw [en_46]; exact i1.inc i1_35 (by omega) (by omega)
              have i5_49 : i5 n_46 K_13 := by rw [en_46]; exact i5.inc (a := (n 0).toInt.toNat) i5_39 (by omega) (by omega) w_26.2.2.1
              have i6_50 : i6 n_46 T G_12 := by rw [en_46]; exact i6.inc (a := (n 0).toInt.toNat) i6_40 (by omega) (by omega) w_26.2.1
              have i7_51 : i7 n_46 G_12 := by rw [en_46]; exact i7.inc (a := (n 0).toInt.toNat) i7_41 (by omega) (by omega) w_26.1
              have i8_52 : i8 M n_46 gc G_12 := by rw [en_46]; exact (i8.pn i8_42 _ (by decide))
              have hn_53 : n_46 0 = z_45 := by rw [en_46]; exact u1_eq _ _ _
              have thn_53 : (n_46 0).toInt = z_45.toInt := by rw [hn_53]
              refine lv_aload_n hx hb dX9_openRun_117 rfl (lv_at hl 1 rfl) ?_
              refine W_msr2 (fun hm1 hm2 hm3 => ?_)
              have hSl := S9_le i8_52 i9_43
              have hb0_ := i8_52.2.1 0 (by omega)
              have hb1_ := i8_52.2.1 1 (by omega)
              have hb2_ := i8_52.2.1 2 (by omega)
              refine W.widen (k := 20) (n := 300) (by omega) (by omega) ?_
              exact W.aret (v := .ref (ad (50 + 16 * ((n 0).toInt.toNat)))) hx hb hr (Or.inl ⟨_, rfl⟩) (Or.inr ⟨_, rfl⟩) (fun t ht hW => ⟨⟨some (ad (50 + 16 * ((n 0).toInt.toNat))), (ad, ga, gc, M, n_46, f, T, G_12, K_13, F_28), rfl, (Or.inl ⟨rfl, ⟨by show (n_46 0).toInt = (n 0).toInt + 1; omega, by show S9 M gc + 16 * M ≤ S9 M gc + 16 * M; omega, fun a j ha hj => h_i5 a j ha (by have hj : K_13 a 3 = some j := hj; rw [w_26.2.2.2 a (by omega)] at hj; exact hj)⟩⟩), ws_47, by rw [ht]; exact hP, hD, hQ, ⟨i1_48, i2_36, i3_37, i4_38, i5_49, i6_50, i7_51, i8_52, i9_43⟩, by rw [ht]; show hpS H + (260 * M + 2 * S9 M gc) ≤ hpS s.heap + (260 * M + 2 * S9 M gc); omega, by rw [ht]; show 16 * H.size + (256 * M + S9 M gc) ≤ 16 * s.heap.size + (256 * M + S9 M gc); omega, by show (n 0).toInt ≤ (n_46 0).toInt; omega, (fun _ _ => rfl), by show M ≤ M; omega⟩, hS.F ht⟩) hS.2.2 dX9_openRun_118
            · simp only [i_lt, i_le, i_eq, ti_8] at c_44
              refine lv_aload_n hx hb dX9_openRun_71 rfl (lv_at hl 1 rfl) ?_
              refine va_get (D := (dC, dI)) (ci := 7) (v := .ref (ad (50 + 16 * ((n 0).toInt.toNat) + 2))) (C := RX7) (T := TX7) (N := 15) hx hb hg gb_7 hown hK hP (50 + 16 * ((n 0).toInt.toNat)) (hQ.b0 hrc) rfl 11 (by decide) (hg _ gm_fieldLink_RX9_253_ErrandGuild_Run_memory_LErrandGuild_Memory_) (fun _ h9 => h9) rfl dX9_openRun_72 ?_
              refine lv_iload hx hb dX9_openRun_75 (lv_at hl 0 rfl) ?_
              refine lv_aload_nN hx hb dX9_openRun_77 rfl (lv_at hl 4 rfl) ?_
              refine lv_ifnonnullN hx hb dX9_openRun_78 ?_
              refine lv_aload_n hx hb dX9_openRun_81 rfl (lv_at hl 2 rfl) ?_
              refine va_get (D := (dC, dI)) (ci := 9) (v := .ref (ad 2)) (C := RX9) (T := TX9) (N := 15) hx hb hg gb_9 hown hK hP 0 hQ.x0 rfl 1 (by decide) (hg _ gm_fieldLink_RX9_13_ErrandGuild_firsts_AI_) (fun _ h9 => h9) rfl dX9_openRun_82 ?_
              refine lv_iload hx hb dX9_openRun_85 (lv_at hl 0 rfl) ?_
              refine va_iald (f := f 1) hx hb hK hP 2 0 hQ.x2 rfl (vp_in_iff.mpr ⟨by omega, by omega⟩) dX9_openRun_87 ?_
              refine lv_topi (fun z_54 ez_54 => ?_)
              refine lv_goto (tgt := 98) hx hb dX9_openRun_88 (by decide) ?_
              have hCc : ([(50 + 16 * ((n 0).toInt.toNat) + 2), (50 + 16 * ((n 0).toInt.toNat) + 5)] : List Nat).map (fun i => ws_29[i]?) = ([(ad (50 + 16 * ((n 0).toInt.toNat) + 2), .inr (6, [.ref (ad (50 + 16 * ((n 0).toInt.toNat) + 3)), .ref (ad (50 + 16 * ((n 0).toInt.toNat) + 4)), .ref (ad (50 + 16 * ((n 0).toInt.toNat) + 5))])), (ad (50 + 16 * ((n 0).toInt.toNat) + 5), .inl (kc 0, 8, .inl (F_28 ((n 0).toInt.toNat) 2)))] : va_W).map some := mp2 (hQ.b2 hrc) (hQ.b5 hrc)
              have hNd : ([(50 + 16 * ((n 0).toInt.toNat) + 2), (50 + 16 * ((n 0).toInt.toNat) + 5)] : List Nat).Nodup := (nd_off (50 + 16 * ((n 0).toInt.toNat)) (l := [2, 5]) (by decide))
              have hPc := hP.pick [(50 + 16 * ((n 0).toInt.toNat) + 2), (50 + 16 * ((n 0).toInt.toNat) + 5)] hCc
              have hDc := hD.pick [(50 + 16 * ((n 0).toInt.toNat) + 2), (50 + 16 * ((n 0).toInt.toNat) + 5)] hNd hCc
              have hKc := hK.sub (tys' := [((kc 0), .int)]) [0] rfl
              have hFc := va_free (wc := [(ad (50 + 16 * ((n 0).toInt.toNat) + 2), .inr (6, [.ref (ad (50 + 16 * ((n 0).toInt.toNat) + 3)), .ref (ad (50 + 16 * ((n 0).toInt.toNat) + 4)), .ref (ad (50 + 16 * ((n 0).toInt.toNat) + 5))])), (ad (50 + 16 * ((n 0).toInt.toNat) + 5), .inl (kc 0, 8, .inl (F_28 ((n 0).toInt.toNat) 2)))]) hD hS hA [(50 + 16 * ((n 0).toInt.toNat) + 2), (50 + 16 * ((n 0).toInt.toNat) + 5)] hCc
              refine W_msr2 (fun hm1 hm2 hm3 => ?_)
              refine va_callv (va_runV (As := [.int x_27, .int z_54]) (rest := []) ⟨hx, hb, hml, hown, hg⟩ (c_X6_give l dC dI (ad (50 + 16 * ((n 0).toInt.toNat) + 2)) (ad (50 + 16 * ((n 0).toInt.toNat) + 3)) (ad (50 + 16 * ((n 0).toInt.toNat) + 4)) (ad (50 + 16 * ((n 0).toInt.toNat) + 5)) (kc 0) (F_28 ((n 0).toInt.toNat) 2) x_27 z_54 H.size ) (cwV 2 hg (gw_V gm_methodLink_RX9_373_yX6_give gm_instanceMethod_yX6_give gm_selects_RX6_yX6_give_yX6_give gm_initialized_RX6 gm_code_yX6_give_cX6_give_3_none) rfl rfl rfl (by decide +kernel) ⟨Nat.le_of_ble_eq_true rfl, Nat.le_of_ble_eq_true rfl⟩) ⟨fun a U g mk q => by obtain ⟨q0, q1, qP, qK, qD, qN⟩ := q; exact ⟨q0, q1, qP, va_K.moved (u := U) (U := U.calling g mk a) (Vm.Alike.refl U.vm) qK, qD, nx_same (u := U) (U := U.calling g mk a) rfl qN⟩, va_recv hK hP (ci := 6) (q0 := (50 + 16 * ((n 0).toInt.toNat) + 2)) rfl (hQ.b2 hrc), fun U hU hW => ⟨rfl, by rw [hU], by rw [hU]; exact hPc, va_K.moved hW.alike hKc, hDc.weaken (fun _ _ _ _ => trivial), nx_warm hW hN⟩⟩ rfl rfl hl.1 rfl (lv_room (Nat.le_of_ble_eq_true rfl)) dX9_openRun_98 ⟨by show ce + 0 ≤ 20; omega, by show se + 0 ≤ 300; omega⟩) hS (fun q _ h => hFc q h) hFc (fun u_56 t H1 locs ht hvm hw hB hz1 hk1 hS => ?_)
              obtain ⟨ad_57, ac_58, af_59, ag_60⟩ := u_56
              obtain ⟨hP1, hD1, hK1⟩ := hB
              rw [ht] at hP1
              obtain ⟨hP, hD⟩ := va_repl (w1 := [((ad (50 + 16 * ((n 0).toInt.toNat) + 2)), .inr (6, [.ref (ad (50 + 16 * ((n 0).toInt.toNat) + 3)), .ref (ad (50 + 16 * ((n 0).toInt.toNat) + 4)), .ref (ad (50 + 16 * ((n 0).toInt.toNat) + 5))])), ((ad (50 + 16 * ((n 0).toInt.toNat) + 5)), .inl ((kc 0), 8, .inl (af_59 2)))]) hP hD [(50 + 16 * ((n 0).toInt.toNat) + 2), (50 + 16 * ((n 0).toInt.toNat) + 5)] hCc hNd rfl hk1 hFc hP1 hD1
              obtain ⟨ws_62, F_61, eF_61, hP, hD, hQ⟩ : ∃ (ws_62 : va_W) (F_61 : Nat → Nat → Nat → Int32), F_61 = u2 F_28 ((n 0).toInt.toNat) 2 (af_59 2) ∧ va_P (dC, dI) vwCl ws_62 H1 ∧ va_D A ws_62 ∧ Pic9 kc ws_62 ad ga gc M n f T G_12 K_13 F_61 := ⟨_, _, rfl, hP, hD, (hQ.same (hQ.b2 hrc)).arr hrc 5 2 (by decide) (af_59 2) rfl⟩
              refine W.widen (k := ce) (n := se) (Nat.le_refl _) (Nat.le_refl _) ?_
              generalize H1 = H at hP hS ⊢
              obtain ⟨y_63, ey_63⟩ : ∃ q : Int32, q = x_27 + (1) := ⟨_, rfl⟩
              refine lv_iinc (v := y_63) (lv' := [(4, .int y_63), (3, .ref (ad (50 + 16 * ((n 0).toInt.toNat)))), (0, .ref (ad 0)), (1, .int v1), (2, .null)]) hx hb dX9_openRun_101 hl (k := 0) rfl (by rw [ey_63]; rfl) (by decide) rfl (fun ls hl => ?_)
              have ty_63 : y_63.toInt = x_27.toInt + (1) := ar_add rfl ti_1 ey_63 (by omega)
              refine lv_goto (tgt := 64) hx hb dX9_openRun_104 (by decide) ?_
              exact ih_33 y_63   ws_62 F_61 ce se H locs ls (by show (9 - y_63.toInt).toNat < _; omega) (by show 0 ≤ y_63.toInt ∧ y_63.toInt ≤ 8; omega) hQ ⟨i1_35, i2_36, i3_37, i4_38, i5_39, i6_40, i7_41, i8_42, i9_43⟩ hr1 hr2 hP hD hS (lv_sub hl [0, 1, 2, 3, 4] rfl)
        exact L64 _ (0 : Int32)   ws_15 F_14 ce se _ _ _ (Nat.lt_succ_self _) (by have t_0 := ti_0; show 0 ≤ (0 : Int32).toInt ∧ (0 : Int32).toInt ≤ 8; omega) hQ ⟨i1_17, i2_18, i3_19, i4_20, i5_21, i6_22, i7_23, i8_24, i9_25⟩ hr1 hr2 hP hD hS (lv_sub hl [0, 1, 2, 3, 4] rfl)
      · refine W.eq (g2 := F0 m 28 ls [.null]) (by rw [cl_eq, rnA_out hrc]; rfl) ?_
        refine lv_astore_nN (lv' := [(3, .null), (0, .ref (ad 0)), (1, .int v1), (2, .null)]) hx hb dX9_openRun_28 rfl hl (by decide) rfl (fun ls hl => ?_)
        refine lv_aload_nN hx hb dX9_openRun_29 rfl (lv_at hl 0 rfl) ?_
        refine lv_ifnonnullN hx hb dX9_openRun_30 ?_
        have hMe : M = (n 0).toInt.toNat := by omega
        refine va_new (ci := 7) (fs := [.int 0, .int 0, .int 0, .int 0, .int 0, .int 0, .int 0, .int 0, .int 0, .int 0, .null, .null, .null, .null, .null]) (C := RX7) (T := TX7) (N := 15) hx hb hg gb_7 tyX7 tyX7_ok hown (hg _ gm_classLink_RX9_29_RX7) (hg _ gm_instantiable_RX7_15) (hg _ gm_initialized_RX7) hK hP hD hS hA rfl df_X7 (by show ce + 1 ≤ 20; omega) (by show se + 15 ≤ 300; omega) dX9_openRun_33 (fun q0 H hP hD hS => ?_)
        refine lv_dup hx hb dX9_openRun_36 rfl ?_
        refine lv_aload_n hx hb dX9_openRun_37 rfl (lv_at hl 1 rfl) ?_
        refine va_get (D := (dC, dI)) (ci := 9) (v := .int (n 0)) (C := RX9) (T := TX9) (N := 15) hx hb hg gb_9 hown hK hP 0 (ap_l hQ.x0) rfl 5 (by decide) (hg _ gm_fieldLink_RX9_66_ErrandGuild_runCount_I_) (fun _ h9 => h9) rfl dX9_openRun_38 ?_
        have hw0 : (ws ++ [(q0, .inr (7, [.int 0, .int 0, .int 0, .int 0, .int 0, .int 0, .int 0, .int 0, .int 0, .int 0, .null, .null, .null, .null, .null]))])[50 + 16 * M]? = some (q0, .inr (7, [.int 0, .int 0, .int 0, .int 0, .int 0, .int 0, .int 0, .int 0, .int 0, .int 0, .null, .null, .null, .null, .null])) := ap_0 hQ.1
        have hCc : ([50 + 16 * M] : List Nat).map (fun i => (ws ++ [(q0, .inr (7, [.int 0, .int 0, .int 0, .int 0, .int 0, .int 0, .int 0, .int 0, .int 0, .int 0, .null, .null, .null, .null, .null]))])[i]?) = ([(q0, .inr (7, [.int 0, .int 0, .int 0, .int 0, .int 0, .int 0, .int 0, .int 0, .int 0, .int 0, .null, .null, .null, .null, .null]))] : va_W).map some := mp1 hw0
        have hPc := hP.pick [50 + 16 * M] hCc
        have hDc := hD.pick [50 + 16 * M] (List.nodup_cons.mpr ⟨List.not_mem_nil, List.nodup_nil⟩) hCc
        have hKc := hK.sub (tys' := []) [] rfl
        have hFc := va_free (wc := [(q0, .inr (7, [.int 0, .int 0, .int 0, .int 0, .int 0, .int 0, .int 0, .int 0, .int 0, .int 0, .null, .null, .null, .null, .null]))]) hD hS hA [50 + 16 * M] hCc
        refine va_callv (va_runI (As := [.int (n 0)]) (rest := [.ref q0]) ⟨hx, hb, hml, hown, hg⟩ (c_X7_init l dC dI q0 (n 0) H.size) (cwI 1 hg (gw_c gm_code_yX7_init_cX7_init_2_none) rfl rfl rfl (hg _ gm_initialized_RX7) (hg _ gm_methodLink_RX9_368_yX7_init) (hg _ gm_instanceMethod_yX7_init) rfl (by decide +kernel) ⟨Nat.le_of_ble_eq_true rfl, Nat.le_of_ble_eq_true rfl⟩) ⟨fun a U g mk q => by obtain ⟨q0, q1, qP, qK, qD, qN⟩ := q; exact ⟨q0, q1, qP, va_K.moved (u := U) (U := U.calling g mk a) (Vm.Alike.refl U.vm) qK, qD, nx_same (u := U) (U := U.calling g mk a) rfl qN⟩, fun U hU hW => ⟨rfl, by rw [hU], by rw [hU]; exact hPc, va_K.moved hW.alike hKc, hDc.weaken (fun _ _ _ _ => trivial), nx_warm hW hN⟩⟩ rfl rfl hl.1 rfl (lv_room (Nat.le_of_ble_eq_true rfl)) dX9_openRun_41 ⟨by show ce + 1 + 15 ≤ 20; omega, by show se + 15 + 213 ≤ 300; omega⟩) hS (fun q _ h => hFc q h) hFc (fun u1_ t H1 locs ht hvm hw hB hz1 hk1 hS => ?_)
        obtain ⟨qa, qc, qf, qg⟩ := u1_
        obtain ⟨hP1, hD1, hK1⟩ := hB
        rw [ht] at hP1
        have hK1 := va_K.moved hvm.symm hK1
        have hK1 : va_K (dC, dI) vwCl [(qc 3, .boolean), (qc 4, .int), (qc 5, .int), (qc 7, .int), (qc 8, .int), (qc 9, .int), (qc 10, .int), (qc 11, .int), (qc 12, .int), (qc 15, .int)] s := hK1
        have kq3 : qc 3 = kc 1 := va_K.one (hK1.sub (tys' := [(qc 3, .boolean)]) [0] rfl) (hK.sub (tys' := [(kc 1, .boolean)]) [1] rfl)
        have kq4 : qc 4 = kc 0 := va_K.one (hK1.sub (tys' := [(qc 4, .int)]) [1] rfl) (hK.sub (tys' := [(kc 0, .int)]) [0] rfl)
        have kq5 : qc 5 = kc 0 := va_K.one (hK1.sub (tys' := [(qc 5, .int)]) [2] rfl) (hK.sub (tys' := [(kc 0, .int)]) [0] rfl)
        have kq7 : qc 7 = kc 0 := va_K.one (hK1.sub (tys' := [(qc 7, .int)]) [3] rfl) (hK.sub (tys' := [(kc 0, .int)]) [0] rfl)
        have kq8 : qc 8 = kc 0 := va_K.one (hK1.sub (tys' := [(qc 8, .int)]) [4] rfl) (hK.sub (tys' := [(kc 0, .int)]) [0] rfl)
        have kq9 : qc 9 = kc 0 := va_K.one (hK1.sub (tys' := [(qc 9, .int)]) [5] rfl) (hK.sub (tys' := [(kc 0, .int)]) [0] rfl)
        have kq10 : qc 10 = kc 0 := va_K.one (hK1.sub (tys' := [(qc 10, .int)]) [6] rfl) (hK.sub (tys' := [(kc 0, .int)]) [0] rfl)
        have kq11 : qc 11 = kc 0 := va_K.one (hK1.sub (tys' := [(qc 11, .int)]) [7] rfl) (hK.sub (tys' := [(kc 0, .int)]) [0] rfl)
        have kq12 : qc 12 = kc 0 := va_K.one (hK1.sub (tys' := [(qc 12, .int)]) [8] rfl) (hK.sub (tys' := [(kc 0, .int)]) [0] rfl)
        have kq15 : qc 15 = kc 0 := va_K.one (hK1.sub (tys' := [(qc 15, .int)]) [9] rfl) (hK.sub (tys' := [(kc 0, .int)]) [0] rfl)
        have hP1 : va_P (dC, dI) vwCl [(q0, .inr (7, [.int (n 0), .int 0, .int 0, .int 0, .int 0, .int 0, .int 0, .int 0, .int 0, .int 0, .ref (qa 1), .ref (qa 2), .ref (qa 6), .ref (qa 13), .ref (qa 14)])), (qa 1, .inr (4, [.null, .null, .int 0, .int 0, .int 0, .null, .null, .null, .int 0])), (qa 2, .inr (6, [.ref (qa 3), .ref (qa 4), .ref (qa 5)])), (qa 3, .inl (qc 3, 8, .inl (fun _ => 0))), (qa 4, .inl (qc 4, 8, .inl (fun _ => 0))), (qa 5, .inl (qc 5, 8, .inl (fun _ => 0))), (qa 6, .inr (8, [.ref (qa 7), .ref (qa 8), .ref (qa 9), .int 0, .ref (qa 10), .ref (qa 11), .ref (qa 12), .int 0, .int 0])), (qa 7, .inl (qc 7, 24, .inl (fun _ => 0))), (qa 8, .inl (qc 8, 24, .inl (fun _ => 0))), (qa 9, .inl (qc 9, 24, .inl (fun _ => 0))), (qa 10, .inl (qc 10, 24, .inl (fun _ => 0))), (qa 11, .inl (qc 11, 24, .inl (fun _ => 0))), (qa 12, .inl (qc 12, 24, .inl (fun _ => 0))), (qa 13, .inr (2, [.int 0, .int 0, .int 0, .int 0, .int 0])), (qa 14, .inr (0, [.int 1048576, .ref (qa 15), .int 0])), (qa 15, .inl (qc 15, 16, .inl (fun _ => 0)))] H1 := hP1
        have hD1 : va_D _ [(q0, .inr (7, [.int (n 0), .int 0, .int 0, .int 0, .int 0, .int 0, .int 0, .int 0, .int 0, .int 0, .ref (qa 1), .ref (qa 2), .ref (qa 6), .ref (qa 13), .ref (qa 14)])), (qa 1, .inr (4, [.null, .null, .int 0, .int 0, .int 0, .null, .null, .null, .int 0])), (qa 2, .inr (6, [.ref (qa 3), .ref (qa 4), .ref (qa 5)])), (qa 3, .inl (qc 3, 8, .inl (fun _ => 0))), (qa 4, .inl (qc 4, 8, .inl (fun _ => 0))), (qa 5, .inl (qc 5, 8, .inl (fun _ => 0))), (qa 6, .inr (8, [.ref (qa 7), .ref (qa 8), .ref (qa 9), .int 0, .ref (qa 10), .ref (qa 11), .ref (qa 12), .int 0, .int 0])), (qa 7, .inl (qc 7, 24, .inl (fun _ => 0))), (qa 8, .inl (qc 8, 24, .inl (fun _ => 0))), (qa 9, .inl (qc 9, 24, .inl (fun _ => 0))), (qa 10, .inl (qc 10, 24, .inl (fun _ => 0))), (qa 11, .inl (qc 11, 24, .inl (fun _ => 0))), (qa 12, .inl (qc 12, 24, .inl (fun _ => 0))), (qa 13, .inr (2, [.int 0, .int 0, .int 0, .int 0, .int 0])), (qa 14, .inr (0, [.int 1048576, .ref (qa 15), .int 0])), (qa 15, .inl (qc 15, 16, .inl (fun _ => 0)))] := hD1
        rw [kq3, kq4, kq5, kq7, kq8, kq9, kq10, kq11, kq12, kq15] at hP1 hD1
        obtain ⟨qq, hqq⟩ : ∃ f : Nat → Nat, f = (fun j => match j with | 0 => q0 | j + 1 => qa (j + 1)) := ⟨_, rfl⟩
        have hP1 : va_P (dC, dI) vwCl (cells16 kc qq (n 0)) H1 := by rw [hqq]; exact hP1
        have hD1 : va_D (va_A [(q0, .inr (7, [.int 0, .int 0, .int 0, .int 0, .int 0, .int 0, .int 0, .int 0, .int 0, .int 0, .null, .null, .null, .null, .null]))] H.size) (cells16 kc qq (n 0)) := by rw [hqq]; exact hD1
        have hq0 : qq 0 = q0 := by rw [hqq]
        obtain ⟨hP, hD⟩ := va_appR hP hD hk1 hFc hP1 hD1
        clear hP1 hD1 hk1 hz1 hPc hDc hKc hCc hw0
        generalize H1 = H at hP hS ⊢
        rw [← hq0]
        refine W.eq (g2 := F0 m 44 ls [.ref (qq 0)]) rfl ?_
        refine lv_astore_n (lv' := [(3, .ref (qq 0)), (0, .ref (ad 0)), (1, .int v1), (2, .null)]) hx hb dX9_openRun_44 rfl hl (by decide) rfl (fun ls hl => ?_)
        refine lv_aload_n hx hb dX9_openRun_45 rfl (lv_at hl 1 rfl) ?_
        refine va_get (D := (dC, dI)) (ci := 9) (v := .ref (ad 40)) (C := RX9) (T := TX9) (N := 15) hx hb hg gb_9 hown hK hP 0 (ap_l hQ.x0) rfl 4 (by decide) (hg _ gm_fieldLink_RX9_31_ErrandGuild_runs_ALErrandGuild_Run_) (fun _ h9 => h9) rfl dX9_openRun_46 ?_
        refine lv_aload_n hx hb dX9_openRun_49 rfl (lv_at hl 1 rfl) ?_
        refine va_get (D := (dC, dI)) (ci := 9) (v := .int (n 0)) (C := RX9) (T := TX9) (N := 15) hx hb hg gb_9 hown hK hP 0 (ap_l hQ.x0) rfl 5 (by decide) (hg _ gm_fieldLink_RX9_66_ErrandGuild_runCount_I_) (fun _ h9 => h9) rfl dX9_openRun_50 ?_
        refine lv_aload_n hx hb dX9_openRun_53 rfl (lv_at hl 0 rfl) ?_
        refine va_astq (r := (RX7, TX7, 15)) hx hb hK hP hD hS 40 3 (50 + 16 * M) 7 (ap_l hQ.x40) rfl (ap_0 hQ.1) rfl (vp_in_iff.mpr ⟨by omega, by omega⟩) dX9_openRun_54 (fun H locs hP hD hS => ?_)
        have hix : Int32.toNatClampNeg (n 0) = M := by rw [cl_eq]; omega
        rw [hix] at hP hD
        obtain ⟨ws_71, ad_64, ga_65, gc_66, M_67, G_68, K_69, F_70, ead_64, ega_65, egc_66, eM_67, eG_68, eK_69, eF_70, hP, hD, hQ⟩ : ∃ (ws_71 : va_W) (ad_64 : Nat → Nat) (ga_65 : Nat → Nat) (gc_66 : Nat → Nat) (M_67 : Nat) (G_68 : Nat → Nat → Int32) (K_69 : Nat → Nat → Option Nat) (F_70 : Nat → Nat → Nat → Int32), ad_64 = adX ad M qq ∧ ga_65 = u1 ga (3 + M) (qq 15) ∧ gc_66 = u1 gc (3 + M) 16 ∧ M_67 = M + 1 ∧ G_68 = u1 G M (newG (n 0)) ∧ K_69 = u1 K M (fun _ => none) ∧ F_70 = u1 F M (fun _ _ => 0) ∧ va_P (dC, dI) vwCl ws_71 H ∧ va_D A ws_71 ∧ Pic9 kc ws_71 ad_64 ga_65 gc_66 M_67 n f T G_68 K_69 F_70 := ⟨_, _, _, _, _, _, _, _, rfl, rfl, rfl, rfl, rfl, rfl, rfl, hP, hD, hQ.push h_i2 h_i3 qq (n 0)⟩
        have hI2 : I9 M_67 n T gc_66 G_68 K_69 R := by rw [eM_67, egc_66, eG_68, eK_69]; exact I9.push hI (by omega) (by omega) (n 0)
        obtain ⟨i1_72, i2_73, i3_74, i4_75, i5_76, i6_77, i7_78, i8_79, i9_80⟩ := id hI2
        have q1_ := i1_72
        unfold i1 at q1_
        have hS9 : S9 M_67 gc_66 = S9 M gc + 16 := by rw [eM_67, egc_66]; exact S9_push
        have hE1 : ∀ q : Nat, q < 50 + 16 * M → ad_64 q = ad q := fun q hq => by rw [ead_64]; exact adX_lt hq
        have hrc2 : (n 0).toInt.toNat < M_67 := by omega
        have hqa : qq 0 = ad_64 (50 + 16 * (n 0).toInt.toNat) := by rw [← hMe, ead_64]; exact adX_new0.symm
        rw [hqa] at hl
        obtain ⟨ce2, hce2⟩ : ∃ q : Nat, q = ce + 16 := ⟨_, rfl⟩
        obtain ⟨se2, hse2⟩ : ∃ q : Nat, q = se + 228 := ⟨_, rfl⟩
        refine W.widen (k := ce2) (n := se2) (by omega) (by omega) ?_
        have hr1 : se2 + (260 * M + 2 * S9 M gc) ≤ (260 * M_67 + 2 * S9 M_67 gc_66) := by omega
        have hr2 : 16 * ce2 + (256 * M + S9 M gc) ≤ (256 * M_67 + S9 M_67 gc_66) := by omega
        generalize ce2 = ce, se2 = se at hr1 hr2 ⊢
        have hl : lv_has ls 5 [(3, .ref (ad_64 (50 + 16 * ((n 0).toInt.toNat)))), (0, .ref (ad_64 0)), (1, .int v1), (2, .null)] := by rw [hE1 0 (by omega)]; exact hl
        refine lv_aload_n hx hb dX9_openRun_55 rfl (lv_at hl 0 rfl) ?_
        refine lv_iload_n hx hb dX9_openRun_56 rfl (lv_at hl 2 rfl) ?_
        refine lv_aload_nN hx hb dX9_openRun_57 rfl (lv_at hl 3 rfl) ?_
        have hFc := free_all hD hS hA
        refine W_msr2 (fun hm1 hm2 hm3 => ?_)
        refine va_callv (va_runV (As := [.int v1, .null]) (rest := []) ⟨hx, hb, hml, hown, hg⟩ (c_X7_begin_n l dC dI kc ws_71 ad_64 ga_65 gc_66 M_67 n f T G_68 K_69 F_70 R ((n 0).toInt.toNat) v1 H.size (hpS H) hQ ⟨i1_72, i2_73, i3_74, i4_75, i5_76, i6_77, i7_78, i8_79, i9_80⟩ (by show ((n 0).toInt.toNat) < M_67; omega)) (cwV 2 hg (gw_V gm_methodLink_RX9_369_yX7_begin gm_instanceMethod_yX7_begin gm_selects_RX7_yX7_begin_yX7_begin gm_initialized_RX7 gm_code_yX7_begin_cX7_begin_3_none) rfl rfl rfl (by decide +kernel) ⟨Nat.le_of_ble_eq_true rfl, Nat.le_of_ble_eq_true rfl⟩) ⟨fun a U g mk q => by obtain ⟨q0, q1, q2, qP, qK, qD, qN⟩ := q; exact ⟨q0, q1, q2, qP, va_K.moved (u := U) (U := U.calling g mk a) (Vm.Alike.refl U.vm) qK, qD, nx_same (u := U) (U := U.calling g mk a) rfl qN⟩, va_recv hK hP (ci := 7) (q0 := (50 + 16 * ((n 0).toInt.toNat))) rfl (hQ.b0 hrc2), fun U hU hW => ⟨rfl, by rw [hU], by rw [hU], by rw [hU]; exact hP, va_K.moved hW.alike hK, hD.weaken (fun _ _ _ _ => trivial), nx_warm hW hN⟩⟩ rfl rfl hl.1 rfl (lv_room (Nat.le_of_ble_eq_true rfl)) dX9_openRun_58 ⟨by show ce + 0 ≤ 20; omega, by show se + 0 ≤ 300; omega⟩) hS (fun q _ h => hFc q h) hFc (fun u_82 t H1 locs ht hvm hw hB hz1 hk1 hS => ?_)
        obtain ⟨ad_83, ga_84, gc_85, M_86, n_87, f_88, T_89, G_90, K_91, F_92⟩ := u_82
        have hB : ∃ w : va_W, va_P (dC, dI) vwCl w t.heap ∧ va_D (va_A ws_71 H.size) w ∧ Pic9 kc w ad_64 ga_65 gc_66 M_67 n f T G_90 K_91 F_92 ∧ I9 M_67 n T gc_66 G_90 K_91 R ∧ hpS t.heap + (260 * M_67 + 2 * S9 M_67 gc_66) ≤ hpS H + (260 * M_67 + 2 * S9 M_67 gc_66) ∧ 16 * t.heap.size + (256 * M_67 + S9 M_67 gc_66) ≤ 16 * H.size + (256 * M_67 + S9 M_67 gc_66) := hB
        rw [ht] at hB
        obtain ⟨ws_93, hP, hD, hQ, hI_94, hy1, hy2⟩ := hB
        have hD := hD.weaken (fun k q _ h => hFc _ h)
        obtain ⟨i1_95, i2_96, i3_97, i4_98, i5_99, i6_100, i7_101, i8_102, i9_103⟩ := id hI_94
        have q1_ := i1_95
        unfold i1 at q1_
        have hSl := S9_le i8_102 i9_103
        have hb0_ := i8_102.2.1 0 (by omega)
        have hb1_ := i8_102.2.1 1 (by omega)
        have hb2_ := i8_102.2.1 2 (by omega)
        refine W_msr2 (fun hn1 hn2 hn3 => ?_)
        obtain ⟨ce2, se2, hk3, hk4, hr1, hr2⟩ : ∃ c2 s2 : Nat, H1.size ≤ s.heap.size + c2 ∧ hpS H1 ≤ hpS s.heap + s2 ∧ s2 + (260 * M + 2 * S9 M gc) ≤ (260 * M_67 + 2 * S9 M_67 gc_66) ∧ 16 * c2 + (256 * M + S9 M gc) ≤ (256 * M_67 + S9 M_67 gc_66) := ⟨H1.size - s.heap.size, hpS H1 - hpS s.heap, by omega, by omega, by have := hS.1; omega, by have := hS.1; omega⟩
        refine W_tightP hk3 hk4 ?_
        clear hm1 hm2 hm3 hn1 hn2 hn3 hk3 hk4
        clear hk1 hz1
        generalize ce2 = ce, se2 = se at hr1 hr2 ⊢
        generalize H1 = H at hP hS ⊢
        have w_104 : (G_90 ((n 0).toInt.toNat) 2).toInt = 0 ∧ (G_90 ((n 0).toInt.toNat) 3).toInt = -1 ∧ K_91 ((n 0).toInt.toNat) 3 = none ∧ (∀ a : Nat, a ≠ ((n 0).toInt.toNat) → K_91 a = K_69 a) := hw
        refine lv_iconst (v := 0) hx hb dX9_openRun_61 (by decide) ?_
        refine lv_istore (lv' := [(4, .int 0), (3, .ref (ad_64 (50 + 16 * ((n 0).toInt.toNat)))), (0, .ref (ad_64 0)), (1, .int v1), (2, .null)]) hx hb dX9_openRun_62 hl (by decide) rfl (fun ls hl => ?_)
        have L64 : ∀ (fuel : Nat) (x_105 : Int32)   (ws_107 : va_W) (F_106 : Nat → Nat → Nat → Int32) (ce se : Nat) (H : Heap) (locs : List Loc) (ls : Array Slot), (9 - x_105.toInt).toNat < fuel → (0 ≤ x_105.toInt ∧ x_105.toInt ≤ 8) → Pic9 kc ws_107 ad_64 ga_65 gc_66 M_67 n f T G_90 K_91 F_106 → I9 M_67 n T gc_66 G_90 K_91 R → (se + (260 * M + 2 * S9 M gc) ≤ (260 * M_67 + 2 * S9 M_67 gc_66)) → (16 * ce + (256 * M + S9 M gc) ≤ (256 * M_67 + S9 M_67 gc_66)) → va_P (dC, dI) vwCl ws_107 H → va_D A ws_107 → va_S A s.heap H locs → lv_has ls 5 [(4, .int x_105), (3, .ref (ad_64 (50 + 16 * ((n 0).toInt.toNat)))), (0, .ref (ad_64 0)), (1, .int v1), (2, .null)] → W p l e (headSpec (.code yX9_openRun cX9_openRun 5 (some (.object "ErrandGuild$Run")) :: gw) ({ frames := 3, cells := 20, slots := 300, locals := 62 })).room s m ([.ref (ad 0), .int v1, .null] : List Value).toArray below meth c H locs ce se (MQ below (va_Qq (fun (r : Option Nat) (u : (Nat → Nat) × (Nat → Nat) × (Nat → Nat) × Nat × (Nat → Int32) × (Nat → Nat → Int32) × (Nat → Option Nat) × (Nat → Nat → Int32) × (Nat → Nat → Option Nat) × (Nat → Nat → Nat → Int32)) => (r = some (u.1 (50 + 16 * (n 0).toInt.toNat)) ∧ (u.2.2.2.2.1 0).toInt = (n 0).toInt + 1 ∧ S9 u.2.2.2.1 u.2.2.1 + 16 * M ≤ S9 M gc + 16 * u.2.2.2.1 ∧ (∀ a j : Nat, (a : Int) < (n 0).toInt → u.2.2.2.2.2.2.2.2.1 a 3 = some j → (j : Int) < (n 0).toInt)) ∨ (r = none ∧ (u.2.2.2.2.1 0).toInt = (n 0).toInt ∧ S9 u.2.2.2.1 u.2.2.1 + 16 * M ≤ S9 M gc + 16 * u.2.2.2.1 ∧ 200 ≤ (n 0).toInt)) (fun u t => ∃ w : va_W, va_P (dC, dI) vwCl w t.heap ∧ va_D A w ∧ Pic9 kc w u.1 u.2.1 u.2.2.1 u.2.2.2.1 u.2.2.2.2.1 f T u.2.2.2.2.2.2.2.1 u.2.2.2.2.2.2.2.2.1 u.2.2.2.2.2.2.2.2.2 ∧ I9 u.2.2.2.1 u.2.2.2.2.1 T u.2.2.1 u.2.2.2.2.2.2.2.1 u.2.2.2.2.2.2.2.2.1 R ∧ hpS t.heap + (260 * M + 2 * S9 M gc) ≤ (hpS s.heap) + (260 * u.2.2.2.1 + 2 * S9 u.2.2.2.1 u.2.2.1) ∧ 16 * t.heap.size + (256 * M + S9 M gc) ≤ 16 * s.heap.size + (256 * u.2.2.2.1 + S9 u.2.2.2.1 u.2.2.1) ∧ (n 0).toInt ≤ (u.2.2.2.2.1 0).toInt ∧ (∀ q : Nat, q < 50 + 16 * M → u.1 q = ad q) ∧ M ≤ u.2.2.2.1) A) ([.ref (ad 0), .int v1, .null] : List Value).toArray s 20 300 A) (F0 m 64 ls []) := by
          intro fuel
          induction fuel with
          | zero => intro x_105 ws_107 F_106 ce se H locs ls hm; exact absurd hm (Nat.not_lt_zero _)
          | succ fuel_112 ih_111 =>
            intro x_105 ws_107 F_106 ce se H locs ls hm_108 v_109 hQ hI_110 hr1 hr2 hP hD hS hl
            obtain ⟨i1_113, i2_114, i3_115, i4_116, i5_117, i6_118, i7_119, i8_120, i9_121⟩ := id hI_110
            have q1_ := i1_113
            unfold i1 at q1_
            have hSl := S9_le i8_120 i9_121
            have hb0_ := i8_120.2.1 0 (by omega)
            have hb1_ := i8_120.2.1 1 (by omega)
            have hb2_ := i8_120.2.1 2 (by omega)
            refine lv_iload hx hb dX9_openRun_64 (lv_at hl 0 rfl) ?_
            refine lv_bipush (v := 8) hx hb dX9_openRun_66 (by decide) ?_
            refine lv_icmp_ge (tgt := 107) hx hb dX9_openRun_68 (by decide) (fun c_122 => ?_) (fun c_122 => ?_)
            · simp only [i_lt, i_le, i_eq, ti_8] at c_122
              refine lv_aload_n hx hb dX9_openRun_107 rfl (lv_at hl 2 rfl) ?_
              refine lv_dup hx hb dX9_openRun_108 rfl ?_
              refine va_get (D := (dC, dI)) (ci := 9) (v := .int (n 0)) (C := RX9) (T := TX9) (N := 15) hx hb hg gb_9 hown hK hP 0 hQ.x0 rfl 5 (by decide) (hg _ gm_fieldLink_RX9_66_ErrandGuild_runCount_I_) (fun _ h9 => h9) rfl dX9_openRun_109 ?_
              refine lv_iconst (v := 1) hx hb dX9_openRun_112 (by decide) ?_
              refine lv_iadd hx hb dX9_openRun_113 ?_
              refine lv_topi (fun z_123 ez_123 => ?_)
              have tz_123 : z_123.toInt = (n 0).toInt + 1 := ar_add rfl ti_1 ez_123 (by omega)
              refine va_put (D := (dC, dI)) (ci := 9) (v := .int (z_123)) (ty := .int) (C := RX9) (T := TX9) (N := 15) hx hb hg gb_9 tyX9 tyX9_ok nmX9 hown hK hP hD hS 0 hQ.x0 rfl 5 (by decide) (hg _ gm_fieldLink_RX9_66_ErrandGuild_runCount_I_) (fun _ h9 => h9) rfl (by decide +kernel) rfl rfl (Nat.le_of_ble_eq_true rfl) dX9_openRun_114 (fun H locs hP hD hS => ?_)
              obtain ⟨ws_125, n_124, en_124, hP, hD, hQ⟩ : ∃ (ws_125 : va_W) (n_124 : Nat → Int32), n_124 = u1 n 0 z_123 ∧ va_P (dC, dI) vwCl ws_125 H ∧ va_D A ws_125 ∧ Pic9 kc ws_125 ad_64 ga_65 gc_66 M_67 n_124 f T G_90 K_91 F_106 := ⟨_, _, rfl, hP, hD, hQ.x9 0 5 (by decide) z_123⟩
              have i1_126 : i1 M_67 n_124 := by rw [en_124]; exact i1.inc i1_113 (by omega) (by omega)
              have i5_127 : i5 n_124 K_91 := by rw [en_124]; exact i5.inc (a := (n 0).toInt.toNat) i5_117 (by omega) (by omega) w_104.2.2.1
              have i6_128 : i6 n_124 T G_90 := by rw [en_124]; exact i6.inc (a := (n 0).toInt.toNat) i6_118 (by omega) (by omega) w_104.2.1
              have i7_129 : i7 n_124 G_90 := by rw [en_124]; exact i7.inc (a := (n 0).toInt.toNat) i7_119 (by omega) (by omega) w_104.1
              have i8_130 : i8 M_67 n_124 gc_66 G_90 := by rw [en_124]; exact (i8.pn i8_120 _ (by decide))
              have hn_131 : n_124 0 = z_123 := by rw [en_124]; exact u1_eq _ _ _
              have thn_131 : (n_124 0).toInt = z_123.toInt := by rw [hn_131]
              refine lv_aload_n hx hb dX9_openRun_117 rfl (lv_at hl 1 rfl) ?_
              refine W_msr2 (fun hm1 hm2 hm3 => ?_)
              have hSl := S9_le i8_130 i9_121
              have hb0_ := i8_130.2.1 0 (by omega)
              have hb1_ := i8_130.2.1 1 (by omega)
              have hb2_ := i8_130.2.1 2 (by omega)
              refine W.widen (k := 20) (n := 300) (by omega) (by omega) ?_
              exact W.aret (v := .ref (ad_64 (50 + 16 * ((n 0).toInt.toNat)))) hx hb hr (Or.inl ⟨_, rfl⟩) (Or.inr ⟨_, rfl⟩) (fun t ht hW => ⟨⟨some (ad_64 (50 + 16 * ((n 0).toInt.toNat))), (ad_64, ga_65, gc_66, M_67, n_124, f, T, G_90, K_91, F_106), rfl, (Or.inl ⟨rfl, ⟨by show (n_124 0).toInt = (n 0).toInt + 1; omega, by show S9 M_67 gc_66 + 16 * M ≤ S9 M gc + 16 * M_67; omega, fun a j ha hj => h_i5 a j ha (by have hj : K_91 a 3 = some j := hj; rw [w_104.2.2.2 a (by omega), eK_69, u1_ne _ _ (by omega)] at hj; exact hj)⟩⟩), ws_125, by rw [ht]; exact hP, hD, hQ, ⟨i1_126, i2_114, i3_115, i4_116, i5_127, i6_128, i7_129, i8_130, i9_121⟩, by rw [ht]; show hpS H + (260 * M + 2 * S9 M gc) ≤ hpS s.heap + (260 * M_67 + 2 * S9 M_67 gc_66); omega, by rw [ht]; show 16 * H.size + (256 * M + S9 M gc) ≤ 16 * s.heap.size + (256 * M_67 + S9 M_67 gc_66); omega, by show (n 0).toInt ≤ (n_124 0).toInt; omega, hE1, by show M ≤ M_67; omega⟩, hS.F ht⟩) hS.2.2 dX9_openRun_118
            · simp only [i_lt, i_le, i_eq, ti_8] at c_122
              refine lv_aload_n hx hb dX9_openRun_71 rfl (lv_at hl 1 rfl) ?_
              refine va_get (D := (dC, dI)) (ci := 7) (v := .ref (ad_64 (50 + 16 * ((n 0).toInt.toNat) + 2))) (C := RX7) (T := TX7) (N := 15) hx hb hg gb_7 hown hK hP (50 + 16 * ((n 0).toInt.toNat)) (hQ.b0 hrc2) rfl 11 (by decide) (hg _ gm_fieldLink_RX9_253_ErrandGuild_Run_memory_LErrandGuild_Memory_) (fun _ h9 => h9) rfl dX9_openRun_72 ?_
              refine lv_iload hx hb dX9_openRun_75 (lv_at hl 0 rfl) ?_
              refine lv_aload_nN hx hb dX9_openRun_77 rfl (lv_at hl 4 rfl) ?_
              refine lv_ifnonnullN hx hb dX9_openRun_78 ?_
              refine lv_aload_n hx hb dX9_openRun_81 rfl (lv_at hl 2 rfl) ?_
              refine va_get (D := (dC, dI)) (ci := 9) (v := .ref (ad_64 2)) (C := RX9) (T := TX9) (N := 15) hx hb hg gb_9 hown hK hP 0 hQ.x0 rfl 1 (by decide) (hg _ gm_fieldLink_RX9_13_ErrandGuild_firsts_AI_) (fun _ h9 => h9) rfl dX9_openRun_82 ?_
              refine lv_iload hx hb dX9_openRun_85 (lv_at hl 0 rfl) ?_
              refine va_iald (f := f 1) hx hb hK hP 2 0 hQ.x2 rfl (vp_in_iff.mpr ⟨by omega, by omega⟩) dX9_openRun_87 ?_
              refine lv_topi (fun z_132 ez_132 => ?_)
              refine lv_goto (tgt := 98) hx hb dX9_openRun_88 (by decide) ?_
              have hCc : ([(50 + 16 * ((n 0).toInt.toNat) + 2), (50 + 16 * ((n 0).toInt.toNat) + 5)] : List Nat).map (fun i => ws_107[i]?) = ([(ad_64 (50 + 16 * ((n 0).toInt.toNat) + 2), .inr (6, [.ref (ad_64 (50 + 16 * ((n 0).toInt.toNat) + 3)), .ref (ad_64 (50 + 16 * ((n 0).toInt.toNat) + 4)), .ref (ad_64 (50 + 16 * ((n 0).toInt.toNat) + 5))])), (ad_64 (50 + 16 * ((n 0).toInt.toNat) + 5), .inl (kc 0, 8, .inl (F_106 ((n 0).toInt.toNat) 2)))] : va_W).map some := mp2 (hQ.b2 hrc2) (hQ.b5 hrc2)
              have hNd : ([(50 + 16 * ((n 0).toInt.toNat) + 2), (50 + 16 * ((n 0).toInt.toNat) + 5)] : List Nat).Nodup := (nd_off (50 + 16 * ((n 0).toInt.toNat)) (l := [2, 5]) (by decide))
              have hPc := hP.pick [(50 + 16 * ((n 0).toInt.toNat) + 2), (50 + 16 * ((n 0).toInt.toNat) + 5)] hCc
              have hDc := hD.pick [(50 + 16 * ((n 0).toInt.toNat) + 2), (50 + 16 * ((n 0).toInt.toNat) + 5)] hNd hCc
              have hKc := hK.sub (tys' := [((kc 0), .int)]) [0] rfl
              have hFc := va_free (wc := [(ad_64 (50 + 16 * ((n 0).toInt.toNat) + 2), .inr (6, [.ref (ad_64 (50 + 16 * ((n 0).toInt.toNat) + 3)), .ref (ad_64 (50 + 16 * ((n 0).toInt.toNat) + 4)), .ref (ad_64 (50 + 16 * ((n 0).toInt.toNat) + 5))])), (ad_64 (50 + 16 * ((n 0).toInt.toNat) + 5), .inl (kc 0, 8, .inl (F_106 ((n 0).toInt.toNat) 2)))]) hD hS hA [(50 + 16 * ((n 0).toInt.toNat) + 2), (50 + 16 * ((n 0).toInt.toNat) + 5)] hCc
              refine W_msr2 (fun hm1 hm2 hm3 => ?_)
              refine va_callv (va_runV (As := [.int x_105, .int z_132]) (rest := []) ⟨hx, hb, hml, hown, hg⟩ (c_X6_give l dC dI (ad_64 (50 + 16 * ((n 0).toInt.toNat) + 2)) (ad_64 (50 + 16 * ((n 0).toInt.toNat) + 3)) (ad_64 (50 + 16 * ((n 0).toInt.toNat) + 4)) (ad_64 (50 + 16 * ((n 0).toInt.toNat) + 5)) (kc 0) (F_106 ((n 0).toInt.toNat) 2) x_105 z_132 H.size ) (cwV 2 hg (gw_V gm_methodLink_RX9_373_yX6_give gm_instanceMethod_yX6_give gm_selects_RX6_yX6_give_yX6_give gm_initialized_RX6 gm_code_yX6_give_cX6_give_3_none) rfl rfl rfl (by decide +kernel) ⟨Nat.le_of_ble_eq_true rfl, Nat.le_of_ble_eq_true rfl⟩) ⟨fun a U g mk q => by obtain ⟨q0, q1, qP, qK, qD, qN⟩ := q; exact ⟨q0, q1, qP, va_K.moved (u := U) (U := U.calling g mk a) (Vm.Alike.refl U.vm) qK, qD, nx_same (u := U) (U := U.calling g mk a) rfl qN⟩, va_recv hK hP (ci := 6) (q0 := (50 + 16 * ((n 0).toInt.toNat) + 2)) rfl (hQ.b2 hrc2), fun U hU hW => ⟨rfl, by rw [hU], by rw [hU]; exact hPc, va_K.moved hW.alike hKc, hDc.weaken (fun _ _ _ _ => trivial), nx_warm hW hN⟩⟩ rfl rfl hl.1 rfl (lv_room (Nat.le_of_ble_eq_true rfl)) dX9_openRun_98 ⟨by show ce + 0 ≤ 20; omega, by show se + 0 ≤ 300; omega⟩) hS (fun q _ h => hFc q h) hFc (fun u_134 t H1 locs ht hvm hw hB hz1 hk1 hS => ?_)
              obtain ⟨ad_135, ac_136, af_137, ag_138⟩ := u_134
              obtain ⟨hP1, hD1, hK1⟩ := hB
              rw [ht] at hP1
              obtain ⟨hP, hD⟩ := va_repl (w1 := [((ad_64 (50 + 16 * ((n 0).toInt.toNat) + 2)), .inr (6, [.ref (ad_64 (50 + 16 * ((n 0).toInt.toNat) + 3)), .ref (ad_64 (50 + 16 * ((n 0).toInt.toNat) + 4)), .ref (ad_64 (50 + 16 * ((n 0).toInt.toNat) + 5))])), ((ad_64 (50 + 16 * ((n 0).toInt.toNat) + 5)), .inl ((kc 0), 8, .inl (af_137 2)))]) hP hD [(50 + 16 * ((n 0).toInt.toNat) + 2), (50 + 16 * ((n 0).toInt.toNat) + 5)] hCc hNd rfl hk1 hFc hP1 hD1
              obtain ⟨ws_140, F_139, eF_139, hP, hD, hQ⟩ : ∃ (ws_140 : va_W) (F_139 : Nat → Nat → Nat → Int32), F_139 = u2 F_106 ((n 0).toInt.toNat) 2 (af_137 2) ∧ va_P (dC, dI) vwCl ws_140 H1 ∧ va_D A ws_140 ∧ Pic9 kc ws_140 ad_64 ga_65 gc_66 M_67 n f T G_90 K_91 F_139 := ⟨_, _, rfl, hP, hD, (hQ.same (hQ.b2 hrc2)).arr hrc2 5 2 (by decide) (af_137 2) rfl⟩
              refine W.widen (k := ce) (n := se) (Nat.le_refl _) (Nat.le_refl _) ?_
              generalize H1 = H at hP hS ⊢
              obtain ⟨y_141, ey_141⟩ : ∃ q : Int32, q = x_105 + (1) := ⟨_, rfl⟩
              refine lv_iinc (v := y_141) (lv' := [(4, .int y_141), (3, .ref (ad_64 (50 + 16 * ((n 0).toInt.toNat)))), (0, .ref (ad_64 0)), (1, .int v1), (2, .null)]) hx hb dX9_openRun_101 hl (k := 0) rfl (by rw [ey_141]; rfl) (by decide) rfl (fun ls hl => ?_)
              have ty_141 : y_141.toInt = x_105.toInt + (1) := ar_add rfl ti_1 ey_141 (by omega)
              refine lv_goto (tgt := 64) hx hb dX9_openRun_104 (by decide) ?_
              exact ih_111 y_141   ws_140 F_139 ce se H locs ls (by show (9 - y_141.toInt).toNat < _; omega) (by show 0 ≤ y_141.toInt ∧ y_141.toInt ≤ 8; omega) hQ ⟨i1_113, i2_114, i3_115, i4_116, i5_117, i6_118, i7_119, i8_120, i9_121⟩ hr1 hr2 hP hD hS (lv_sub hl [0, 1, 2, 3, 4] rfl)
        exact L64 _ (0 : Int32)   ws_93 F_92 ce se _ _ _ (Nat.lt_succ_self _) (by have t_0 := ti_0; show 0 ≤ (0 : Int32).toInt ∧ (0 : Int32).toInt ≤ 8; omega) hQ ⟨i1_95, i2_96, i3_97, i4_98, i5_99, i6_100, i7_101, i8_102, i9_103⟩ hr1 hr2 hP hD hS (lv_sub hl [0, 1, 2, 3, 4] rfl)
    · simp only [i_lt, i_le, i_eq, ti_200] at c_2
      refine lv_null hx hb dX9_openRun_17 ?_
      refine W_msr2 (fun hm1 hm2 hm3 => ?_)
      have hSl := S9_le h_i8 h_i9
      have hb0_ := h_i8.2.1 0 (by omega)
      have hb1_ := h_i8.2.1 1 (by omega)
      have hb2_ := h_i8.2.1 2 (by omega)
      refine W.widen (k := 20) (n := 300) (by omega) (by omega) ?_
      exact W.aret (v := .null) hx hb hr (Or.inl ⟨_, rfl⟩) (Or.inl rfl) (fun t ht hW => ⟨⟨none, (ad, ga, gc, M, n, f, T, G, K, F), rfl, (Or.inr ⟨rfl, ⟨by show (n 0).toInt = (n 0).toInt; omega, by show S9 M gc + 16 * M ≤ S9 M gc + 16 * M; omega, by omega⟩⟩), ws, by rw [ht]; exact hP, hD, hQ, ⟨h_i1, h_i2, h_i3, h_i4, h_i5, h_i6, h_i7, h_i8, h_i9⟩, by rw [ht]; show hpS s.heap + (260 * M + 2 * S9 M gc) ≤ hpS s.heap + (260 * M + 2 * S9 M gc); omega, by rw [ht]; show 16 * s.heap.size + (256 * M + S9 M gc) ≤ 16 * s.heap.size + (256 * M + S9 M gc); omega, by show (n 0).toInt ≤ (n 0).toInt; omega, (fun _ _ => rfl), by show M ≤ M; omega⟩, hS.F ht⟩) hS.2.2 dX9_openRun_18

set_option maxHeartbeats 8000000 in
set_option maxRecDepth 100000 in
theorem c_X9_openRun_r (l : Launch) (dC : Nat → ClassId) (dI : Nat → Nat → Nat) (kc : Nat → ClassId) (ws : va_W) (ad : Nat → Nat) (ga : Nat → Nat) (gc : Nat → Nat) (M : Nat) (n : Nat → Int32) (f : Nat → Nat → Int32) (T : Nat → Option Nat) (G : Nat → Nat → Int32) (K : Nat → Nat → Option Nat) (F : Nat → Nat → Nat → Int32) (R : Nat) (v1 : Int32) (q : Nat) (sz hz : Nat) (hQ : Pic9 kc ws ad ga gc M n f T G K F) (hI : I9 M n T gc G K R) (hR : R ≤ 310000) (hq : q < M) : Met l yX9_openRun (.code yX9_openRun cX9_openRun 5 (some (.object "ErrandGuild$Run")) :: gw) ({ frames := 3, cells := 20, slots := 300, locals := 67 }) (va_Pc [.ref (ad 0), .int v1, .ref (ad (50 + 16 * q))] (fun U => U.heap.size = sz ∧ hpS U.heap = hz ∧ va_P (dC, dI) vwCl ws U.heap ∧ va_K (dC, dI) vwCl (t9 kc) U ∧ va_D (fun _ => True) ws ∧ nx U)) (va_Qq (fun (r : Option Nat) (u : (Nat → Nat) × (Nat → Nat) × (Nat → Nat) × Nat × (Nat → Int32) × (Nat → Nat → Int32) × (Nat → Option Nat) × (Nat → Nat → Int32) × (Nat → Nat → Option Nat) × (Nat → Nat → Nat → Int32)) => (r = some (u.1 (50 + 16 * (n 0).toInt.toNat)) ∧ (u.2.2.2.2.1 0).toInt = (n 0).toInt + 1 ∧ S9 u.2.2.2.1 u.2.2.1 + 16 * M ≤ S9 M gc + 16 * u.2.2.2.1 ∧ (∀ a j : Nat, (a : Int) < (n 0).toInt → u.2.2.2.2.2.2.2.2.1 a 3 = some j → (j : Int) < (n 0).toInt)) ∨ (r = none ∧ (u.2.2.2.2.1 0).toInt = (n 0).toInt ∧ S9 u.2.2.2.1 u.2.2.1 + 16 * M ≤ S9 M gc + 16 * u.2.2.2.1 ∧ 200 ≤ (n 0).toInt)) (fun u t => ∃ w : va_W, va_P (dC, dI) vwCl w t.heap ∧ va_D (va_A ws sz) w ∧ Pic9 kc w u.1 u.2.1 u.2.2.1 u.2.2.2.1 u.2.2.2.2.1 f T u.2.2.2.2.2.2.2.1 u.2.2.2.2.2.2.2.2.1 u.2.2.2.2.2.2.2.2.2 ∧ I9 u.2.2.2.1 u.2.2.2.2.1 T u.2.2.1 u.2.2.2.2.2.2.2.1 u.2.2.2.2.2.2.2.2.1 R ∧ hpS t.heap + (260 * M + 2 * S9 M gc) ≤ hz + (260 * u.2.2.2.1 + 2 * S9 u.2.2.2.1 u.2.2.1) ∧ 16 * t.heap.size + (256 * M + S9 M gc) ≤ 16 * sz + (256 * u.2.2.2.1 + S9 u.2.2.2.1 u.2.2.1) ∧ (n 0).toInt ≤ (u.2.2.2.2.1 0).toInt ∧ (∀ q : Nat, q < 50 + 16 * M → u.1 q = ad q) ∧ M ≤ u.2.2.2.1) (va_A ws sz)) 20 300 (va_A ws sz) := by
  refine Met.ofW (cc := cX9_openRun) (maxL := 5) (ret := (some (.object "ErrandGuild$Run"))) (by decide) rfl ?_
  intro p e s m args below meth c s₁ B hml hv
  obtain ⟨rfl, hsz, rfl, hP, hK, hD0, hN⟩ := hv
  have hx := B.exec
  have hb := B.bytes
  have hr := B.returns
  have hts := atoms_spec (ws := .code yX9_openRun cX9_openRun 5 (some (.object "ErrandGuild$Run")) :: gw) B.pre
  have hg : ∀ w ∈ gw, w.before _ s = true := fun w h => hts w (List.mem_cons_of_mem _ h)
  have hown : s.vm.findClass RX9 = some m.cls := findClass_of_methodNamed B.named
  have hlocks := B.notSynchronized
  subst hsz
  have hD := hD0.self (sz := s.heap.size)
  generalize hAe : va_A ws s.heap.size = A at hD ⊢
  have hA : ∀ q : Nat, s.heap.size ≤ q → A q := fun q h => by rw [← hAe]; exact Or.inr h
  clear hAe
  have hS : va_S A s.heap s.heap [] := va_S.rf
  have hl := lv_entry ([.ref (ad 0), .int v1, .ref (ad (50 + 16 * q))]) (n := 5) (Nat.le_of_ble_eq_true rfl)
  rw [lg_entry_eq]
  generalize (lg_sl ([.ref (ad 0), .int v1, .ref (ad (50 + 16 * q))]) ++ List.replicate (5 - (lg_sl ([.ref (ad 0), .int v1, .ref (ad (50 + 16 * q))])).length) Slot.unset).toArray = ls at hl ⊢
  have hl : lv_has ls 5 [(0, .ref (ad 0)), (1, .int v1), (2, .ref (ad (50 + 16 * q)))] := hl
  obtain ⟨h_i1, h_i2, h_i3, h_i4, h_i5, h_i6, h_i7, h_i8, h_i9⟩ := id hI
  have q1_ := h_i1
  unfold i1 at q1_
  have hSl0 := S9_le h_i8 h_i9
  have hb0_ := h_i8.2.1 0 (by omega)
  have hb1_ := h_i8.2.1 1 (by omega)
  have hb2_ := h_i8.2.1 2 (by omega)
  have hr1 : 0 + (260 * M + 2 * S9 M gc) ≤ (260 * M + 2 * S9 M gc) := by omega
  have hr2 : 16 * 0 + (256 * M + S9 M gc) ≤ (256 * M + S9 M gc) := by omega
  obtain ⟨ce, hce⟩ : ∃ q : Nat, q = 0 := ⟨_, rfl⟩
  obtain ⟨se, hse⟩ : ∃ q : Nat, q = 0 := ⟨_, rfl⟩
  rw [← hse] at hr1
  have hr2 : 16 * ce + (256 * M + S9 M gc) ≤ (256 * M + S9 M gc) := by omega
  refine W.widen (k := ce) (n := se) (Nat.zero_le _) (Nat.zero_le _) ?_
  refine lv_aload_n hx hb dX9_openRun_0 rfl (lv_at hl 0 rfl) ?_
  refine va_get (D := (dC, dI)) (ci := 9) (v := .int (n 0)) (C := RX9) (T := TX9) (N := 15) hx hb hg gb_9 hown hK hP 0 hQ.x0 rfl 5 (by decide) (hg _ gm_fieldLink_RX9_66_ErrandGuild_runCount_I_) (fun _ h9 => h9) rfl dX9_openRun_1 ?_
  refine lv_if_lt (tgt := 17) hx hb dX9_openRun_4 (by decide) (fun c_1 => ?_) (fun c_1 => ?_)
  · simp only [i_lt, i_le, i_eq, ti_0] at c_1
    refine lv_null hx hb dX9_openRun_17 ?_
    refine W_msr2 (fun hm1 hm2 hm3 => ?_)
    have hSl := S9_le h_i8 h_i9
    have hb0_ := h_i8.2.1 0 (by omega)
    have hb1_ := h_i8.2.1 1 (by omega)
    have hb2_ := h_i8.2.1 2 (by omega)
    refine W.widen (k := 20) (n := 300) (by omega) (by omega) ?_
    exact W.aret (v := .null) hx hb hr (Or.inl ⟨_, rfl⟩) (Or.inl rfl) (fun t ht hW => ⟨⟨none, (ad, ga, gc, M, n, f, T, G, K, F), rfl, (Or.inr ⟨rfl, ⟨by show (n 0).toInt = (n 0).toInt; omega, by show S9 M gc + 16 * M ≤ S9 M gc + 16 * M; omega, by omega⟩⟩), ws, by rw [ht]; exact hP, hD, hQ, ⟨h_i1, h_i2, h_i3, h_i4, h_i5, h_i6, h_i7, h_i8, h_i9⟩, by rw [ht]; show hpS s.heap + (260 * M + 2 * S9 M gc) ≤ hpS s.heap + (260 * M + 2 * S9 M gc); omega, by rw [ht]; show 16 * s.heap.size + (256 * M + S9 M gc) ≤ 16 * s.heap.size + (256 * M + S9 M gc); omega, by show (n 0).toInt ≤ (n 0).toInt; omega, (fun _ _ => rfl), by show M ≤ M; omega⟩, hS.F ht⟩) hS.2.2 dX9_openRun_18
  · simp only [i_lt, i_le, i_eq, ti_0] at c_1
    refine lv_aload_n hx hb dX9_openRun_7 rfl (lv_at hl 0 rfl) ?_
    refine va_get (D := (dC, dI)) (ci := 9) (v := .int (n 0)) (C := RX9) (T := TX9) (N := 15) hx hb hg gb_9 hown hK hP 0 hQ.x0 rfl 5 (by decide) (hg _ gm_fieldLink_RX9_66_ErrandGuild_runCount_I_) (fun _ h9 => h9) rfl dX9_openRun_8 ?_
    refine lv_sipush (v := 200) hx hb dX9_openRun_11 (by decide) ?_
    refine lv_icmp_lt (tgt := 19) hx hb dX9_openRun_14 (by decide) (fun c_2 => ?_) (fun c_2 => ?_)
    · simp only [i_lt, i_le, i_eq, ti_200] at c_2
      refine lv_aload_n hx hb dX9_openRun_19 rfl (lv_at hl 0 rfl) ?_
      refine va_get (D := (dC, dI)) (ci := 9) (v := .ref (ad 40)) (C := RX9) (T := TX9) (N := 15) hx hb hg gb_9 hown hK hP 0 hQ.x0 rfl 4 (by decide) (hg _ gm_fieldLink_RX9_31_ErrandGuild_runs_ALErrandGuild_Run_) (fun _ h9 => h9) rfl dX9_openRun_20 ?_
      refine lv_aload_n hx hb dX9_openRun_23 rfl (lv_at hl 0 rfl) ?_
      refine va_get (D := (dC, dI)) (ci := 9) (v := .int (n 0)) (C := RX9) (T := TX9) (N := 15) hx hb hg gb_9 hown hK hP 0 hQ.x0 rfl 5 (by decide) (hg _ gm_fieldLink_RX9_66_ErrandGuild_runCount_I_) (fun _ h9 => h9) rfl dX9_openRun_24 ?_
      refine va_aldq hx hb hK hP 40 3 hQ.x40 rfl (vp_in_iff.mpr ⟨by omega, by omega⟩) dX9_openRun_27 ?_
      by_cases hrc : (n 0).toInt.toNat < M
      · refine W.eq (g2 := F0 m 28 ls [.ref (ad (50 + 16 * ((n 0).toInt.toNat)))]) (by rw [cl_eq, rnA_in hrc]; rfl) ?_
        refine lv_astore_n (lv' := [(3, .ref (ad (50 + 16 * ((n 0).toInt.toNat)))), (0, .ref (ad 0)), (1, .int v1), (2, .ref (ad (50 + 16 * q)))]) hx hb dX9_openRun_28 rfl hl (by decide) rfl (fun ls hl => ?_)
        refine lv_aload_n hx hb dX9_openRun_29 rfl (lv_at hl 0 rfl) ?_
        refine lv_ifnonnull (tgt := 55) hx hb dX9_openRun_30 (by decide) ?_
        refine lv_aload_n hx hb dX9_openRun_55 rfl (lv_at hl 0 rfl) ?_
        refine lv_iload_n hx hb dX9_openRun_56 rfl (lv_at hl 2 rfl) ?_
        refine lv_aload_n hx hb dX9_openRun_57 rfl (lv_at hl 3 rfl) ?_
        have hFc := free_all hD hS hA
        refine W_msr2 (fun hm1 hm2 hm3 => ?_)
        refine va_callv (va_runV (As := [.int v1, .ref (ad (50 + 16 * q))]) (rest := []) ⟨hx, hb, hml, hown, hg⟩ (c_X7_begin_r l dC dI kc ws ad ga gc M n f T G K F R ((n 0).toInt.toNat) v1 q s.heap.size (hpS s.heap) hQ ⟨h_i1, h_i2, h_i3, h_i4, h_i5, h_i6, h_i7, h_i8, h_i9⟩ (by show ((n 0).toInt.toNat) < M; omega) (by show q < M; omega)) (cwV 2 hg (gw_V gm_methodLink_RX9_369_yX7_begin gm_instanceMethod_yX7_begin gm_selects_RX7_yX7_begin_yX7_begin gm_initialized_RX7 gm_code_yX7_begin_cX7_begin_3_none) rfl rfl rfl (by decide +kernel) ⟨Nat.le_of_ble_eq_true rfl, Nat.le_of_ble_eq_true rfl⟩) ⟨fun a U g mk q => by obtain ⟨q0, q1, q2, qP, qK, qD, qN⟩ := q; exact ⟨q0, q1, q2, qP, va_K.moved (u := U) (U := U.calling g mk a) (Vm.Alike.refl U.vm) qK, qD, nx_same (u := U) (U := U.calling g mk a) rfl qN⟩, va_recv hK hP (ci := 7) (q0 := (50 + 16 * ((n 0).toInt.toNat))) rfl (hQ.b0 hrc), fun U hU hW => ⟨rfl, by rw [hU], by rw [hU], by rw [hU]; exact hP, va_K.moved hW.alike hK, hD.weaken (fun _ _ _ _ => trivial), nx_warm hW hN⟩⟩ rfl rfl hl.1 rfl (lv_room (Nat.le_of_ble_eq_true rfl)) dX9_openRun_58 ⟨by show ce + 0 ≤ 20; omega, by show se + 0 ≤ 300; omega⟩) hS (fun q _ h => hFc q h) hFc (fun u_4 t H1 locs ht hvm hw hB hz1 hk1 hS => ?_)
        obtain ⟨ad_5, ga_6, gc_7, M_8, n_9, f_10, T_11, G_12, K_13, F_14⟩ := u_4
        have hB : ∃ w : va_W, va_P (dC, dI) vwCl w t.heap ∧ va_D (va_A ws s.heap.size) w ∧ Pic9 kc w ad ga gc M n f T G_12 K_13 F_14 ∧ I9 M n T gc G_12 K_13 R ∧ hpS t.heap + (260 * M + 2 * S9 M gc) ≤ hpS s.heap + (260 * M + 2 * S9 M gc) ∧ 16 * t.heap.size + (256 * M + S9 M gc) ≤ 16 * s.heap.size + (256 * M + S9 M gc) := hB
        rw [ht] at hB
        obtain ⟨ws_15, hP, hD, hQ, hI_16, hy1, hy2⟩ := hB
        have hD := hD.weaken (fun k q _ h => hFc _ h)
        obtain ⟨i1_17, i2_18, i3_19, i4_20, i5_21, i6_22, i7_23, i8_24, i9_25⟩ := id hI_16
        have q1_ := i1_17
        unfold i1 at q1_
        have hSl := S9_le i8_24 i9_25
        have hb0_ := i8_24.2.1 0 (by omega)
        have hb1_ := i8_24.2.1 1 (by omega)
        have hb2_ := i8_24.2.1 2 (by omega)
        refine W_msr2 (fun hn1 hn2 hn3 => ?_)
        obtain ⟨ce2, se2, hk3, hk4, hr1, hr2⟩ : ∃ c2 s2 : Nat, H1.size ≤ s.heap.size + c2 ∧ hpS H1 ≤ hpS s.heap + s2 ∧ s2 + (260 * M + 2 * S9 M gc) ≤ (260 * M + 2 * S9 M gc) ∧ 16 * c2 + (256 * M + S9 M gc) ≤ (256 * M + S9 M gc) := ⟨H1.size - s.heap.size, hpS H1 - hpS s.heap, by omega, by omega, by have := hS.1; omega, by have := hS.1; omega⟩
        refine W_tightP hk3 hk4 ?_
        clear hm1 hm2 hm3 hn1 hn2 hn3 hk3 hk4
        clear hk1 hz1
        generalize ce2 = ce, se2 = se at hr1 hr2 ⊢
        generalize H1 = H at hP hS ⊢
        have w_26 : (G_12 ((n 0).toInt.toNat) 2).toInt = 0 ∧ (G_12 ((n 0).toInt.toNat) 3).toInt = -1 ∧ K_13 ((n 0).toInt.toNat) 3 = none ∧ (∀ a : Nat, a ≠ ((n 0).toInt.toNat) → K_13 a = K a) := hw
        refine lv_iconst (v := 0) hx hb dX9_openRun_61 (by decide) ?_
        refine lv_istore (lv' := [(4, .int 0), (3, .ref (ad (50 + 16 * ((n 0).toInt.toNat)))), (0, .ref (ad 0)), (1, .int v1), (2, .ref (ad (50 + 16 * q)))]) hx hb dX9_openRun_62 hl (by decide) rfl (fun ls hl => ?_)
        have L64 : ∀ (fuel : Nat) (x_27 : Int32)   (ws_29 : va_W) (F_28 : Nat → Nat → Nat → Int32) (ce se : Nat) (H : Heap) (locs : List Loc) (ls : Array Slot), (9 - x_27.toInt).toNat < fuel → (0 ≤ x_27.toInt ∧ x_27.toInt ≤ 8) → Pic9 kc ws_29 ad ga gc M n f T G_12 K_13 F_28 → I9 M n T gc G_12 K_13 R → (se + (260 * M + 2 * S9 M gc) ≤ (260 * M + 2 * S9 M gc)) → (16 * ce + (256 * M + S9 M gc) ≤ (256 * M + S9 M gc)) → va_P (dC, dI) vwCl ws_29 H → va_D A ws_29 → va_S A s.heap H locs → lv_has ls 5 [(4, .int x_27), (3, .ref (ad (50 + 16 * ((n 0).toInt.toNat)))), (0, .ref (ad 0)), (1, .int v1), (2, .ref (ad (50 + 16 * q)))] → W p l e (headSpec (.code yX9_openRun cX9_openRun 5 (some (.object "ErrandGuild$Run")) :: gw) ({ frames := 3, cells := 20, slots := 300, locals := 67 })).room s m ([.ref (ad 0), .int v1, .ref (ad (50 + 16 * q))] : List Value).toArray below meth c H locs ce se (MQ below (va_Qq (fun (r : Option Nat) (u : (Nat → Nat) × (Nat → Nat) × (Nat → Nat) × Nat × (Nat → Int32) × (Nat → Nat → Int32) × (Nat → Option Nat) × (Nat → Nat → Int32) × (Nat → Nat → Option Nat) × (Nat → Nat → Nat → Int32)) => (r = some (u.1 (50 + 16 * (n 0).toInt.toNat)) ∧ (u.2.2.2.2.1 0).toInt = (n 0).toInt + 1 ∧ S9 u.2.2.2.1 u.2.2.1 + 16 * M ≤ S9 M gc + 16 * u.2.2.2.1 ∧ (∀ a j : Nat, (a : Int) < (n 0).toInt → u.2.2.2.2.2.2.2.2.1 a 3 = some j → (j : Int) < (n 0).toInt)) ∨ (r = none ∧ (u.2.2.2.2.1 0).toInt = (n 0).toInt ∧ S9 u.2.2.2.1 u.2.2.1 + 16 * M ≤ S9 M gc + 16 * u.2.2.2.1 ∧ 200 ≤ (n 0).toInt)) (fun u t => ∃ w : va_W, va_P (dC, dI) vwCl w t.heap ∧ va_D A w ∧ Pic9 kc w u.1 u.2.1 u.2.2.1 u.2.2.2.1 u.2.2.2.2.1 f T u.2.2.2.2.2.2.2.1 u.2.2.2.2.2.2.2.2.1 u.2.2.2.2.2.2.2.2.2 ∧ I9 u.2.2.2.1 u.2.2.2.2.1 T u.2.2.1 u.2.2.2.2.2.2.2.1 u.2.2.2.2.2.2.2.2.1 R ∧ hpS t.heap + (260 * M + 2 * S9 M gc) ≤ (hpS s.heap) + (260 * u.2.2.2.1 + 2 * S9 u.2.2.2.1 u.2.2.1) ∧ 16 * t.heap.size + (256 * M + S9 M gc) ≤ 16 * s.heap.size + (256 * u.2.2.2.1 + S9 u.2.2.2.1 u.2.2.1) ∧ (n 0).toInt ≤ (u.2.2.2.2.1 0).toInt ∧ (∀ q : Nat, q < 50 + 16 * M → u.1 q = ad q) ∧ M ≤ u.2.2.2.1) A) ([.ref (ad 0), .int v1, .ref (ad (50 + 16 * q))] : List Value).toArray s 20 300 A) (F0 m 64 ls []) := by
          intro fuel
          induction fuel with
          | zero => intro x_27 ws_29 F_28 ce se H locs ls hm; exact absurd hm (Nat.not_lt_zero _)
          | succ fuel_34 ih_33 =>
            intro x_27 ws_29 F_28 ce se H locs ls hm_30 v_31 hQ hI_32 hr1 hr2 hP hD hS hl
            obtain ⟨i1_35, i2_36, i3_37, i4_38, i5_39, i6_40, i7_41, i8_42, i9_43⟩ := id hI_32
            have q1_ := i1_35
            unfold i1 at q1_
            have hSl := S9_le i8_42 i9_43
            have hb0_ := i8_42.2.1 0 (by omega)
            have hb1_ := i8_42.2.1 1 (by omega)
            have hb2_ := i8_42.2.1 2 (by omega)
            refine lv_iload hx hb dX9_openRun_64 (lv_at hl 0 rfl) ?_
            refine lv_bipush (v := 8) hx hb dX9_openRun_66 (by decide) ?_
            refine lv_icmp_ge (tgt := 107) hx hb dX9_openRun_68 (by decide) (fun c_44 => ?_) (fun c_44 => ?_)
            · simp only [i_lt, i_le, i_eq, ti_8] at c_44
              refine lv_aload_n hx hb dX9_openRun_107 rfl (lv_at hl 2 rfl) ?_
              refine lv_dup hx hb dX9_openRun_108 rfl ?_
              refine va_get (D := (dC, dI)) (ci := 9) (v := .int (n 0)) (C := RX9) (T := TX9) (N := 15) hx hb hg gb_9 hown hK hP 0 hQ.x0 rfl 5 (by decide) (hg _ gm_fieldLink_RX9_66_ErrandGuild_runCount_I_) (fun _ h9 => h9) rfl dX9_openRun_109 ?_
              refine lv_iconst (v := 1) hx hb dX9_openRun_112 (by decide) ?_
              refine lv_iadd hx hb dX9_openRun_113 ?_
              refine lv_topi (fun z_45 ez_45 => ?_)
              have tz_45 : z_45.toInt = (n 0).toInt + 1 := ar_add rfl ti_1 ez_45 (by omega)
              refine va_put (D := (dC, dI)) (ci := 9) (v := .int (z_45)) (ty := .int) (C := RX9) (T := TX9) (N := 15) hx hb hg gb_9 tyX9 tyX9_ok nmX9 hown hK hP hD hS 0 hQ.x0 rfl 5 (by decide) (hg _ gm_fieldLink_RX9_66_ErrandGuild_runCount_I_) (fun _ h9 => h9) rfl (by decide +kernel) rfl rfl (Nat.le_of_ble_eq_true rfl) dX9_openRun_114 (fun H locs hP hD hS => ?_)
              obtain ⟨ws_47, n_46, en_46, hP, hD, hQ⟩ : ∃ (ws_47 : va_W) (n_46 : Nat → Int32), n_46 = u1 n 0 z_45 ∧ va_P (dC, dI) vwCl ws_47 H ∧ va_D A ws_47 ∧ Pic9 kc ws_47 ad ga gc M n_46 f T G_12 K_13 F_28 := ⟨_, _, rfl, hP, hD, hQ.x9 0 5 (by decide) z_45⟩
              have i1_48 : i1 M n_46 := by rw [en_46]; exact i1.inc i1_35 (by omega) (by omega)
              have i5_49 : i5 n_46 K_13 := by rw [en_46]; exact i5.inc (a := (n 0).toInt.toNat) i5_39 (by omega) (by omega) w_26.2.2.1
              have i6_50 : i6 n_46 T G_12 := by rw [en_46]; exact i6.inc (a := (n 0).toInt.toNat) i6_40 (by omega) (by omega) w_26.2.1
              have i7_51 : i7 n_46 G_12 := by rw [en_46]; exact i7.inc (a := (n 0).toInt.toNat) i7_41 (by omega) (by omega) w_26.1
              have i8_52 : i8 M n_46 gc G_12 := by rw [en_46]; exact (i8.pn i8_42 _ (by decide))
              have hn_53 : n_46 0 = z_45 := by rw [en_46]; exact u1_eq _ _ _
              have thn_53 : (n_46 0).toInt = z_45.toInt := by rw [hn_53]
              refine lv_aload_n hx hb dX9_openRun_117 rfl (lv_at hl 1 rfl) ?_
              refine W_msr2 (fun hm1 hm2 hm3 => ?_)
              have hSl := S9_le i8_52 i9_43
              have hb0_ := i8_52.2.1 0 (by omega)
              have hb1_ := i8_52.2.1 1 (by omega)
              have hb2_ := i8_52.2.1 2 (by omega)
              refine W.widen (k := 20) (n := 300) (by omega) (by omega) ?_
              exact W.aret (v := .ref (ad (50 + 16 * ((n 0).toInt.toNat)))) hx hb hr (Or.inl ⟨_, rfl⟩) (Or.inr ⟨_, rfl⟩) (fun t ht hW => ⟨⟨some (ad (50 + 16 * ((n 0).toInt.toNat))), (ad, ga, gc, M, n_46, f, T, G_12, K_13, F_28), rfl, (Or.inl ⟨rfl, ⟨by show (n_46 0).toInt = (n 0).toInt + 1; omega, by show S9 M gc + 16 * M ≤ S9 M gc + 16 * M; omega, fun a j ha hj => h_i5 a j ha (by have hj : K_13 a 3 = some j := hj; rw [w_26.2.2.2 a (by omega)] at hj; exact hj)⟩⟩), ws_47, by rw [ht]; exact hP, hD, hQ, ⟨i1_48, i2_36, i3_37, i4_38, i5_49, i6_50, i7_51, i8_52, i9_43⟩, by rw [ht]; show hpS H + (260 * M + 2 * S9 M gc) ≤ hpS s.heap + (260 * M + 2 * S9 M gc); omega, by rw [ht]; show 16 * H.size + (256 * M + S9 M gc) ≤ 16 * s.heap.size + (256 * M + S9 M gc); omega, by show (n 0).toInt ≤ (n_46 0).toInt; omega, (fun _ _ => rfl), by show M ≤ M; omega⟩, hS.F ht⟩) hS.2.2 dX9_openRun_118
            · simp only [i_lt, i_le, i_eq, ti_8] at c_44
              refine lv_aload_n hx hb dX9_openRun_71 rfl (lv_at hl 1 rfl) ?_
              refine va_get (D := (dC, dI)) (ci := 7) (v := .ref (ad (50 + 16 * ((n 0).toInt.toNat) + 2))) (C := RX7) (T := TX7) (N := 15) hx hb hg gb_7 hown hK hP (50 + 16 * ((n 0).toInt.toNat)) (hQ.b0 hrc) rfl 11 (by decide) (hg _ gm_fieldLink_RX9_253_ErrandGuild_Run_memory_LErrandGuild_Memory_) (fun _ h9 => h9) rfl dX9_openRun_72 ?_
              refine lv_iload hx hb dX9_openRun_75 (lv_at hl 0 rfl) ?_
              refine lv_aload_n hx hb dX9_openRun_77 rfl (lv_at hl 4 rfl) ?_
              refine lv_ifnonnull (tgt := 91) hx hb dX9_openRun_78 (by decide) ?_
              refine lv_aload_n hx hb dX9_openRun_91 rfl (lv_at hl 2 rfl) ?_
              refine lv_aload_n hx hb dX9_openRun_92 rfl (lv_at hl 4 rfl) ?_
              refine lv_iload hx hb dX9_openRun_93 (lv_at hl 0 rfl) ?_
              have hFc := free_all hD hS hA
              refine W_msr2 (fun hm1 hm2 hm3 => ?_)
              refine va_calli (va_runV (As := [.ref (ad (50 + 16 * q)), .int x_27]) (rest := [.int x_27, .ref (ad (50 + 16 * ((n 0).toInt.toNat) + 2))]) ⟨hx, hb, hml, hown, hg⟩ (c_X9_readIn l dC dI kc ws_29 ad ga gc M n f T G_12 K_13 F_28 R q x_27 H.size (hpS H) hQ ⟨i1_35, i2_36, i3_37, i4_38, i5_39, i6_40, i7_41, i8_42, i9_43⟩ (by show q < M; omega)) (cwV 2 hg (gw_V gm_methodLink_RX9_231_yX9_readIn gm_instanceMethod_yX9_readIn gm_selects_RX9_yX9_readIn_yX9_readIn gm_initialized_RX9 gm_code_yX9_readIn_cX9_readIn_3_some_int_) rfl rfl rfl (by decide +kernel) ⟨Nat.le_of_ble_eq_true rfl, Nat.le_of_ble_eq_true rfl⟩) ⟨fun a U g mk q => by obtain ⟨q0, q1, q2, qP, qK, qD, qN⟩ := q; exact ⟨q0, q1, q2, qP, va_K.moved (u := U) (U := U.calling g mk a) (Vm.Alike.refl U.vm) qK, qD, nx_same (u := U) (U := U.calling g mk a) rfl qN⟩, va_recv hK hP (ci := 9) (q0 := 0) rfl hQ.x0, fun U hU hW => ⟨rfl, by rw [hU], by rw [hU], by rw [hU]; exact hP, va_K.moved hW.alike hK, hD.weaken (fun _ _ _ _ => trivial), nx_warm hW hN⟩⟩ rfl rfl hl.1 rfl (lv_room (Nat.le_of_ble_eq_true rfl)) dX9_openRun_95 ⟨by show ce + 0 ≤ 20; omega, by show se + 0 ≤ 300; omega⟩) hS (fun q _ h => hFc q h) hFc (fun r_54 u_55 t H1 locs ht hvm hw hB hz1 hk1 hS => ?_)
              obtain ⟨hP, hD, hy1, hy2⟩ := hB
              rw [ht] at hP hy1 hy2
              have hD := hD.weaken (fun k q _ h => hFc _ h)
              refine W.widen (k := ce) (n := se) (Nat.le_refl _) (Nat.le_refl _) ?_
              have q1_ := i1_35
              unfold i1 at q1_
              generalize H1 = H at hP hS ⊢
              have hCc : ([(50 + 16 * ((n 0).toInt.toNat) + 2), (50 + 16 * ((n 0).toInt.toNat) + 5)] : List Nat).map (fun i => ws_29[i]?) = ([(ad (50 + 16 * ((n 0).toInt.toNat) + 2), .inr (6, [.ref (ad (50 + 16 * ((n 0).toInt.toNat) + 3)), .ref (ad (50 + 16 * ((n 0).toInt.toNat) + 4)), .ref (ad (50 + 16 * ((n 0).toInt.toNat) + 5))])), (ad (50 + 16 * ((n 0).toInt.toNat) + 5), .inl (kc 0, 8, .inl (F_28 ((n 0).toInt.toNat) 2)))] : va_W).map some := mp2 (hQ.b2 hrc) (hQ.b5 hrc)
              have hNd : ([(50 + 16 * ((n 0).toInt.toNat) + 2), (50 + 16 * ((n 0).toInt.toNat) + 5)] : List Nat).Nodup := (nd_off (50 + 16 * ((n 0).toInt.toNat)) (l := [2, 5]) (by decide))
              have hPc := hP.pick [(50 + 16 * ((n 0).toInt.toNat) + 2), (50 + 16 * ((n 0).toInt.toNat) + 5)] hCc
              have hDc := hD.pick [(50 + 16 * ((n 0).toInt.toNat) + 2), (50 + 16 * ((n 0).toInt.toNat) + 5)] hNd hCc
              have hKc := hK.sub (tys' := [((kc 0), .int)]) [0] rfl
              have hFc := va_free (wc := [(ad (50 + 16 * ((n 0).toInt.toNat) + 2), .inr (6, [.ref (ad (50 + 16 * ((n 0).toInt.toNat) + 3)), .ref (ad (50 + 16 * ((n 0).toInt.toNat) + 4)), .ref (ad (50 + 16 * ((n 0).toInt.toNat) + 5))])), (ad (50 + 16 * ((n 0).toInt.toNat) + 5), .inl (kc 0, 8, .inl (F_28 ((n 0).toInt.toNat) 2)))]) hD hS hA [(50 + 16 * ((n 0).toInt.toNat) + 2), (50 + 16 * ((n 0).toInt.toNat) + 5)] hCc
              refine W_msr2 (fun hm1 hm2 hm3 => ?_)
              refine va_callv (va_runV (As := [.int x_27, .int r_54]) (rest := []) ⟨hx, hb, hml, hown, hg⟩ (c_X6_give l dC dI (ad (50 + 16 * ((n 0).toInt.toNat) + 2)) (ad (50 + 16 * ((n 0).toInt.toNat) + 3)) (ad (50 + 16 * ((n 0).toInt.toNat) + 4)) (ad (50 + 16 * ((n 0).toInt.toNat) + 5)) (kc 0) (F_28 ((n 0).toInt.toNat) 2) x_27 r_54 H.size ) (cwV 2 hg (gw_V gm_methodLink_RX9_373_yX6_give gm_instanceMethod_yX6_give gm_selects_RX6_yX6_give_yX6_give gm_initialized_RX6 gm_code_yX6_give_cX6_give_3_none) rfl rfl rfl (by decide +kernel) ⟨Nat.le_of_ble_eq_true rfl, Nat.le_of_ble_eq_true rfl⟩) ⟨fun a U g mk q => by obtain ⟨q0, q1, qP, qK, qD, qN⟩ := q; exact ⟨q0, q1, qP, va_K.moved (u := U) (U := U.calling g mk a) (Vm.Alike.refl U.vm) qK, qD, nx_same (u := U) (U := U.calling g mk a) rfl qN⟩, va_recv hK hP (ci := 6) (q0 := (50 + 16 * ((n 0).toInt.toNat) + 2)) rfl (hQ.b2 hrc), fun U hU hW => ⟨rfl, by rw [hU], by rw [hU]; exact hPc, va_K.moved hW.alike hKc, hDc.weaken (fun _ _ _ _ => trivial), nx_warm hW hN⟩⟩ rfl rfl hl.1 rfl (lv_room (Nat.le_of_ble_eq_true rfl)) dX9_openRun_98 ⟨by show ce + 0 ≤ 20; omega, by show se + 0 ≤ 300; omega⟩) hS (fun q _ h => hFc q h) hFc (fun u_58 t H1 locs ht hvm hw hB hz1 hk1 hS => ?_)
              obtain ⟨ad_59, ac_60, af_61, ag_62⟩ := u_58
              obtain ⟨hP1, hD1, hK1⟩ := hB
              rw [ht] at hP1
              obtain ⟨hP, hD⟩ := va_repl (w1 := [((ad (50 + 16 * ((n 0).toInt.toNat) + 2)), .inr (6, [.ref (ad (50 + 16 * ((n 0).toInt.toNat) + 3)), .ref (ad (50 + 16 * ((n 0).toInt.toNat) + 4)), .ref (ad (50 + 16 * ((n 0).toInt.toNat) + 5))])), ((ad (50 + 16 * ((n 0).toInt.toNat) + 5)), .inl ((kc 0), 8, .inl (af_61 2)))]) hP hD [(50 + 16 * ((n 0).toInt.toNat) + 2), (50 + 16 * ((n 0).toInt.toNat) + 5)] hCc hNd rfl hk1 hFc hP1 hD1
              obtain ⟨ws_64, F_63, eF_63, hP, hD, hQ⟩ : ∃ (ws_64 : va_W) (F_63 : Nat → Nat → Nat → Int32), F_63 = u2 F_28 ((n 0).toInt.toNat) 2 (af_61 2) ∧ va_P (dC, dI) vwCl ws_64 H1 ∧ va_D A ws_64 ∧ Pic9 kc ws_64 ad ga gc M n f T G_12 K_13 F_63 := ⟨_, _, rfl, hP, hD, (hQ.same (hQ.b2 hrc)).arr hrc 5 2 (by decide) (af_61 2) rfl⟩
              refine W.widen (k := ce) (n := se) (Nat.le_refl _) (Nat.le_refl _) ?_
              generalize H1 = H at hP hS ⊢
              obtain ⟨y_65, ey_65⟩ : ∃ q : Int32, q = x_27 + (1) := ⟨_, rfl⟩
              refine lv_iinc (v := y_65) (lv' := [(4, .int y_65), (3, .ref (ad (50 + 16 * ((n 0).toInt.toNat)))), (0, .ref (ad 0)), (1, .int v1), (2, .ref (ad (50 + 16 * q)))]) hx hb dX9_openRun_101 hl (k := 0) rfl (by rw [ey_65]; rfl) (by decide) rfl (fun ls hl => ?_)
              have ty_65 : y_65.toInt = x_27.toInt + (1) := ar_add rfl ti_1 ey_65 (by omega)
              refine lv_goto (tgt := 64) hx hb dX9_openRun_104 (by decide) ?_
              exact ih_33 y_65   ws_64 F_63 ce se H locs ls (by show (9 - y_65.toInt).toNat < _; omega) (by show 0 ≤ y_65.toInt ∧ y_65.toInt ≤ 8; omega) hQ ⟨i1_35, i2_36, i3_37, i4_38, i5_39, i6_40, i7_41, i8_42, i9_43⟩ hr1 hr2 hP hD hS (lv_sub hl [0, 1, 2, 3, 4] rfl)
        exact L64 _ (0 : Int32)   ws_15 F_14 ce se _ _ _ (Nat.lt_succ_self _) (by have t_0 := ti_0; show 0 ≤ (0 : Int32).toInt ∧ (0 : Int32).toInt ≤ 8; omega) hQ ⟨i1_17, i2_18, i3_19, i4_20, i5_21, i6_22, i7_23, i8_24, i9_25⟩ hr1 hr2 hP hD hS (lv_sub hl [0, 1, 2, 3, 4] rfl)
      · refine W.eq (g2 := F0 m 28 ls [.null]) (by rw [cl_eq, rnA_out hrc]; rfl) ?_
        refine lv_astore_nN (lv' := [(3, .null), (0, .ref (ad 0)), (1, .int v1), (2, .ref (ad (50 + 16 * q)))]) hx hb dX9_openRun_28 rfl hl (by decide) rfl (fun ls hl => ?_)
        refine lv_aload_nN hx hb dX9_openRun_29 rfl (lv_at hl 0 rfl) ?_
        refine lv_ifnonnullN hx hb dX9_openRun_30 ?_
        have hMe : M = (n 0).toInt.toNat := by omega
        refine va_new (ci := 7) (fs := [.int 0, .int 0, .int 0, .int 0, .int 0, .int 0, .int 0, .int 0, .int 0, .int 0, .null, .null, .null, .null, .null]) (C := RX7) (T := TX7) (N := 15) hx hb hg gb_7 tyX7 tyX7_ok hown (hg _ gm_classLink_RX9_29_RX7) (hg _ gm_instantiable_RX7_15) (hg _ gm_initialized_RX7) hK hP hD hS hA rfl df_X7 (by show ce + 1 ≤ 20; omega) (by show se + 15 ≤ 300; omega) dX9_openRun_33 (fun q0 H hP hD hS => ?_)
        refine lv_dup hx hb dX9_openRun_36 rfl ?_
        refine lv_aload_n hx hb dX9_openRun_37 rfl (lv_at hl 1 rfl) ?_
        refine va_get (D := (dC, dI)) (ci := 9) (v := .int (n 0)) (C := RX9) (T := TX9) (N := 15) hx hb hg gb_9 hown hK hP 0 (ap_l hQ.x0) rfl 5 (by decide) (hg _ gm_fieldLink_RX9_66_ErrandGuild_runCount_I_) (fun _ h9 => h9) rfl dX9_openRun_38 ?_
        have hw0 : (ws ++ [(q0, .inr (7, [.int 0, .int 0, .int 0, .int 0, .int 0, .int 0, .int 0, .int 0, .int 0, .int 0, .null, .null, .null, .null, .null]))])[50 + 16 * M]? = some (q0, .inr (7, [.int 0, .int 0, .int 0, .int 0, .int 0, .int 0, .int 0, .int 0, .int 0, .int 0, .null, .null, .null, .null, .null])) := ap_0 hQ.1
        have hCc : ([50 + 16 * M] : List Nat).map (fun i => (ws ++ [(q0, .inr (7, [.int 0, .int 0, .int 0, .int 0, .int 0, .int 0, .int 0, .int 0, .int 0, .int 0, .null, .null, .null, .null, .null]))])[i]?) = ([(q0, .inr (7, [.int 0, .int 0, .int 0, .int 0, .int 0, .int 0, .int 0, .int 0, .int 0, .int 0, .null, .null, .null, .null, .null]))] : va_W).map some := mp1 hw0
        have hPc := hP.pick [50 + 16 * M] hCc
        have hDc := hD.pick [50 + 16 * M] (List.nodup_cons.mpr ⟨List.not_mem_nil, List.nodup_nil⟩) hCc
        have hKc := hK.sub (tys' := []) [] rfl
        have hFc := va_free (wc := [(q0, .inr (7, [.int 0, .int 0, .int 0, .int 0, .int 0, .int 0, .int 0, .int 0, .int 0, .int 0, .null, .null, .null, .null, .null]))]) hD hS hA [50 + 16 * M] hCc
        refine va_callv (va_runI (As := [.int (n 0)]) (rest := [.ref q0]) ⟨hx, hb, hml, hown, hg⟩ (c_X7_init l dC dI q0 (n 0) H.size) (cwI 1 hg (gw_c gm_code_yX7_init_cX7_init_2_none) rfl rfl rfl (hg _ gm_initialized_RX7) (hg _ gm_methodLink_RX9_368_yX7_init) (hg _ gm_instanceMethod_yX7_init) rfl (by decide +kernel) ⟨Nat.le_of_ble_eq_true rfl, Nat.le_of_ble_eq_true rfl⟩) ⟨fun a U g mk q => by obtain ⟨q0, q1, qP, qK, qD, qN⟩ := q; exact ⟨q0, q1, qP, va_K.moved (u := U) (U := U.calling g mk a) (Vm.Alike.refl U.vm) qK, qD, nx_same (u := U) (U := U.calling g mk a) rfl qN⟩, fun U hU hW => ⟨rfl, by rw [hU], by rw [hU]; exact hPc, va_K.moved hW.alike hKc, hDc.weaken (fun _ _ _ _ => trivial), nx_warm hW hN⟩⟩ rfl rfl hl.1 rfl (lv_room (Nat.le_of_ble_eq_true rfl)) dX9_openRun_41 ⟨by show ce + 1 + 15 ≤ 20; omega, by show se + 15 + 213 ≤ 300; omega⟩) hS (fun q _ h => hFc q h) hFc (fun u1_ t H1 locs ht hvm hw hB hz1 hk1 hS => ?_)
        obtain ⟨qa, qc, qf, qg⟩ := u1_
        obtain ⟨hP1, hD1, hK1⟩ := hB
        rw [ht] at hP1
        have hK1 := va_K.moved hvm.symm hK1
        have hK1 : va_K (dC, dI) vwCl [(qc 3, .boolean), (qc 4, .int), (qc 5, .int), (qc 7, .int), (qc 8, .int), (qc 9, .int), (qc 10, .int), (qc 11, .int), (qc 12, .int), (qc 15, .int)] s := hK1
        have kq3 : qc 3 = kc 1 := va_K.one (hK1.sub (tys' := [(qc 3, .boolean)]) [0] rfl) (hK.sub (tys' := [(kc 1, .boolean)]) [1] rfl)
        have kq4 : qc 4 = kc 0 := va_K.one (hK1.sub (tys' := [(qc 4, .int)]) [1] rfl) (hK.sub (tys' := [(kc 0, .int)]) [0] rfl)
        have kq5 : qc 5 = kc 0 := va_K.one (hK1.sub (tys' := [(qc 5, .int)]) [2] rfl) (hK.sub (tys' := [(kc 0, .int)]) [0] rfl)
        have kq7 : qc 7 = kc 0 := va_K.one (hK1.sub (tys' := [(qc 7, .int)]) [3] rfl) (hK.sub (tys' := [(kc 0, .int)]) [0] rfl)
        have kq8 : qc 8 = kc 0 := va_K.one (hK1.sub (tys' := [(qc 8, .int)]) [4] rfl) (hK.sub (tys' := [(kc 0, .int)]) [0] rfl)
        have kq9 : qc 9 = kc 0 := va_K.one (hK1.sub (tys' := [(qc 9, .int)]) [5] rfl) (hK.sub (tys' := [(kc 0, .int)]) [0] rfl)
        have kq10 : qc 10 = kc 0 := va_K.one (hK1.sub (tys' := [(qc 10, .int)]) [6] rfl) (hK.sub (tys' := [(kc 0, .int)]) [0] rfl)
        have kq11 : qc 11 = kc 0 := va_K.one (hK1.sub (tys' := [(qc 11, .int)]) [7] rfl) (hK.sub (tys' := [(kc 0, .int)]) [0] rfl)
        have kq12 : qc 12 = kc 0 := va_K.one (hK1.sub (tys' := [(qc 12, .int)]) [8] rfl) (hK.sub (tys' := [(kc 0, .int)]) [0] rfl)
        have kq15 : qc 15 = kc 0 := va_K.one (hK1.sub (tys' := [(qc 15, .int)]) [9] rfl) (hK.sub (tys' := [(kc 0, .int)]) [0] rfl)
        have hP1 : va_P (dC, dI) vwCl [(q0, .inr (7, [.int (n 0), .int 0, .int 0, .int 0, .int 0, .int 0, .int 0, .int 0, .int 0, .int 0, .ref (qa 1), .ref (qa 2), .ref (qa 6), .ref (qa 13), .ref (qa 14)])), (qa 1, .inr (4, [.null, .null, .int 0, .int 0, .int 0, .null, .null, .null, .int 0])), (qa 2, .inr (6, [.ref (qa 3), .ref (qa 4), .ref (qa 5)])), (qa 3, .inl (qc 3, 8, .inl (fun _ => 0))), (qa 4, .inl (qc 4, 8, .inl (fun _ => 0))), (qa 5, .inl (qc 5, 8, .inl (fun _ => 0))), (qa 6, .inr (8, [.ref (qa 7), .ref (qa 8), .ref (qa 9), .int 0, .ref (qa 10), .ref (qa 11), .ref (qa 12), .int 0, .int 0])), (qa 7, .inl (qc 7, 24, .inl (fun _ => 0))), (qa 8, .inl (qc 8, 24, .inl (fun _ => 0))), (qa 9, .inl (qc 9, 24, .inl (fun _ => 0))), (qa 10, .inl (qc 10, 24, .inl (fun _ => 0))), (qa 11, .inl (qc 11, 24, .inl (fun _ => 0))), (qa 12, .inl (qc 12, 24, .inl (fun _ => 0))), (qa 13, .inr (2, [.int 0, .int 0, .int 0, .int 0, .int 0])), (qa 14, .inr (0, [.int 1048576, .ref (qa 15), .int 0])), (qa 15, .inl (qc 15, 16, .inl (fun _ => 0)))] H1 := hP1
        have hD1 : va_D _ [(q0, .inr (7, [.int (n 0), .int 0, .int 0, .int 0, .int 0, .int 0, .int 0, .int 0, .int 0, .int 0, .ref (qa 1), .ref (qa 2), .ref (qa 6), .ref (qa 13), .ref (qa 14)])), (qa 1, .inr (4, [.null, .null, .int 0, .int 0, .int 0, .null, .null, .null, .int 0])), (qa 2, .inr (6, [.ref (qa 3), .ref (qa 4), .ref (qa 5)])), (qa 3, .inl (qc 3, 8, .inl (fun _ => 0))), (qa 4, .inl (qc 4, 8, .inl (fun _ => 0))), (qa 5, .inl (qc 5, 8, .inl (fun _ => 0))), (qa 6, .inr (8, [.ref (qa 7), .ref (qa 8), .ref (qa 9), .int 0, .ref (qa 10), .ref (qa 11), .ref (qa 12), .int 0, .int 0])), (qa 7, .inl (qc 7, 24, .inl (fun _ => 0))), (qa 8, .inl (qc 8, 24, .inl (fun _ => 0))), (qa 9, .inl (qc 9, 24, .inl (fun _ => 0))), (qa 10, .inl (qc 10, 24, .inl (fun _ => 0))), (qa 11, .inl (qc 11, 24, .inl (fun _ => 0))), (qa 12, .inl (qc 12, 24, .inl (fun _ => 0))), (qa 13, .inr (2, [.int 0, .int 0, .int 0, .int 0, .int 0])), (qa 14, .inr (0, [.int 1048576, .ref (qa 15), .int 0])), (qa 15, .inl (qc 15, 16, .inl (fun _ => 0)))] := hD1
        rw [kq3, kq4, kq5, kq7, kq8, kq9, kq10, kq11, kq12, kq15] at hP1 hD1
        obtain ⟨qq, hqq⟩ : ∃ f : Nat → Nat, f = (fun j => match j with | 0 => q0 | j + 1 => qa (j + 1)) := ⟨_, rfl⟩
        have hP1 : va_P (dC, dI) vwCl (cells16 kc qq (n 0)) H1 := by rw [hqq]; exact hP1
        have hD1 : va_D (va_A [(q0, .inr (7, [.int 0, .int 0, .int 0, .int 0, .int 0, .int 0, .int 0, .int 0, .int 0, .int 0, .null, .null, .null, .null, .null]))] H.size) (cells16 kc qq (n 0)) := by rw [hqq]; exact hD1
        have hq0 : qq 0 = q0 := by rw [hqq]
        obtain ⟨hP, hD⟩ := va_appR hP hD hk1 hFc hP1 hD1
        clear hP1 hD1 hk1 hz1 hPc hDc hKc hCc hw0
        generalize H1 = H at hP hS ⊢
        rw [← hq0]
        refine W.eq (g2 := F0 m 44 ls [.ref (qq 0)]) rfl ?_
        refine lv_astore_n (lv' := [(3, .ref (qq 0)), (0, .ref (ad 0)), (1, .int v1), (2, .ref (ad (50 + 16 * q)))]) hx hb dX9_openRun_44 rfl hl (by decide) rfl (fun ls hl => ?_)
        refine lv_aload_n hx hb dX9_openRun_45 rfl (lv_at hl 1 rfl) ?_
        refine va_get (D := (dC, dI)) (ci := 9) (v := .ref (ad 40)) (C := RX9) (T := TX9) (N := 15) hx hb hg gb_9 hown hK hP 0 (ap_l hQ.x0) rfl 4 (by decide) (hg _ gm_fieldLink_RX9_31_ErrandGuild_runs_ALErrandGuild_Run_) (fun _ h9 => h9) rfl dX9_openRun_46 ?_
        refine lv_aload_n hx hb dX9_openRun_49 rfl (lv_at hl 1 rfl) ?_
        refine va_get (D := (dC, dI)) (ci := 9) (v := .int (n 0)) (C := RX9) (T := TX9) (N := 15) hx hb hg gb_9 hown hK hP 0 (ap_l hQ.x0) rfl 5 (by decide) (hg _ gm_fieldLink_RX9_66_ErrandGuild_runCount_I_) (fun _ h9 => h9) rfl dX9_openRun_50 ?_
        refine lv_aload_n hx hb dX9_openRun_53 rfl (lv_at hl 0 rfl) ?_
        refine va_astq (r := (RX7, TX7, 15)) hx hb hK hP hD hS 40 3 (50 + 16 * M) 7 (ap_l hQ.x40) rfl (ap_0 hQ.1) rfl (vp_in_iff.mpr ⟨by omega, by omega⟩) dX9_openRun_54 (fun H locs hP hD hS => ?_)
        have hix : Int32.toNatClampNeg (n 0) = M := by rw [cl_eq]; omega
        rw [hix] at hP hD
        obtain ⟨ws_73, ad_66, ga_67, gc_68, M_69, G_70, K_71, F_72, ead_66, ega_67, egc_68, eM_69, eG_70, eK_71, eF_72, hP, hD, hQ⟩ : ∃ (ws_73 : va_W) (ad_66 : Nat → Nat) (ga_67 : Nat → Nat) (gc_68 : Nat → Nat) (M_69 : Nat) (G_70 : Nat → Nat → Int32) (K_71 : Nat → Nat → Option Nat) (F_72 : Nat → Nat → Nat → Int32), ad_66 = adX ad M qq ∧ ga_67 = u1 ga (3 + M) (qq 15) ∧ gc_68 = u1 gc (3 + M) 16 ∧ M_69 = M + 1 ∧ G_70 = u1 G M (newG (n 0)) ∧ K_71 = u1 K M (fun _ => none) ∧ F_72 = u1 F M (fun _ _ => 0) ∧ va_P (dC, dI) vwCl ws_73 H ∧ va_D A ws_73 ∧ Pic9 kc ws_73 ad_66 ga_67 gc_68 M_69 n f T G_70 K_71 F_72 := ⟨_, _, _, _, _, _, _, _, rfl, rfl, rfl, rfl, rfl, rfl, rfl, hP, hD, hQ.push h_i2 h_i3 qq (n 0)⟩
        have hI2 : I9 M_69 n T gc_68 G_70 K_71 R := by rw [eM_69, egc_68, eG_70, eK_71]; exact I9.push hI (by omega) (by omega) (n 0)
        obtain ⟨i1_74, i2_75, i3_76, i4_77, i5_78, i6_79, i7_80, i8_81, i9_82⟩ := id hI2
        have q1_ := i1_74
        unfold i1 at q1_
        have hS9 : S9 M_69 gc_68 = S9 M gc + 16 := by rw [eM_69, egc_68]; exact S9_push
        have hE1 : ∀ q : Nat, q < 50 + 16 * M → ad_66 q = ad q := fun q hq => by rw [ead_66]; exact adX_lt hq
        have hrc2 : (n 0).toInt.toNat < M_69 := by omega
        have hqa : qq 0 = ad_66 (50 + 16 * (n 0).toInt.toNat) := by rw [← hMe, ead_66]; exact adX_new0.symm
        rw [hqa] at hl
        obtain ⟨ce2, hce2⟩ : ∃ q : Nat, q = ce + 16 := ⟨_, rfl⟩
        obtain ⟨se2, hse2⟩ : ∃ q : Nat, q = se + 228 := ⟨_, rfl⟩
        refine W.widen (k := ce2) (n := se2) (by omega) (by omega) ?_
        have hr1 : se2 + (260 * M + 2 * S9 M gc) ≤ (260 * M_69 + 2 * S9 M_69 gc_68) := by omega
        have hr2 : 16 * ce2 + (256 * M + S9 M gc) ≤ (256 * M_69 + S9 M_69 gc_68) := by omega
        generalize ce2 = ce, se2 = se at hr1 hr2 ⊢
        have hl : lv_has ls 5 [(3, .ref (ad_66 (50 + 16 * ((n 0).toInt.toNat)))), (0, .ref (ad_66 0)), (1, .int v1), (2, .ref (ad_66 (50 + 16 * q)))] := by rw [hE1 0 (by omega), hE1 (50 + 16 * q) (by omega)]; exact hl
        refine lv_aload_n hx hb dX9_openRun_55 rfl (lv_at hl 0 rfl) ?_
        refine lv_iload_n hx hb dX9_openRun_56 rfl (lv_at hl 2 rfl) ?_
        refine lv_aload_n hx hb dX9_openRun_57 rfl (lv_at hl 3 rfl) ?_
        have hFc := free_all hD hS hA
        refine W_msr2 (fun hm1 hm2 hm3 => ?_)
        refine va_callv (va_runV (As := [.int v1, .ref (ad_66 (50 + 16 * q))]) (rest := []) ⟨hx, hb, hml, hown, hg⟩ (c_X7_begin_r l dC dI kc ws_73 ad_66 ga_67 gc_68 M_69 n f T G_70 K_71 F_72 R ((n 0).toInt.toNat) v1 q H.size (hpS H) hQ ⟨i1_74, i2_75, i3_76, i4_77, i5_78, i6_79, i7_80, i8_81, i9_82⟩ (by show ((n 0).toInt.toNat) < M_69; omega) (by show q < M_69; omega)) (cwV 2 hg (gw_V gm_methodLink_RX9_369_yX7_begin gm_instanceMethod_yX7_begin gm_selects_RX7_yX7_begin_yX7_begin gm_initialized_RX7 gm_code_yX7_begin_cX7_begin_3_none) rfl rfl rfl (by decide +kernel) ⟨Nat.le_of_ble_eq_true rfl, Nat.le_of_ble_eq_true rfl⟩) ⟨fun a U g mk q => by obtain ⟨q0, q1, q2, qP, qK, qD, qN⟩ := q; exact ⟨q0, q1, q2, qP, va_K.moved (u := U) (U := U.calling g mk a) (Vm.Alike.refl U.vm) qK, qD, nx_same (u := U) (U := U.calling g mk a) rfl qN⟩, va_recv hK hP (ci := 7) (q0 := (50 + 16 * ((n 0).toInt.toNat))) rfl (hQ.b0 hrc2), fun U hU hW => ⟨rfl, by rw [hU], by rw [hU], by rw [hU]; exact hP, va_K.moved hW.alike hK, hD.weaken (fun _ _ _ _ => trivial), nx_warm hW hN⟩⟩ rfl rfl hl.1 rfl (lv_room (Nat.le_of_ble_eq_true rfl)) dX9_openRun_58 ⟨by show ce + 0 ≤ 20; omega, by show se + 0 ≤ 300; omega⟩) hS (fun q _ h => hFc q h) hFc (fun u_84 t H1 locs ht hvm hw hB hz1 hk1 hS => ?_)
        obtain ⟨ad_85, ga_86, gc_87, M_88, n_89, f_90, T_91, G_92, K_93, F_94⟩ := u_84
        have hB : ∃ w : va_W, va_P (dC, dI) vwCl w t.heap ∧ va_D (va_A ws_73 H.size) w ∧ Pic9 kc w ad_66 ga_67 gc_68 M_69 n f T G_92 K_93 F_94 ∧ I9 M_69 n T gc_68 G_92 K_93 R ∧ hpS t.heap + (260 * M_69 + 2 * S9 M_69 gc_68) ≤ hpS H + (260 * M_69 + 2 * S9 M_69 gc_68) ∧ 16 * t.heap.size + (256 * M_69 + S9 M_69 gc_68) ≤ 16 * H.size + (256 * M_69 + S9 M_69 gc_68) := hB
        rw [ht] at hB
        obtain ⟨ws_95, hP, hD, hQ, hI_96, hy1, hy2⟩ := hB
        have hD := hD.weaken (fun k q _ h => hFc _ h)
        obtain ⟨i1_97, i2_98, i3_99, i4_100, i5_101, i6_102, i7_103, i8_104, i9_105⟩ := id hI_96
        have q1_ := i1_97
        unfold i1 at q1_
        have hSl := S9_le i8_104 i9_105
        have hb0_ := i8_104.2.1 0 (by omega)
        have hb1_ := i8_104.2.1 1 (by omega)
        have hb2_ := i8_104.2.1 2 (by omega)
        refine W_msr2 (fun hn1 hn2 hn3 => ?_)
        obtain ⟨ce2, se2, hk3, hk4, hr1, hr2⟩ : ∃ c2 s2 : Nat, H1.size ≤ s.heap.size + c2 ∧ hpS H1 ≤ hpS s.heap + s2 ∧ s2 + (260 * M + 2 * S9 M gc) ≤ (260 * M_69 + 2 * S9 M_69 gc_68) ∧ 16 * c2 + (256 * M + S9 M gc) ≤ (256 * M_69 + S9 M_69 gc_68) := ⟨H1.size - s.heap.size, hpS H1 - hpS s.heap, by omega, by omega, by have := hS.1; omega, by have := hS.1; omega⟩
        refine W_tightP hk3 hk4 ?_
        clear hm1 hm2 hm3 hn1 hn2 hn3 hk3 hk4
        clear hk1 hz1
        generalize ce2 = ce, se2 = se at hr1 hr2 ⊢
        generalize H1 = H at hP hS ⊢
        have w_106 : (G_92 ((n 0).toInt.toNat) 2).toInt = 0 ∧ (G_92 ((n 0).toInt.toNat) 3).toInt = -1 ∧ K_93 ((n 0).toInt.toNat) 3 = none ∧ (∀ a : Nat, a ≠ ((n 0).toInt.toNat) → K_93 a = K_71 a) := hw
        refine lv_iconst (v := 0) hx hb dX9_openRun_61 (by decide) ?_
        refine lv_istore (lv' := [(4, .int 0), (3, .ref (ad_66 (50 + 16 * ((n 0).toInt.toNat)))), (0, .ref (ad_66 0)), (1, .int v1), (2, .ref (ad_66 (50 + 16 * q)))]) hx hb dX9_openRun_62 hl (by decide) rfl (fun ls hl => ?_)
        have L64 : ∀ (fuel : Nat) (x_107 : Int32)   (ws_109 : va_W) (F_108 : Nat → Nat → Nat → Int32) (ce se : Nat) (H : Heap) (locs : List Loc) (ls : Array Slot), (9 - x_107.toInt).toNat < fuel → (0 ≤ x_107.toInt ∧ x_107.toInt ≤ 8) → Pic9 kc ws_109 ad_66 ga_67 gc_68 M_69 n f T G_92 K_93 F_108 → I9 M_69 n T gc_68 G_92 K_93 R → (se + (260 * M + 2 * S9 M gc) ≤ (260 * M_69 + 2 * S9 M_69 gc_68)) → (16 * ce + (256 * M + S9 M gc) ≤ (256 * M_69 + S9 M_69 gc_68)) → va_P (dC, dI) vwCl ws_109 H → va_D A ws_109 → va_S A s.heap H locs → lv_has ls 5 [(4, .int x_107), (3, .ref (ad_66 (50 + 16 * ((n 0).toInt.toNat)))), (0, .ref (ad_66 0)), (1, .int v1), (2, .ref (ad_66 (50 + 16 * q)))] → W p l e (headSpec (.code yX9_openRun cX9_openRun 5 (some (.object "ErrandGuild$Run")) :: gw) ({ frames := 3, cells := 20, slots := 300, locals := 67 })).room s m ([.ref (ad 0), .int v1, .ref (ad (50 + 16 * q))] : List Value).toArray below meth c H locs ce se (MQ below (va_Qq (fun (r : Option Nat) (u : (Nat → Nat) × (Nat → Nat) × (Nat → Nat) × Nat × (Nat → Int32) × (Nat → Nat → Int32) × (Nat → Option Nat) × (Nat → Nat → Int32) × (Nat → Nat → Option Nat) × (Nat → Nat → Nat → Int32)) => (r = some (u.1 (50 + 16 * (n 0).toInt.toNat)) ∧ (u.2.2.2.2.1 0).toInt = (n 0).toInt + 1 ∧ S9 u.2.2.2.1 u.2.2.1 + 16 * M ≤ S9 M gc + 16 * u.2.2.2.1 ∧ (∀ a j : Nat, (a : Int) < (n 0).toInt → u.2.2.2.2.2.2.2.2.1 a 3 = some j → (j : Int) < (n 0).toInt)) ∨ (r = none ∧ (u.2.2.2.2.1 0).toInt = (n 0).toInt ∧ S9 u.2.2.2.1 u.2.2.1 + 16 * M ≤ S9 M gc + 16 * u.2.2.2.1 ∧ 200 ≤ (n 0).toInt)) (fun u t => ∃ w : va_W, va_P (dC, dI) vwCl w t.heap ∧ va_D A w ∧ Pic9 kc w u.1 u.2.1 u.2.2.1 u.2.2.2.1 u.2.2.2.2.1 f T u.2.2.2.2.2.2.2.1 u.2.2.2.2.2.2.2.2.1 u.2.2.2.2.2.2.2.2.2 ∧ I9 u.2.2.2.1 u.2.2.2.2.1 T u.2.2.1 u.2.2.2.2.2.2.2.1 u.2.2.2.2.2.2.2.2.1 R ∧ hpS t.heap + (260 * M + 2 * S9 M gc) ≤ (hpS s.heap) + (260 * u.2.2.2.1 + 2 * S9 u.2.2.2.1 u.2.2.1) ∧ 16 * t.heap.size + (256 * M + S9 M gc) ≤ 16 * s.heap.size + (256 * u.2.2.2.1 + S9 u.2.2.2.1 u.2.2.1) ∧ (n 0).toInt ≤ (u.2.2.2.2.1 0).toInt ∧ (∀ q : Nat, q < 50 + 16 * M → u.1 q = ad q) ∧ M ≤ u.2.2.2.1) A) ([.ref (ad 0), .int v1, .ref (ad (50 + 16 * q))] : List Value).toArray s 20 300 A) (F0 m 64 ls []) := by
          intro fuel
          induction fuel with
          | zero => intro x_107 ws_109 F_108 ce se H locs ls hm; exact absurd hm (Nat.not_lt_zero _)
          | succ fuel_114 ih_113 =>
            intro x_107 ws_109 F_108 ce se H locs ls hm_110 v_111 hQ hI_112 hr1 hr2 hP hD hS hl
            obtain ⟨i1_115, i2_116, i3_117, i4_118, i5_119, i6_120, i7_121, i8_122, i9_123⟩ := id hI_112
            have q1_ := i1_115
            unfold i1 at q1_
            have hSl := S9_le i8_122 i9_123
            have hb0_ := i8_122.2.1 0 (by omega)
            have hb1_ := i8_122.2.1 1 (by omega)
            have hb2_ := i8_122.2.1 2 (by omega)
            refine lv_iload hx hb dX9_openRun_64 (lv_at hl 0 rfl) ?_
            refine lv_bipush (v := 8) hx hb dX9_openRun_66 (by decide) ?_
            refine lv_icmp_ge (tgt := 107) hx hb dX9_openRun_68 (by decide) (fun c_124 => ?_) (fun c_124 => ?_)
            · simp only [i_lt, i_le, i_eq, ti_8] at c_124
              refine lv_aload_n hx hb dX9_openRun_107 rfl (lv_at hl 2 rfl) ?_
              refine lv_dup hx hb dX9_openRun_108 rfl ?_
              refine va_get (D := (dC, dI)) (ci := 9) (v := .int (n 0)) (C := RX9) (T := TX9) (N := 15) hx hb hg gb_9 hown hK hP 0 hQ.x0 rfl 5 (by decide) (hg _ gm_fieldLink_RX9_66_ErrandGuild_runCount_I_) (fun _ h9 => h9) rfl dX9_openRun_109 ?_
              refine lv_iconst (v := 1) hx hb dX9_openRun_112 (by decide) ?_
              refine lv_iadd hx hb dX9_openRun_113 ?_
              refine lv_topi (fun z_125 ez_125 => ?_)
              have tz_125 : z_125.toInt = (n 0).toInt + 1 := ar_add rfl ti_1 ez_125 (by omega)
              refine va_put (D := (dC, dI)) (ci := 9) (v := .int (z_125)) (ty := .int) (C := RX9) (T := TX9) (N := 15) hx hb hg gb_9 tyX9 tyX9_ok nmX9 hown hK hP hD hS 0 hQ.x0 rfl 5 (by decide) (hg _ gm_fieldLink_RX9_66_ErrandGuild_runCount_I_) (fun _ h9 => h9) rfl (by decide +kernel) rfl rfl (Nat.le_of_ble_eq_true rfl) dX9_openRun_114 (fun H locs hP hD hS => ?_)
              obtain ⟨ws_127, n_126, en_126, hP, hD, hQ⟩ : ∃ (ws_127 : va_W) (n_126 : Nat → Int32), n_126 = u1 n 0 z_125 ∧ va_P (dC, dI) vwCl ws_127 H ∧ va_D A ws_127 ∧ Pic9 kc ws_127 ad_66 ga_67 gc_68 M_69 n_126 f T G_92 K_93 F_108 := ⟨_, _, rfl, hP, hD, hQ.x9 0 5 (by decide) z_125⟩
              have i1_128 : i1 M_69 n_126 := by rw [en_126]; exact i1.inc i1_115 (by omega) (by omega)
              have i5_129 : i5 n_126 K_93 := by rw [en_126]; exact i5.inc (a := (n 0).toInt.toNat) i5_119 (by omega) (by omega) w_106.2.2.1
              have i6_130 : i6 n_126 T G_92 := by rw [en_126]; exact i6.inc (a := (n 0).toInt.toNat) i6_120 (by omega) (by omega) w_106.2.1
              have i7_131 : i7 n_126 G_92 := by rw [en_126]; exact i7.inc (a := (n 0).toInt.toNat) i7_121 (by omega) (by omega) w_106.1
              have i8_132 : i8 M_69 n_126 gc_68 G_92 := by rw [en_126]; exact (i8.pn i8_122 _ (by decide))
              have hn_133 : n_126 0 = z_125 := by rw [en_126]; exact u1_eq _ _ _
              have thn_133 : (n_126 0).toInt = z_125.toInt := by rw [hn_133]
              refine lv_aload_n hx hb dX9_openRun_117 rfl (lv_at hl 1 rfl) ?_
              refine W_msr2 (fun hm1 hm2 hm3 => ?_)
              have hSl := S9_le i8_132 i9_123
              have hb0_ := i8_132.2.1 0 (by omega)
              have hb1_ := i8_132.2.1 1 (by omega)
              have hb2_ := i8_132.2.1 2 (by omega)
              refine W.widen (k := 20) (n := 300) (by omega) (by omega) ?_
              exact W.aret (v := .ref (ad_66 (50 + 16 * ((n 0).toInt.toNat)))) hx hb hr (Or.inl ⟨_, rfl⟩) (Or.inr ⟨_, rfl⟩) (fun t ht hW => ⟨⟨some (ad_66 (50 + 16 * ((n 0).toInt.toNat))), (ad_66, ga_67, gc_68, M_69, n_126, f, T, G_92, K_93, F_108), rfl, (Or.inl ⟨rfl, ⟨by show (n_126 0).toInt = (n 0).toInt + 1; omega, by show S9 M_69 gc_68 + 16 * M ≤ S9 M gc + 16 * M_69; omega, fun a j ha hj => h_i5 a j ha (by have hj : K_93 a 3 = some j := hj; rw [w_106.2.2.2 a (by omega), eK_71, u1_ne _ _ (by omega)] at hj; exact hj)⟩⟩), ws_127, by rw [ht]; exact hP, hD, hQ, ⟨i1_128, i2_116, i3_117, i4_118, i5_129, i6_130, i7_131, i8_132, i9_123⟩, by rw [ht]; show hpS H + (260 * M + 2 * S9 M gc) ≤ hpS s.heap + (260 * M_69 + 2 * S9 M_69 gc_68); omega, by rw [ht]; show 16 * H.size + (256 * M + S9 M gc) ≤ 16 * s.heap.size + (256 * M_69 + S9 M_69 gc_68); omega, by show (n 0).toInt ≤ (n_126 0).toInt; omega, hE1, by show M ≤ M_69; omega⟩, hS.F ht⟩) hS.2.2 dX9_openRun_118
            · simp only [i_lt, i_le, i_eq, ti_8] at c_124
              refine lv_aload_n hx hb dX9_openRun_71 rfl (lv_at hl 1 rfl) ?_
              refine va_get (D := (dC, dI)) (ci := 7) (v := .ref (ad_66 (50 + 16 * ((n 0).toInt.toNat) + 2))) (C := RX7) (T := TX7) (N := 15) hx hb hg gb_7 hown hK hP (50 + 16 * ((n 0).toInt.toNat)) (hQ.b0 hrc2) rfl 11 (by decide) (hg _ gm_fieldLink_RX9_253_ErrandGuild_Run_memory_LErrandGuild_Memory_) (fun _ h9 => h9) rfl dX9_openRun_72 ?_
              refine lv_iload hx hb dX9_openRun_75 (lv_at hl 0 rfl) ?_
              refine lv_aload_n hx hb dX9_openRun_77 rfl (lv_at hl 4 rfl) ?_
              refine lv_ifnonnull (tgt := 91) hx hb dX9_openRun_78 (by decide) ?_
              refine lv_aload_n hx hb dX9_openRun_91 rfl (lv_at hl 2 rfl) ?_
              refine lv_aload_n hx hb dX9_openRun_92 rfl (lv_at hl 4 rfl) ?_
              refine lv_iload hx hb dX9_openRun_93 (lv_at hl 0 rfl) ?_
              have hFc := free_all hD hS hA
              refine W_msr2 (fun hm1 hm2 hm3 => ?_)
              refine va_calli (va_runV (As := [.ref (ad_66 (50 + 16 * q)), .int x_107]) (rest := [.int x_107, .ref (ad_66 (50 + 16 * ((n 0).toInt.toNat) + 2))]) ⟨hx, hb, hml, hown, hg⟩ (c_X9_readIn l dC dI kc ws_109 ad_66 ga_67 gc_68 M_69 n f T G_92 K_93 F_108 R q x_107 H.size (hpS H) hQ ⟨i1_115, i2_116, i3_117, i4_118, i5_119, i6_120, i7_121, i8_122, i9_123⟩ (by show q < M_69; omega)) (cwV 2 hg (gw_V gm_methodLink_RX9_231_yX9_readIn gm_instanceMethod_yX9_readIn gm_selects_RX9_yX9_readIn_yX9_readIn gm_initialized_RX9 gm_code_yX9_readIn_cX9_readIn_3_some_int_) rfl rfl rfl (by decide +kernel) ⟨Nat.le_of_ble_eq_true rfl, Nat.le_of_ble_eq_true rfl⟩) ⟨fun a U g mk q => by obtain ⟨q0, q1, q2, qP, qK, qD, qN⟩ := q; exact ⟨q0, q1, q2, qP, va_K.moved (u := U) (U := U.calling g mk a) (Vm.Alike.refl U.vm) qK, qD, nx_same (u := U) (U := U.calling g mk a) rfl qN⟩, va_recv hK hP (ci := 9) (q0 := 0) rfl hQ.x0, fun U hU hW => ⟨rfl, by rw [hU], by rw [hU], by rw [hU]; exact hP, va_K.moved hW.alike hK, hD.weaken (fun _ _ _ _ => trivial), nx_warm hW hN⟩⟩ rfl rfl hl.1 rfl (lv_room (Nat.le_of_ble_eq_true rfl)) dX9_openRun_95 ⟨by show ce + 0 ≤ 20; omega, by show se + 0 ≤ 300; omega⟩) hS (fun q _ h => hFc q h) hFc (fun r_134 u_135 t H1 locs ht hvm hw hB hz1 hk1 hS => ?_)
              obtain ⟨hP, hD, hy1, hy2⟩ := hB
              rw [ht] at hP hy1 hy2
              have hD := hD.weaken (fun k q _ h => hFc _ h)
              refine W.widen (k := ce) (n := se) (Nat.le_refl _) (Nat.le_refl _) ?_
              have q1_ := i1_115
              unfold i1 at q1_
              generalize H1 = H at hP hS ⊢
              have hCc : ([(50 + 16 * ((n 0).toInt.toNat) + 2), (50 + 16 * ((n 0).toInt.toNat) + 5)] : List Nat).map (fun i => ws_109[i]?) = ([(ad_66 (50 + 16 * ((n 0).toInt.toNat) + 2), .inr (6, [.ref (ad_66 (50 + 16 * ((n 0).toInt.toNat) + 3)), .ref (ad_66 (50 + 16 * ((n 0).toInt.toNat) + 4)), .ref (ad_66 (50 + 16 * ((n 0).toInt.toNat) + 5))])), (ad_66 (50 + 16 * ((n 0).toInt.toNat) + 5), .inl (kc 0, 8, .inl (F_108 ((n 0).toInt.toNat) 2)))] : va_W).map some := mp2 (hQ.b2 hrc2) (hQ.b5 hrc2)
              have hNd : ([(50 + 16 * ((n 0).toInt.toNat) + 2), (50 + 16 * ((n 0).toInt.toNat) + 5)] : List Nat).Nodup := (nd_off (50 + 16 * ((n 0).toInt.toNat)) (l := [2, 5]) (by decide))
              have hPc := hP.pick [(50 + 16 * ((n 0).toInt.toNat) + 2), (50 + 16 * ((n 0).toInt.toNat) + 5)] hCc
              have hDc := hD.pick [(50 + 16 * ((n 0).toInt.toNat) + 2), (50 + 16 * ((n 0).toInt.toNat) + 5)] hNd hCc
              have hKc := hK.sub (tys' := [((kc 0), .int)]) [0] rfl
              have hFc := va_free (wc := [(ad_66 (50 + 16 * ((n 0).toInt.toNat) + 2), .inr (6, [.ref (ad_66 (50 + 16 * ((n 0).toInt.toNat) + 3)), .ref (ad_66 (50 + 16 * ((n 0).toInt.toNat) + 4)), .ref (ad_66 (50 + 16 * ((n 0).toInt.toNat) + 5))])), (ad_66 (50 + 16 * ((n 0).toInt.toNat) + 5), .inl (kc 0, 8, .inl (F_108 ((n 0).toInt.toNat) 2)))]) hD hS hA [(50 + 16 * ((n 0).toInt.toNat) + 2), (50 + 16 * ((n 0).toInt.toNat) + 5)] hCc
              refine W_msr2 (fun hm1 hm2 hm3 => ?_)
              refine va_callv (va_runV (As := [.int x_107, .int r_134]) (rest := []) ⟨hx, hb, hml, hown, hg⟩ (c_X6_give l dC dI (ad_66 (50 + 16 * ((n 0).toInt.toNat) + 2)) (ad_66 (50 + 16 * ((n 0).toInt.toNat) + 3)) (ad_66 (50 + 16 * ((n 0).toInt.toNat) + 4)) (ad_66 (50 + 16 * ((n 0).toInt.toNat) + 5)) (kc 0) (F_108 ((n 0).toInt.toNat) 2) x_107 r_134 H.size ) (cwV 2 hg (gw_V gm_methodLink_RX9_373_yX6_give gm_instanceMethod_yX6_give gm_selects_RX6_yX6_give_yX6_give gm_initialized_RX6 gm_code_yX6_give_cX6_give_3_none) rfl rfl rfl (by decide +kernel) ⟨Nat.le_of_ble_eq_true rfl, Nat.le_of_ble_eq_true rfl⟩) ⟨fun a U g mk q => by obtain ⟨q0, q1, qP, qK, qD, qN⟩ := q; exact ⟨q0, q1, qP, va_K.moved (u := U) (U := U.calling g mk a) (Vm.Alike.refl U.vm) qK, qD, nx_same (u := U) (U := U.calling g mk a) rfl qN⟩, va_recv hK hP (ci := 6) (q0 := (50 + 16 * ((n 0).toInt.toNat) + 2)) rfl (hQ.b2 hrc2), fun U hU hW => ⟨rfl, by rw [hU], by rw [hU]; exact hPc, va_K.moved hW.alike hKc, hDc.weaken (fun _ _ _ _ => trivial), nx_warm hW hN⟩⟩ rfl rfl hl.1 rfl (lv_room (Nat.le_of_ble_eq_true rfl)) dX9_openRun_98 ⟨by show ce + 0 ≤ 20; omega, by show se + 0 ≤ 300; omega⟩) hS (fun q _ h => hFc q h) hFc (fun u_138 t H1 locs ht hvm hw hB hz1 hk1 hS => ?_)
              obtain ⟨ad_139, ac_140, af_141, ag_142⟩ := u_138
              obtain ⟨hP1, hD1, hK1⟩ := hB
              rw [ht] at hP1
              obtain ⟨hP, hD⟩ := va_repl (w1 := [((ad_66 (50 + 16 * ((n 0).toInt.toNat) + 2)), .inr (6, [.ref (ad_66 (50 + 16 * ((n 0).toInt.toNat) + 3)), .ref (ad_66 (50 + 16 * ((n 0).toInt.toNat) + 4)), .ref (ad_66 (50 + 16 * ((n 0).toInt.toNat) + 5))])), ((ad_66 (50 + 16 * ((n 0).toInt.toNat) + 5)), .inl ((kc 0), 8, .inl (af_141 2)))]) hP hD [(50 + 16 * ((n 0).toInt.toNat) + 2), (50 + 16 * ((n 0).toInt.toNat) + 5)] hCc hNd rfl hk1 hFc hP1 hD1
              obtain ⟨ws_144, F_143, eF_143, hP, hD, hQ⟩ : ∃ (ws_144 : va_W) (F_143 : Nat → Nat → Nat → Int32), F_143 = u2 F_108 ((n 0).toInt.toNat) 2 (af_141 2) ∧ va_P (dC, dI) vwCl ws_144 H1 ∧ va_D A ws_144 ∧ Pic9 kc ws_144 ad_66 ga_67 gc_68 M_69 n f T G_92 K_93 F_143 := ⟨_, _, rfl, hP, hD, (hQ.same (hQ.b2 hrc2)).arr hrc2 5 2 (by decide) (af_141 2) rfl⟩
              refine W.widen (k := ce) (n := se) (Nat.le_refl _) (Nat.le_refl _) ?_
              generalize H1 = H at hP hS ⊢
              obtain ⟨y_145, ey_145⟩ : ∃ q : Int32, q = x_107 + (1) := ⟨_, rfl⟩
              refine lv_iinc (v := y_145) (lv' := [(4, .int y_145), (3, .ref (ad_66 (50 + 16 * ((n 0).toInt.toNat)))), (0, .ref (ad_66 0)), (1, .int v1), (2, .ref (ad_66 (50 + 16 * q)))]) hx hb dX9_openRun_101 hl (k := 0) rfl (by rw [ey_145]; rfl) (by decide) rfl (fun ls hl => ?_)
              have ty_145 : y_145.toInt = x_107.toInt + (1) := ar_add rfl ti_1 ey_145 (by omega)
              refine lv_goto (tgt := 64) hx hb dX9_openRun_104 (by decide) ?_
              exact ih_113 y_145   ws_144 F_143 ce se H locs ls (by show (9 - y_145.toInt).toNat < _; omega) (by show 0 ≤ y_145.toInt ∧ y_145.toInt ≤ 8; omega) hQ ⟨i1_115, i2_116, i3_117, i4_118, i5_119, i6_120, i7_121, i8_122, i9_123⟩ hr1 hr2 hP hD hS (lv_sub hl [0, 1, 2, 3, 4] rfl)
        exact L64 _ (0 : Int32)   ws_95 F_94 ce se _ _ _ (Nat.lt_succ_self _) (by have t_0 := ti_0; show 0 ≤ (0 : Int32).toInt ∧ (0 : Int32).toInt ≤ 8; omega) hQ ⟨i1_97, i2_98, i3_99, i4_100, i5_101, i6_102, i7_103, i8_104, i9_105⟩ hr1 hr2 hP hD hS (lv_sub hl [0, 1, 2, 3, 4] rfl)
    · simp only [i_lt, i_le, i_eq, ti_200] at c_2
      refine lv_null hx hb dX9_openRun_17 ?_
      refine W_msr2 (fun hm1 hm2 hm3 => ?_)
      have hSl := S9_le h_i8 h_i9
      have hb0_ := h_i8.2.1 0 (by omega)
      have hb1_ := h_i8.2.1 1 (by omega)
      have hb2_ := h_i8.2.1 2 (by omega)
      refine W.widen (k := 20) (n := 300) (by omega) (by omega) ?_
      exact W.aret (v := .null) hx hb hr (Or.inl ⟨_, rfl⟩) (Or.inl rfl) (fun t ht hW => ⟨⟨none, (ad, ga, gc, M, n, f, T, G, K, F), rfl, (Or.inr ⟨rfl, ⟨by show (n 0).toInt = (n 0).toInt; omega, by show S9 M gc + 16 * M ≤ S9 M gc + 16 * M; omega, by omega⟩⟩), ws, by rw [ht]; exact hP, hD, hQ, ⟨h_i1, h_i2, h_i3, h_i4, h_i5, h_i6, h_i7, h_i8, h_i9⟩, by rw [ht]; show hpS s.heap + (260 * M + 2 * S9 M gc) ≤ hpS s.heap + (260 * M + 2 * S9 M gc); omega, by rw [ht]; show 16 * s.heap.size + (256 * M + S9 M gc) ≤ 16 * s.heap.size + (256 * M + S9 M gc); omega, by show (n 0).toInt ≤ (n 0).toInt; omega, (fun _ _ => rfl), by show M ≤ M; omega⟩, hS.F ht⟩) hS.2.2 dX9_openRun_18
