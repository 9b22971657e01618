def c1 (o : Option Nat) (r : Nat) : Nat := match o with
  | none => 0
  | some j => if r ≤ j then 1 else 0
def cT (T : Nat → Option Nat) (r : Nat) : Nat := c1 (T 0) r + c1 (T 1) r + c1 (T 2) r + c1 (T 3) r + c1 (T 4) r + c1 (T 5) r
theorem c1_le (o : Option Nat) (r : Nat) : c1 o r ≤ 1 := by
  cases o with
  | none => exact Nat.zero_le _
  | some j => show (if r ≤ j then 1 else 0) ≤ 1; split <;> omega
theorem c1_up (o : Option Nat) {r r' : Nat} (h : r' = r + 1) : c1 o r' ≤ c1 o r := by
  subst h
  cases o with
  | none => exact Nat.le_refl _
  | some j =>
    show (if r + 1 ≤ j then 1 else 0) ≤ (if r ≤ j then 1 else 0)
    by_cases h1 : r + 1 ≤ j
    · rw [if_pos h1, if_pos (by omega)]; exact Nat.le_refl _
    · rw [if_neg h1]; exact Nat.zero_le _
theorem c1_own {o : Option Nat} {r r' : Nat} (h : r' = r + 1) (e : o = some r) : c1 o r = 1 ∧ c1 o r' = 0 := by
  subst h; subst e
  constructor
  · show (if r ≤ r then 1 else 0) = 1; rw [if_pos (Nat.le_refl _)]
  · show (if r + 1 ≤ r then 1 else 0) = 0; rw [if_neg (by omega)]
theorem cT_le (T : Nat → Option Nat) (r : Nat) : cT T r ≤ 6 := by
  unfold cT
  have h0 := c1_le (T 0) r
  have h1 := c1_le (T 1) r
  have h2 := c1_le (T 2) r
  have h3 := c1_le (T 3) r
  have h4 := c1_le (T 4) r
  have h5 := c1_le (T 5) r
  omega
theorem cT_up (T : Nat → Option Nat) {r r' : Nat} (h : r' = r + 1) : cT T r' ≤ cT T r := by
  unfold cT
  have h0 := c1_up (T 0) h
  have h1 := c1_up (T 1) h
  have h2 := c1_up (T 2) h
  have h3 := c1_up (T 3) h
  have h4 := c1_up (T 4) h
  have h5 := c1_up (T 5) h
  omega
theorem cT_off {T T2 : Nat → Option Nat} (h : ∀ t : Nat, T2 t = T t ∨ T2 t = none) (r : Nat) : cT T2 r ≤ cT T r := by
  have k : ∀ t : Nat, c1 (T2 t) r ≤ c1 (T t) r := fun t => by
    rcases h t with e | e
    · rw [e]; exact Nat.le_refl _
    · rw [e]; exact Nat.zero_le _
  unfold cT
  have h0 := k 0
  have h1 := k 1
  have h2 := k 2
  have h3 := k 3
  have h4 := k 4
  have h5 := k 5
  omega
theorem cT_own (T : Nat → Option Nat) {r r' t : Nat} (h : r' = r + 1) (ht : t < 6) (e : T t = some r) : cT T r' + 1 ≤ cT T r := by
  have z := c1_own h e
  unfold cT
  have h0 := c1_up (T 0) h
  have h1 := c1_up (T 1) h
  have h2 := c1_up (T 2) h
  have h3 := c1_up (T 3) h
  have h4 := c1_up (T 4) h
  have h5 := c1_up (T 5) h
  rcases (show t = 0 ∨ t = 1 ∨ t = 2 ∨ t = 3 ∨ t = 4 ∨ t = 5 by omega) with rfl | rfl | rfl | rfl | rfl | rfl <;> omega

set_option maxHeartbeats 8000000 in
set_option maxRecDepth 100000 in
theorem c_X9_takeTurns (l : Launch) (dC : Nat → ClassId) (dI : Nat → Nat → Nat) (kc : Nat → ClassId) (ws : va_W) (ad : Nat → Nat) (ga : Nat → Nat) (gc : Nat → Nat) (M : Nat) (n : Nat → Int32) (f : Nat → Nat → Int32) (T : Nat → Option Nat) (G : Nat → Nat → Int32) (K : Nat → Nat → Option Nat) (F : Nat → Nat → Nat → Int32) (R : Nat) (sz hz : Nat) (hQ : Pic9 kc ws ad ga gc M n f T G K F) (hI : I9 M n T gc G K R) (hR : R + 6 ≤ 310000) : Met l yX9_takeTurns (.code yX9_takeTurns cX9_takeTurns 5 none :: gw) ({ frames := 6, cells := 84000, slots := 2620000, locals := 198 }) (va_Pc [.ref (ad 0)] (fun U => U.heap.size = sz ∧ hpS U.heap = hz ∧ va_P (dC, dI) vwCl ws U.heap ∧ va_K (dC, dI) vwCl (t9 kc) U ∧ va_D (fun _ => True) ws ∧ nx U)) (va_Qv (fun (u : (Nat → Nat) × (Nat → Nat) × (Nat → Nat) × Nat × (Nat → Int32) × (Nat → Nat → Int32) × (Nat → Option Nat) × (Nat → Nat → Int32) × (Nat → Nat → Option Nat) × (Nat → Nat → Nat → Int32)) => True) (fun u t => ∃ w : va_W, va_P (dC, dI) vwCl w t.heap ∧ va_D (va_A ws sz) w ∧ Pic9 kc w u.1 u.2.1 u.2.2.1 u.2.2.2.1 u.2.2.2.2.1 u.2.2.2.2.2.1 u.2.2.2.2.2.2.1 u.2.2.2.2.2.2.2.1 u.2.2.2.2.2.2.2.2.1 u.2.2.2.2.2.2.2.2.2 ∧ I9 u.2.2.2.1 u.2.2.2.2.1 u.2.2.2.2.2.2.1 u.2.2.1 u.2.2.2.2.2.2.2.1 u.2.2.2.2.2.2.2.2.1 (R + 6) ∧ hpS t.heap + (260 * M + 2 * S9 M gc) ≤ hz + (260 * u.2.2.2.1 + 2 * S9 u.2.2.2.1 u.2.2.1) ∧ 16 * t.heap.size + (256 * M + S9 M gc) ≤ 16 * sz + (256 * u.2.2.2.1 + S9 u.2.2.2.1 u.2.2.1) ∧ (n 0).toInt ≤ (u.2.2.2.2.1 0).toInt ∧ (∀ q : Nat, q < 50 + 16 * M → u.1 q = ad q) ∧ M ≤ u.2.2.2.1) (va_A ws sz)) 84000 2620000 (va_A ws sz) := by
  refine Met.ofW (cc := cX9_takeTurns) (maxL := 5) (ret := none) (by decide) rfl ?_
  intro p e s m args below meth c s₁ B hml hv
  obtain ⟨rfl, hsz, rfl, hP, hK, hD0, hN⟩ := hv
  have hx := B.exec
  have hb := B.bytes
  have hr := B.returns
  have hts := atoms_spec (ws := .code yX9_takeTurns cX9_takeTurns 5 none :: gw) B.pre
  have hg : ∀ w ∈ gw, w.before _ s = true := fun w h => hts w (List.mem_cons_of_mem _ h)
  have hown : s.vm.findClass RX9 = some m.cls := findClass_of_methodNamed B.named
  have hlocks := B.notSynchronized
  subst hsz
  have hD := hD0.self (sz := s.heap.size)
  generalize hAe : va_A ws s.heap.size = A at hD ⊢
  have hA : ∀ q : Nat, s.heap.size ≤ q → A q := fun q h => by rw [← hAe]; exact Or.inr h
  clear hAe
  have hS : va_S A s.heap s.heap [] := va_S.rf
  have hl := lv_entry ([.ref (ad 0)]) (n := 5) (Nat.le_of_ble_eq_true rfl)
  rw [lg_entry_eq]
  generalize (lg_sl ([.ref (ad 0)]) ++ List.replicate (5 - (lg_sl ([.ref (ad 0)])).length) Slot.unset).toArray = ls at hl ⊢
  have hl : lv_has ls 5 [(0, .ref (ad 0))] := hl
  obtain ⟨h_i1, h_i2, h_i3, h_i4, h_i5, h_i6, h_i7, h_i8, h_i9⟩ := id hI
  have q1_ := h_i1
  unfold i1 at q1_
  have hSl0 := S9_le h_i8 h_i9
  have hb0_ := h_i8.2.1 0 (by omega)
  have hb1_ := h_i8.2.1 1 (by omega)
  have hb2_ := h_i8.2.1 2 (by omega)
  have hr1 : 0 + (260 * M + 2 * S9 M gc) ≤ (260 * M + 2 * S9 M gc) := by omega
  have hr2 : 16 * 0 + (256 * M + S9 M gc) ≤ (256 * M + S9 M gc) := by omega
  obtain ⟨ce, hce⟩ : ∃ q : Nat, q = 0 := ⟨_, rfl⟩
  obtain ⟨se, hse⟩ : ∃ q : Nat, q = 0 := ⟨_, rfl⟩
  rw [← hse] at hr1
  have hr2 : 16 * ce + (256 * M + S9 M gc) ≤ (256 * M + S9 M gc) := by omega
  refine W.widen (k := ce) (n := se) (Nat.zero_le _) (Nat.zero_le _) ?_
  refine lv_aload_n hx hb dX9_takeTurns_0 rfl (lv_at hl 0 rfl) ?_
  refine va_get (D := (dC, dI)) (ci := 9) (v := .int (n 0)) (C := RX9) (T := TX9) (N := 15) hx hb hg gb_9 hown hK hP 0 hQ.x0 rfl 5 (by decide) (hg _ gm_fieldLink_RX9_66_ErrandGuild_runCount_I_) (fun _ h9 => h9) rfl dX9_takeTurns_1 ?_
  refine lv_istore_n (lv' := [(1, .int (n 0)), (0, .ref (ad 0))]) hx hb dX9_takeTurns_4 rfl hl (by decide) rfl (fun ls hl => ?_)
  refine lv_iconst (v := 0) hx hb dX9_takeTurns_5 (by decide) ?_
  refine lv_istore_n (lv' := [(2, .int 0), (1, .int (n 0)), (0, .ref (ad 0))]) hx hb dX9_takeTurns_6 rfl hl (by decide) rfl (fun ls hl => ?_)
  have L7 : ∀ (fuel : Nat) (x_1 : Int32)   (ws_12 : va_W) (ad_2 : Nat → Nat) (ga_3 : Nat → Nat) (gc_4 : Nat → Nat) (M_5 : Nat) (n_6 : Nat → Int32) (f_7 : Nat → Nat → Int32) (T_8 : Nat → Option Nat) (G_9 : Nat → Nat → Int32) (K_10 : Nat → Nat → Option Nat) (F_11 : Nat → Nat → Nat → Int32) (ce se : Nat) (H : Heap) (locs : List Loc) (ls : Array Slot), (201 - x_1.toInt).toNat < fuel → (0 ≤ x_1.toInt ∧ x_1.toInt ≤ 200) → ((n 0).toInt ≤ (n_6 0).toInt) → (M ≤ M_5) → (∀ q : Nat, q < 50 + 16 * M → ad_2 q = ad q) → Pic9 kc ws_12 ad_2 ga_3 gc_4 M_5 n_6 f_7 T_8 G_9 K_10 F_11 → I9 M_5 n_6 T_8 gc_4 G_9 K_10 (R + (6 - cT T_8 x_1.toInt.toNat)) → (se + (260 * M + 2 * S9 M gc) ≤ (260 * M_5 + 2 * S9 M_5 gc_4)) → (16 * ce + (256 * M + S9 M gc) ≤ (256 * M_5 + S9 M_5 gc_4)) → va_P (dC, dI) vwCl ws_12 H → va_D A ws_12 → va_S A s.heap H locs → lv_has ls 5 [(2, .int x_1), (1, .int (n 0)), (0, .ref (ad_2 0))] → W p l e (headSpec (.code yX9_takeTurns cX9_takeTurns 5 none :: gw) ({ frames := 6, cells := 84000, slots := 2620000, locals := 198 })).room s m ([.ref (ad 0)] : List Value).toArray below meth c H locs ce se (MQ below (va_Qv (fun (u : (Nat → Nat) × (Nat → Nat) × (Nat → Nat) × Nat × (Nat → Int32) × (Nat → Nat → Int32) × (Nat → Option Nat) × (Nat → Nat → Int32) × (Nat → Nat → Option Nat) × (Nat → Nat → Nat → Int32)) => True) (fun u t => ∃ w : va_W, va_P (dC, dI) vwCl w t.heap ∧ va_D A w ∧ Pic9 kc w u.1 u.2.1 u.2.2.1 u.2.2.2.1 u.2.2.2.2.1 u.2.2.2.2.2.1 u.2.2.2.2.2.2.1 u.2.2.2.2.2.2.2.1 u.2.2.2.2.2.2.2.2.1 u.2.2.2.2.2.2.2.2.2 ∧ I9 u.2.2.2.1 u.2.2.2.2.1 u.2.2.2.2.2.2.1 u.2.2.1 u.2.2.2.2.2.2.2.1 u.2.2.2.2.2.2.2.2.1 (R + 6) ∧ hpS t.heap + (260 * M + 2 * S9 M gc) ≤ (hpS s.heap) + (260 * u.2.2.2.1 + 2 * S9 u.2.2.2.1 u.2.2.1) ∧ 16 * t.heap.size + (256 * M + S9 M gc) ≤ 16 * s.heap.size + (256 * u.2.2.2.1 + S9 u.2.2.2.1 u.2.2.1) ∧ (n 0).toInt ≤ (u.2.2.2.2.1 0).toInt ∧ (∀ q : Nat, q < 50 + 16 * M → u.1 q = ad q) ∧ M ≤ u.2.2.2.1) A) ([.ref (ad 0)] : List Value).toArray s 84000 2620000 A) (F0 m 7 ls []) := by
    intro fuel
    induction fuel with
    | zero => intro x_1 ws_12 ad_2 ga_3 gc_4 M_5 n_6 f_7 T_8 G_9 K_10 F_11 ce se H locs ls hm; exact absurd hm (Nat.not_lt_zero _)
    | succ fuel_19 ih_18 =>
      intro x_1 ws_12 ad_2 ga_3 gc_4 M_5 n_6 f_7 T_8 G_9 K_10 F_11 ce se H locs ls hm_13 v_14 v_15 v_16 hE0 hQ hI_17 hr1 hr2 hP hD hS hl
      obtain ⟨i1_20, i2_21, i3_22, i4_23, i5_24, i6_25, i7_26, i8_27, i9_28⟩ := id hI_17
      have q1_ := i1_20
      unfold i1 at q1_
      have hSl := S9_le i8_27 i9_28
      have hb0_ := i8_27.2.1 0 (by omega)
      have hb1_ := i8_27.2.1 1 (by omega)
      have hb2_ := i8_27.2.1 2 (by omega)
      have hc0_ := cT_le T_8 x_1.toInt.toNat
      refine lv_iload_n hx hb dX9_takeTurns_7 rfl (lv_at hl 0 rfl) ?_
      refine lv_iload_n hx hb dX9_takeTurns_8 rfl (lv_at hl 1 rfl) ?_
      refine lv_icmp_ge (tgt := 84) hx hb dX9_takeTurns_9 (by decide) (fun c_29 => ?_) (fun c_29 => ?_)
      · simp only [i_lt, i_le, i_eq] at c_29
        refine W_msr2 (fun hm1 hm2 hm3 => ?_)
        have hSl := S9_le i8_27 i9_28
        have hb0_ := i8_27.2.1 0 (by omega)
        have hb1_ := i8_27.2.1 1 (by omega)
        have hb2_ := i8_27.2.1 2 (by omega)
        refine W.widen (k := 84000) (n := 2620000) (by omega) (by omega) ?_
        exact W.vret hx hb hr (fun t ht hW => ⟨⟨(ad_2, ga_3, gc_4, M_5, n_6, f_7, T_8, G_9, K_10, F_11), rfl, trivial, ws_12, by rw [ht]; exact hP, hD, hQ, I9.mono (R := R + (6 - cT T_8 x_1.toInt.toNat)) ⟨i1_20, i2_21, i3_22, i4_23, i5_24, i6_25, i7_26, i8_27, i9_28⟩ (by omega), by rw [ht]; show hpS H + (260 * M + 2 * S9 M gc) ≤ hpS s.heap + (260 * M_5 + 2 * S9 M_5 gc_4); omega, by rw [ht]; show 16 * H.size + (256 * M + S9 M gc) ≤ 16 * s.heap.size + (256 * M_5 + S9 M_5 gc_4); omega, by show (n 0).toInt ≤ (n_6 0).toInt; omega, hE0, by show M ≤ M_5; omega⟩, hS.F ht⟩) hS.2.2 dX9_takeTurns_84
      · simp only [i_lt, i_le, i_eq] at c_29
        refine lv_aload_n hx hb dX9_takeTurns_12 rfl (lv_at hl 2 rfl) ?_
        refine lv_iload_n hx hb dX9_takeTurns_13 rfl (lv_at hl 0 rfl) ?_
        have hFc := free_all hD hS hA
        refine W_msr2 (fun hm1 hm2 hm3 => ?_)
        refine va_callq (va_runV (As := [.int x_1]) (rest := []) ⟨hx, hb, hml, hown, hg⟩ (c_X9_runAt l dC dI kc ws_12 ad_2 ga_3 gc_4 M_5 n_6 f_7 T_8 G_9 K_10 F_11 (R + (6 - cT T_8 x_1.toInt.toNat)) x_1 H.size (hpS H) hQ ⟨i1_20, i2_21, i3_22, i4_23, i5_24, i6_25, i7_26, i8_27, i9_28⟩) (cwV 1 hg (gw_V gm_methodLink_RX9_134_yX9_runAt gm_instanceMethod_yX9_runAt gm_selects_RX9_yX9_runAt_yX9_runAt gm_initialized_RX9 gm_code_yX9_runAt_cX9_runAt_2_some_object_ErrandGuild_Run_) rfl rfl rfl (by decide +kernel) ⟨Nat.le_of_ble_eq_true rfl, Nat.le_of_ble_eq_true rfl⟩) ⟨fun a U g mk q => by obtain ⟨q0, q1, q2, qP, qK, qD, qN⟩ := q; exact ⟨q0, q1, q2, qP, va_K.moved (u := U) (U := U.calling g mk a) (Vm.Alike.refl U.vm) qK, qD, nx_same (u := U) (U := U.calling g mk a) rfl qN⟩, va_recv hK hP (ci := 9) (q0 := 0) rfl hQ.x0, fun U hU hW => ⟨rfl, by rw [hU], by rw [hU], by rw [hU]; exact hP, va_K.moved hW.alike hK, hD.weaken (fun _ _ _ _ => trivial), nx_warm hW hN⟩⟩ rfl rfl hl.1 rfl (lv_room (Nat.le_of_ble_eq_true rfl)) dX9_takeTurns_14 ⟨by show ce + 0 ≤ 84000; omega, by show se + 0 ≤ 2620000; omega⟩) hS (fun q _ h => hFc q h) hFc (fun r_30 u_31 t H1 locs ht hvm hw hB hz1 hk1 hS => ?_)
        obtain ⟨hP, hD, hy1, hy2⟩ := hB
        rw [ht] at hP hy1 hy2
        have hD := hD.weaken (fun k q _ h => hFc _ h)
        refine W.widen (k := ce) (n := se) (Nat.le_refl _) (Nat.le_refl _) ?_
        have q1_ := i1_20
        unfold i1 at q1_
        generalize H1 = H at hP hS ⊢
        rcases hw with ⟨rfl, w_32⟩ | ⟨rfl, w_32⟩
        · have w_32 : (0 ≤ x_1.toInt ∧ x_1.toInt < (n_6 0).toInt) := w_32
          have hl_33 : x_1.toInt.toNat < M_5 := by omega
          refine W.eq (g2 := F0 m 17 ls [.ref (ad_2 (50 + 16 * x_1.toInt.toNat))]) rfl ?_
          refine lv_astore_n (lv' := [(3, .ref (ad_2 (50 + 16 * x_1.toInt.toNat))), (2, .int x_1), (1, .int (n 0)), (0, .ref (ad_2 0))]) hx hb dX9_takeTurns_17 rfl hl (by decide) rfl (fun ls hl => ?_)
          refine lv_aload_n hx hb dX9_takeTurns_18 rfl (lv_at hl 0 rfl) ?_
          refine lv_ifnull hx hb dX9_takeTurns_19 ?_
          refine lv_aload_n hx hb dX9_takeTurns_22 rfl (lv_at hl 0 rfl) ?_
          refine va_get (D := (dC, dI)) (ci := 7) (v := .int (G_9 x_1.toInt.toNat 2)) (C := RX7) (T := TX7) (N := 15) hx hb hg gb_7 hown hK hP (50 + 16 * x_1.toInt.toNat) (hQ.b0 hl_33) rfl 2 (by decide) (hg _ gm_fieldLink_RX9_145_ErrandGuild_Run_state_I_) (fun _ h9 => h9) rfl dX9_takeTurns_23 ?_
          refine lv_iconst (v := 1) hx hb dX9_takeTurns_26 (by decide) ?_
          refine lv_icmp_ne (tgt := 78) hx hb dX9_takeTurns_27 (by decide) (fun c_34 => ?_) (fun c_34 => ?_)
          · simp only [i_lt, i_le, i_eq, ti_1] at c_34
            obtain ⟨y_35, ey_35⟩ : ∃ q : Int32, q = x_1 + (1) := ⟨_, rfl⟩
            refine lv_iinc (v := y_35) (lv' := [(2, .int y_35), (3, .ref (ad_2 (50 + 16 * x_1.toInt.toNat))), (1, .int (n 0)), (0, .ref (ad_2 0))]) hx hb dX9_takeTurns_78 hl (k := 1) rfl (by rw [ey_35]; rfl) (by decide) rfl (fun ls hl => ?_)
            have ty_35 : y_35.toInt = x_1.toInt + (1) := ar_add rfl ti_1 ey_35 (by omega)
            have hy_ : y_35.toInt.toNat = x_1.toInt.toNat + 1 := by omega
            have hc1_ := cT_up T_8 hy_
            refine lv_goto (tgt := 7) hx hb dX9_takeTurns_81 (by decide) ?_
            exact ih_18 y_35   ws_12 ad_2 ga_3 gc_4 M_5 n_6 f_7 T_8 G_9 K_10 F_11 ce se H locs ls (by show (201 - y_35.toInt).toNat < _; omega) (by show 0 ≤ y_35.toInt ∧ y_35.toInt ≤ 200; omega) (by show (n 0).toInt ≤ (n_6 0).toInt; omega) (by show M ≤ M_5; omega) hE0 hQ (I9.mono (R := R + (6 - cT T_8 x_1.toInt.toNat)) ⟨i1_20, i2_21, i3_22, i4_23, i5_24, i6_25, i7_26, i8_27, i9_28⟩ (by omega)) hr1 hr2 hP hD hS (lv_sub hl [0, 2, 3] rfl)
          · simp only [i_lt, i_le, i_eq, ti_1] at c_34
            have h7_ := i7_26 x_1.toInt.toNat (by omega) (by omega)
            have h6_36 := i6_25 x_1.toInt.toNat (by omega) h7_.1 h7_.2
            have hc6_ := cT_le T_8 x_1.toInt.toNat
            have hc7_ := cT_own T_8 (r := x_1.toInt.toNat) (r' := x_1.toInt.toNat + 1) rfl (by omega) h6_36
            refine lv_aload_n hx hb dX9_takeTurns_30 rfl (lv_at hl 3 rfl) ?_
            refine lv_aload_n hx hb dX9_takeTurns_31 rfl (lv_at hl 0 rfl) ?_
            have hFc := free_all hD hS hA
            refine W_msr2 (fun hm1 hm2 hm3 => ?_)
            refine va_callv (va_runV (As := [.ref (ad_2 (50 + 16 * x_1.toInt.toNat))]) (rest := []) ⟨hx, hb, hml, hown, hg⟩ (c_X9_noteTurn l dC dI kc ws_12 ad_2 ga_3 gc_4 M_5 n_6 f_7 T_8 G_9 K_10 F_11 (R + (6 - cT T_8 x_1.toInt.toNat)) x_1.toInt.toNat H.size (hpS H) hQ ⟨i1_20, i2_21, i3_22, i4_23, i5_24, i6_25, i7_26, i8_27, i9_28⟩ (by show x_1.toInt.toNat < M_5; omega) (by show (R + (6 - cT T_8 x_1.toInt.toNat)) ≤ 310000; omega)) (cwV 1 hg (gw_V gm_methodLink_RX9_286_yX9_noteTurn gm_instanceMethod_yX9_noteTurn gm_selects_RX9_yX9_noteTurn_yX9_noteTurn gm_initialized_RX9 gm_code_yX9_noteTurn_cX9_noteTurn_2_none) rfl rfl rfl (by decide +kernel) ⟨Nat.le_of_ble_eq_true rfl, Nat.le_of_ble_eq_true rfl⟩) ⟨fun a U g mk q => by obtain ⟨q0, q1, q2, qP, qK, qD, qN⟩ := q; exact ⟨q0, q1, q2, qP, va_K.moved (u := U) (U := U.calling g mk a) (Vm.Alike.refl U.vm) qK, qD, nx_same (u := U) (U := U.calling g mk a) rfl qN⟩, va_recv hK hP (ci := 9) (q0 := 0) rfl hQ.x0, fun U hU hW => ⟨rfl, by rw [hU], by rw [hU], by rw [hU]; exact hP, va_K.moved hW.alike hK, hD.weaken (fun _ _ _ _ => trivial), nx_warm hW hN⟩⟩ rfl rfl hl.1 rfl (lv_room (Nat.le_of_ble_eq_true rfl)) dX9_takeTurns_32 ⟨by show ce + 600 ≤ 84000; omega, by show se + 33000 ≤ 2620000; omega⟩) hS (fun q _ h => hFc q h) hFc (fun u_38 t H1 locs ht hvm hw hB hz1 hk1 hS => ?_)
            obtain ⟨ad_39, ga_40, gc_41, M_42, n_43, f_44, T_45, G_46, K_47, F_48⟩ := u_38
            have hB : ∃ w : va_W, va_P (dC, dI) vwCl w t.heap ∧ va_D (va_A ws_12 H.size) w ∧ Pic9 kc w ad_2 ga_40 gc_41 M_5 n_43 f_44 T_8 G_46 K_10 F_11 ∧ I9 M_5 n_43 T_8 gc_41 G_46 K_10 (R + (6 - cT T_8 x_1.toInt.toNat)) ∧ hpS t.heap + (260 * M_5 + 2 * S9 M_5 gc_4) ≤ hpS H + (260 * M_5 + 2 * S9 M_5 gc_41) ∧ 16 * t.heap.size + (256 * M_5 + S9 M_5 gc_4) ≤ 16 * H.size + (256 * M_5 + S9 M_5 gc_41) ∧ (n_6 0).toInt ≤ (n_43 0).toInt := hB
            rw [ht] at hB
            obtain ⟨ws_49, hP, hD, hQ, hI_51, hy1, hy2, hn_50⟩ := hB
            have hD := hD.weaken (fun k q _ h => hFc _ h)
            obtain ⟨i1_52, i2_53, i3_54, i4_55, i5_56, i6_57, i7_58, i8_59, i9_60⟩ := id hI_51
            have q1_ := i1_52
            unfold i1 at q1_
            have hSl := S9_le i8_59 i9_60
            have hb0_ := i8_59.2.1 0 (by omega)
            have hb1_ := i8_59.2.1 1 (by omega)
            have hb2_ := i8_59.2.1 2 (by omega)
            refine W_msr2 (fun hn1 hn2 hn3 => ?_)
            obtain ⟨ce2, se2, hk3, hk4, hr1, hr2⟩ : ∃ c2 s2 : Nat, H1.size ≤ s.heap.size + c2 ∧ hpS H1 ≤ hpS s.heap + s2 ∧ s2 + (260 * M + 2 * S9 M gc) ≤ (260 * M_5 + 2 * S9 M_5 gc_41) ∧ 16 * c2 + (256 * M + S9 M gc) ≤ (256 * M_5 + S9 M_5 gc_41) := ⟨H1.size - s.heap.size, hpS H1 - hpS s.heap, by omega, by omega, by have := hS.1; omega, by have := hS.1; omega⟩
            refine W_tightP hk3 hk4 ?_
            clear hm1 hm2 hm3 hn1 hn2 hn3 hk3 hk4
            clear hk1 hz1
            generalize ce2 = ce, se2 = se at hr1 hr2 ⊢
            generalize H1 = H at hP hS ⊢
            have w_61 : S9 M_5 gc_41 + gc_4 2 ≤ S9 M_5 gc_4 + gc_41 2 ∧ (n_43 0).toInt = (n_6 0).toInt := hw
            refine lv_aload_n hx hb dX9_takeTurns_35 rfl (lv_at hl 0 rfl) ?_
            refine va_get (D := (dC, dI)) (ci := 7) (v := .int (G_46 x_1.toInt.toNat 8)) (C := RX7) (T := TX7) (N := 15) hx hb hg gb_7 hown hK hP (50 + 16 * x_1.toInt.toNat) (hQ.b0 hl_33) rfl 8 (by decide) (hg _ gm_fieldLink_RX9_141_ErrandGuild_Run_interrupted_Z_) (fun _ h9 => h9) rfl dX9_takeTurns_36 ?_
            refine lv_if_ne (tgt := 49) hx hb dX9_takeTurns_39 (by decide) (fun c_62 => ?_) (fun c_62 => ?_)
            · simp only [i_lt, i_le, i_eq, ti_0] at c_62
              refine lv_iconst (v := 1) hx hb dX9_takeTurns_49 (by decide) ?_
              refine lv_goto (tgt := 54) hx hb dX9_takeTurns_50 (by decide) ?_
              refine lv_istore (lv' := [(4, .int 1), (3, .ref (ad_2 (50 + 16 * x_1.toInt.toNat))), (2, .int x_1), (1, .int (n 0)), (0, .ref (ad_2 0))]) hx hb dX9_takeTurns_54 hl (by decide) rfl (fun ls hl => ?_)
              refine lv_aload_n hx hb dX9_takeTurns_56 rfl (lv_at hl 4 rfl) ?_
              refine lv_aload_n hx hb dX9_takeTurns_57 rfl (lv_at hl 1 rfl) ?_
              refine lv_iload hx hb dX9_takeTurns_58 (lv_at hl 0 rfl) ?_
              refine lv_if_eq (tgt := 70) hx hb dX9_takeTurns_60 (by decide) (fun c_63 => absurd c_63 (by decide)) (fun _ => ?_)
              refine lv_aload_n hx hb dX9_takeTurns_63 rfl (lv_at hl 1 rfl) ?_
              have hFc := free_all hD hS hA
              refine W_msr2 (fun hm1 hm2 hm3 => ?_)
              refine va_calli (va_runS (As := [.ref (ad_2 (50 + 16 * x_1.toInt.toNat))]) (rest := [.ref (ad_2 (50 + 16 * x_1.toInt.toNat)), .ref (ad_2 0)]) ⟨hx, hb, hml, hown, hg⟩ (c_X9_standIn l dC dI kc ws_49 ad_2 ga_40 gc_41 M_5 n_43 f_44 T_8 G_46 K_10 F_11 (R + (6 - cT T_8 x_1.toInt.toNat)) x_1.toInt.toNat H.size (hpS H) hQ ⟨i1_52, i2_53, i3_54, i4_55, i5_56, i6_57, i7_58, i8_59, i9_60⟩ (by show x_1.toInt.toNat < M_5; omega)) (va_cwS 1 hg (gw_S gm_methodLink_RX9_292_yX9_standIn gm_static_yX9_standIn gm_initialized_RX9 gm_code_yX9_standIn_cX9_standIn_1_some_int_) rfl rfl rfl (by decide +kernel) ⟨Nat.le_of_ble_eq_true rfl, Nat.le_of_ble_eq_true rfl⟩) ⟨fun a U g mk q => by obtain ⟨q0, q1, q2, qP, qK, qD, qN⟩ := q; exact ⟨q0, q1, q2, qP, va_K.moved (u := U) (U := U.calling g mk a) (Vm.Alike.refl U.vm) qK, qD, nx_same (u := U) (U := U.calling g mk a) rfl qN⟩, fun U hU hW => ⟨rfl, by rw [hU], by rw [hU], by rw [hU]; exact hP, va_K.moved hW.alike hK, hD.weaken (fun _ _ _ _ => trivial), nx_warm hW hN⟩⟩ rfl rfl hl.1 rfl (lv_room (Nat.le_of_ble_eq_true rfl)) dX9_takeTurns_64 ⟨by show ce + 0 ≤ 84000; omega, by show se + 0 ≤ 2620000; omega⟩) hS (fun q _ h => hFc q h) hFc (fun r_64 u_65 t H1 locs ht hvm hw hB hz1 hk1 hS => ?_)
              obtain ⟨ad_66, ga_67, gc_68, M_69, n_70, f_71, T_72, G_73, K_74, F_75⟩ := u_65
              have hB : ∃ w : va_W, va_P (dC, dI) vwCl w t.heap ∧ va_D (va_A ws_49 H.size) w ∧ Pic9 kc w ad_2 ga_40 gc_41 M_5 n_43 f_44 T_8 G_73 K_10 F_11 ∧ I9 M_5 n_43 T_8 gc_41 G_73 K_10 (R + (6 - cT T_8 x_1.toInt.toNat)) ∧ hpS t.heap + (260 * M_5 + 2 * S9 M_5 gc_41) ≤ hpS H + (260 * M_5 + 2 * S9 M_5 gc_41) ∧ 16 * t.heap.size + (256 * M_5 + S9 M_5 gc_41) ≤ 16 * H.size + (256 * M_5 + S9 M_5 gc_41) := hB
              rw [ht] at hB
              obtain ⟨ws_76, hP, hD, hQ, hI_77, hy1, hy2⟩ := hB
              have hD := hD.weaken (fun k q _ h => hFc _ h)
              obtain ⟨i1_78, i2_79, i3_80, i4_81, i5_82, i6_83, i7_84, i8_85, i9_86⟩ := id hI_77
              have q1_ := i1_78
              unfold i1 at q1_
              have hSl := S9_le i8_85 i9_86
              have hb0_ := i8_85.2.1 0 (by omega)
              have hb1_ := i8_85.2.1 1 (by omega)
              have hb2_ := i8_85.2.1 2 (by omega)
              refine W_msr2 (fun hn1 hn2 hn3 => ?_)
              obtain ⟨ce2, se2, hk3, hk4, hr1, hr2⟩ : ∃ c2 s2 : Nat, H1.size ≤ s.heap.size + c2 ∧ hpS H1 ≤ hpS s.heap + s2 ∧ s2 + (260 * M + 2 * S9 M gc) ≤ (260 * M_5 + 2 * S9 M_5 gc_41) ∧ 16 * c2 + (256 * M + S9 M gc) ≤ (256 * M_5 + S9 M_5 gc_41) := ⟨H1.size - s.heap.size, hpS H1 - hpS s.heap, by omega, by omega, by have := hS.1; omega, by have := hS.1; omega⟩
              refine W_tightP hk3 hk4 ?_
              clear hm1 hm2 hm3 hn1 hn2 hn3 hk3 hk4
              clear hk1 hz1
              generalize ce2 = ce, se2 = se at hr1 hr2 ⊢
              generalize H1 = H at hP hS ⊢
              refine lv_goto (tgt := 75) hx hb dX9_takeTurns_67 (by decide) ?_
              have hFc := free_all hD hS hA
              refine W_msr2 (fun hm1 hm2 hm3 => ?_)
              refine va_callv (va_runV (As := [.ref (ad_2 (50 + 16 * x_1.toInt.toNat)), .int r_64]) (rest := []) ⟨hx, hb, hml, hown, hg⟩ (c_X9_closeTurn l dC dI kc ws_76 ad_2 ga_40 gc_41 M_5 n_43 f_44 T_8 G_73 K_10 F_11 (R + (6 - cT T_8 x_1.toInt.toNat)) x_1.toInt.toNat r_64 H.size (hpS H) hQ ⟨i1_78, i2_79, i3_80, i4_81, i5_82, i6_83, i7_84, i8_85, i9_86⟩ (by show x_1.toInt.toNat < M_5; omega) (by show (x_1.toInt.toNat : Int) < (n_43 0).toInt; omega) (by show (R + (6 - cT T_8 x_1.toInt.toNat)) ≤ 310000; omega)) (cwV 2 hg (gw_V gm_methodLink_RX9_299_yX9_closeTurn gm_instanceMethod_yX9_closeTurn gm_selects_RX9_yX9_closeTurn_yX9_closeTurn gm_initialized_RX9 gm_code_yX9_closeTurn_cX9_closeTurn_3_none) rfl rfl rfl (by decide +kernel) ⟨Nat.le_of_ble_eq_true rfl, Nat.le_of_ble_eq_true rfl⟩) ⟨fun a U g mk q => by obtain ⟨q0, q1, q2, qP, qK, qD, qN⟩ := q; exact ⟨q0, q1, q2, qP, va_K.moved (u := U) (U := U.calling g mk a) (Vm.Alike.refl U.vm) qK, qD, nx_same (u := U) (U := U.calling g mk a) rfl qN⟩, va_recv hK hP (ci := 9) (q0 := 0) rfl hQ.x0, fun U hU hW => ⟨rfl, by rw [hU], by rw [hU], by rw [hU]; exact hP, va_K.moved hW.alike hK, hD.weaken (fun _ _ _ _ => trivial), nx_warm hW hN⟩⟩ rfl rfl hl.1 rfl (lv_room (Nat.le_of_ble_eq_true rfl)) dX9_takeTurns_75 ⟨by show ce + 2400 ≤ 84000; omega, by show se + 84000 ≤ 2620000; omega⟩) hS (fun q _ h => hFc q h) hFc (fun u_89 t H1 locs ht hvm hw hB hz1 hk1 hS => ?_)
              obtain ⟨ad_90, ga_91, gc_92, M_93, n_94, f_95, T_96, G_97, K_98, F_99⟩ := u_89
              have hB : ∃ w : va_W, va_P (dC, dI) vwCl w t.heap ∧ va_D (va_A ws_76 H.size) w ∧ Pic9 kc w ad_2 ga_91 gc_92 M_5 n_94 f_95 T_96 G_97 K_10 F_99 ∧ I9 M_5 n_94 T_96 gc_92 G_97 K_10 (R + (6 - cT T_8 x_1.toInt.toNat)) ∧ hpS t.heap + (260 * M_5 + 2 * S9 M_5 gc_41) ≤ hpS H + (260 * M_5 + 2 * S9 M_5 gc_92) ∧ 16 * t.heap.size + (256 * M_5 + S9 M_5 gc_41) ≤ 16 * H.size + (256 * M_5 + S9 M_5 gc_92) ∧ (n_43 0).toInt ≤ (n_94 0).toInt := hB
              rw [ht] at hB
              obtain ⟨ws_100, hP, hD, hQ, hI_102, hy1, hy2, hn_101⟩ := hB
              have hD := hD.weaken (fun k q _ h => hFc _ h)
              obtain ⟨i1_103, i2_104, i3_105, i4_106, i5_107, i6_108, i7_109, i8_110, i9_111⟩ := id hI_102
              have q1_ := i1_103
              unfold i1 at q1_
              have hSl := S9_le i8_110 i9_111
              have hb0_ := i8_110.2.1 0 (by omega)
              have hb1_ := i8_110.2.1 1 (by omega)
              have hb2_ := i8_110.2.1 2 (by omega)
              refine W_msr2 (fun hn1 hn2 hn3 => ?_)
              obtain ⟨ce2, se2, hk3, hk4, hr1, hr2⟩ : ∃ c2 s2 : Nat, H1.size ≤ s.heap.size + c2 ∧ hpS H1 ≤ hpS s.heap + s2 ∧ s2 + (260 * M + 2 * S9 M gc) ≤ (260 * M_5 + 2 * S9 M_5 gc_92) ∧ 16 * c2 + (256 * M + S9 M gc) ≤ (256 * M_5 + S9 M_5 gc_92) := ⟨H1.size - s.heap.size, hpS H1 - hpS s.heap, by omega, by omega, by have := hS.1; omega, by have := hS.1; omega⟩
              refine W_tightP hk3 hk4 ?_
              clear hm1 hm2 hm3 hn1 hn2 hn3 hk3 hk4
              clear hk1 hz1
              generalize ce2 = ce, se2 = se at hr1 hr2 ⊢
              generalize H1 = H at hP hS ⊢
              have w_112 : S9 M_5 gc_92 + gc_41 1 ≤ S9 M_5 gc_41 + gc_92 1 ∧ (n_94 0).toInt = (n_43 0).toInt ∧ (∀ t : Nat, T_96 t = T_8 t ∨ T_96 t = none) := hw
              obtain ⟨y_113, ey_113⟩ : ∃ q : Int32, q = x_1 + (1) := ⟨_, rfl⟩
              refine lv_iinc (v := y_113) (lv' := [(2, .int y_113), (4, .int 1), (3, .ref (ad_2 (50 + 16 * x_1.toInt.toNat))), (1, .int (n 0)), (0, .ref (ad_2 0))]) hx hb dX9_takeTurns_78 hl (k := 2) rfl (by rw [ey_113]; rfl) (by decide) rfl (fun ls hl => ?_)
              have ty_113 : y_113.toInt = x_1.toInt + (1) := ar_add rfl ti_1 ey_113 (by omega)
              have hy_ : y_113.toInt.toNat = x_1.toInt.toNat + 1 := by omega
              have hc1_ := cT_own T_8 hy_ (by omega) h6_36
              have hc2_ := cT_off (T := T_8) (T2 := T_96) w_112.2.2 y_113.toInt.toNat
              refine lv_goto (tgt := 7) hx hb dX9_takeTurns_81 (by decide) ?_
              exact ih_18 y_113   ws_100 ad_2 ga_91 gc_92 M_5 n_94 f_95 T_96 G_97 K_10 F_99 ce se H locs ls (by show (201 - y_113.toInt).toNat < _; omega) (by show 0 ≤ y_113.toInt ∧ y_113.toInt ≤ 200; omega) (by show (n 0).toInt ≤ (n_94 0).toInt; omega) (by show M ≤ M_5; omega) hE0 hQ (I9.mono (R := (R + (6 - cT T_8 x_1.toInt.toNat))) ⟨i1_103, i2_104, i3_105, i4_106, i5_107, i6_108, i7_109, i8_110, i9_111⟩ (by omega)) hr1 hr2 hP hD hS (lv_sub hl [0, 3, 4] rfl)
            · simp only [i_lt, i_le, i_eq, ti_0] at c_62
              refine lv_aload_n hx hb dX9_takeTurns_42 rfl (lv_at hl 0 rfl) ?_
              refine va_get (D := (dC, dI)) (ci := 7) (v := .int (G_46 x_1.toInt.toNat 9)) (C := RX7) (T := TX7) (N := 15) hx hb hg gb_7 hown hK hP (50 + 16 * x_1.toInt.toNat) (hQ.b0 hl_33) rfl 9 (by decide) (hg _ gm_fieldLink_RX9_289_ErrandGuild_Run_returning_Z_) (fun _ h9 => h9) rfl dX9_takeTurns_43 ?_
              refine lv_if_eq (tgt := 53) hx hb dX9_takeTurns_46 (by decide) (fun c_114 => ?_) (fun c_114 => ?_)
              · simp only [i_lt, i_le, i_eq, ti_0] at c_114
                refine lv_iconst (v := 0) hx hb dX9_takeTurns_53 (by decide) ?_
                refine lv_istore (lv' := [(4, .int 0), (3, .ref (ad_2 (50 + 16 * x_1.toInt.toNat))), (2, .int x_1), (1, .int (n 0)), (0, .ref (ad_2 0))]) hx hb dX9_takeTurns_54 hl (by decide) rfl (fun ls hl => ?_)
                refine lv_aload_n hx hb dX9_takeTurns_56 rfl (lv_at hl 4 rfl) ?_
                refine lv_aload_n hx hb dX9_takeTurns_57 rfl (lv_at hl 1 rfl) ?_
                refine lv_iload hx hb dX9_takeTurns_58 (lv_at hl 0 rfl) ?_
                refine lv_if_eq (tgt := 70) hx hb dX9_takeTurns_60 (by decide) (fun _ => ?_) (fun c_115 => absurd c_115 (by decide))
                refine lv_aload_n hx hb dX9_takeTurns_70 rfl (lv_at hl 4 rfl) ?_
                refine lv_aload_n hx hb dX9_takeTurns_71 rfl (lv_at hl 1 rfl) ?_
                have hFc := free_all hD hS hA
                refine W_msr2 (fun hm1 hm2 hm3 => ?_)
                refine va_calli (va_runV (As := [.ref (ad_2 (50 + 16 * x_1.toInt.toNat))]) (rest := [.ref (ad_2 (50 + 16 * x_1.toInt.toNat)), .ref (ad_2 0)]) ⟨hx, hb, hml, hown, hg⟩ (c_X9_doStep l dC dI kc ws_49 ad_2 ga_40 gc_41 M_5 n_43 f_44 T_8 G_46 K_10 F_11 (R + (6 - cT T_8 x_1.toInt.toNat)) x_1.toInt.toNat H.size (hpS H) hQ ⟨i1_52, i2_53, i3_54, i4_55, i5_56, i6_57, i7_58, i8_59, i9_60⟩ (by show x_1.toInt.toNat < M_5; omega) (by show (x_1.toInt.toNat : Int) < (n_43 0).toInt; omega) (by show (R + (6 - cT T_8 x_1.toInt.toNat)) + 1 ≤ 310000; omega)) (cwV 1 hg (gw_V gm_methodLink_RX9_296_yX9_doStep gm_instanceMethod_yX9_doStep gm_selects_RX9_yX9_doStep_yX9_doStep gm_initialized_RX9 gm_code_yX9_doStep_cX9_doStep_6_some_int_) rfl rfl rfl (by decide +kernel) ⟨Nat.le_of_ble_eq_true rfl, Nat.le_of_ble_eq_true rfl⟩) ⟨fun a U g mk q => by obtain ⟨q0, q1, q2, qP, qK, qD, qN⟩ := q; exact ⟨q0, q1, q2, qP, va_K.moved (u := U) (U := U.calling g mk a) (Vm.Alike.refl U.vm) qK, qD, nx_same (u := U) (U := U.calling g mk a) rfl qN⟩, va_recv hK hP (ci := 9) (q0 := 0) rfl hQ.x0, fun U hU hW => ⟨rfl, by rw [hU], by rw [hU], by rw [hU]; exact hP, va_K.moved hW.alike hK, hD.weaken (fun _ _ _ _ => trivial), nx_warm hW hN⟩⟩ rfl rfl hl.1 rfl (lv_room (Nat.le_of_ble_eq_true rfl)) dX9_takeTurns_72 ⟨by show ce + 40000 ≤ 84000; omega, by show se + 1250000 ≤ 2620000; omega⟩) hS (fun q _ h => hFc q h) hFc (fun r_116 u_117 t H1 locs ht hvm hw hB hz1 hk1 hS => ?_)
                obtain ⟨ad_118, ga_119, gc_120, M_121, n_122, f_123, T_124, G_125, K_126, F_127⟩ := u_117
                have hB : ∃ w : va_W, va_P (dC, dI) vwCl w t.heap ∧ va_D (va_A ws_49 H.size) w ∧ Pic9 kc w ad_118 ga_119 gc_120 M_121 n_122 f_123 T_8 G_125 K_126 F_127 ∧ I9 M_121 n_122 T_8 gc_120 G_125 K_126 ((R + (6 - cT T_8 x_1.toInt.toNat)) + 1) ∧ hpS t.heap + (260 * M_5 + 2 * S9 M_5 gc_41) ≤ hpS H + (260 * M_121 + 2 * S9 M_121 gc_120) ∧ 16 * t.heap.size + (256 * M_5 + S9 M_5 gc_41) ≤ 16 * H.size + (256 * M_121 + S9 M_121 gc_120) ∧ (n_43 0).toInt ≤ (n_122 0).toInt ∧ (∀ q : Nat, q < 50 + 16 * M_5 → ad_118 q = ad_2 q) ∧ M_5 ≤ M_121 := hB
                rw [ht] at hB
                obtain ⟨ws_128, hP, hD, hQ, hI_132, hy1, hy2, hn_129, hE_130, hM_131⟩ := hB
                have hD := hD.weaken (fun k q _ h => hFc _ h)
                obtain ⟨i1_133, i2_134, i3_135, i4_136, i5_137, i6_138, i7_139, i8_140, i9_141⟩ := id hI_132
                have hl_142 : x_1.toInt.toNat < M_121 := by omega
                have q1_ := i1_133
                unfold i1 at q1_
                have hSl := S9_le i8_140 i9_141
                have hb0_ := i8_140.2.1 0 (by omega)
                have hb1_ := i8_140.2.1 1 (by omega)
                have hb2_ := i8_140.2.1 2 (by omega)
                refine W_msr2 (fun hn1 hn2 hn3 => ?_)
                obtain ⟨ce2, se2, hk3, hk4, hr1, hr2⟩ : ∃ c2 s2 : Nat, H1.size ≤ s.heap.size + c2 ∧ hpS H1 ≤ hpS s.heap + s2 ∧ s2 + (260 * M + 2 * S9 M gc) ≤ (260 * M_121 + 2 * S9 M_121 gc_120) ∧ 16 * c2 + (256 * M + S9 M gc) ≤ (256 * M_121 + S9 M_121 gc_120) := ⟨H1.size - s.heap.size, hpS H1 - hpS s.heap, by omega, by omega, by have := hS.1; omega, by have := hS.1; omega⟩
                refine W_tightP hk3 hk4 ?_
                clear hm1 hm2 hm3 hn1 hn2 hn3 hk3 hk4
                clear hk1 hz1
                generalize ce2 = ce, se2 = se at hr1 hr2 ⊢
                generalize H1 = H at hP hS ⊢
                have hE_143 : ∀ q : Nat, q < 50 + 16 * M → ad_118 q = ad q := fun q hq => (hE_130 q (by omega)).trans (hE0 q hq)
                have hl : lv_has ls 5 [(4, .int 0), (3, .ref (ad_118 (50 + 16 * x_1.toInt.toNat))), (2, .int x_1), (1, .int (n 0)), (0, .ref (ad_118 0))] := by rw [hE_130 (50 + 16 * x_1.toInt.toNat) (by omega), hE_130 0 (by omega)]; exact hl
                refine W.eq (g2 := F0 m 75 ls [.int r_116, .ref (ad_118 (50 + 16 * x_1.toInt.toNat)), .ref (ad_118 0)]) (by first | rfl | (simp only [hE_130 (50 + 16 * x_1.toInt.toNat) (by omega), hE_130 0 (by omega)]))  ?_
                have hFc := free_all hD hS hA
                refine W_msr2 (fun hm1 hm2 hm3 => ?_)
                refine va_callv (va_runV (As := [.ref (ad_118 (50 + 16 * x_1.toInt.toNat)), .int r_116]) (rest := []) ⟨hx, hb, hml, hown, hg⟩ (c_X9_closeTurn l dC dI kc ws_128 ad_118 ga_119 gc_120 M_121 n_122 f_123 T_8 G_125 K_126 F_127 ((R + (6 - cT T_8 x_1.toInt.toNat)) + 1) x_1.toInt.toNat r_116 H.size (hpS H) hQ ⟨i1_133, i2_134, i3_135, i4_136, i5_137, i6_138, i7_139, i8_140, i9_141⟩ (by show x_1.toInt.toNat < M_121; omega) (by show (x_1.toInt.toNat : Int) < (n_122 0).toInt; omega) (by show ((R + (6 - cT T_8 x_1.toInt.toNat)) + 1) ≤ 310000; omega)) (cwV 2 hg (gw_V gm_methodLink_RX9_299_yX9_closeTurn gm_instanceMethod_yX9_closeTurn gm_selects_RX9_yX9_closeTurn_yX9_closeTurn gm_initialized_RX9 gm_code_yX9_closeTurn_cX9_closeTurn_3_none) rfl rfl rfl (by decide +kernel) ⟨Nat.le_of_ble_eq_true rfl, Nat.le_of_ble_eq_true rfl⟩) ⟨fun a U g mk q => by obtain ⟨q0, q1, q2, qP, qK, qD, qN⟩ := q; exact ⟨q0, q1, q2, qP, va_K.moved (u := U) (U := U.calling g mk a) (Vm.Alike.refl U.vm) qK, qD, nx_same (u := U) (U := U.calling g mk a) rfl qN⟩, va_recv hK hP (ci := 9) (q0 := 0) rfl hQ.x0, fun U hU hW => ⟨rfl, by rw [hU], by rw [hU], by rw [hU]; exact hP, va_K.moved hW.alike hK, hD.weaken (fun _ _ _ _ => trivial), nx_warm hW hN⟩⟩ rfl rfl hl.1 rfl (lv_room (Nat.le_of_ble_eq_true rfl)) dX9_takeTurns_75 ⟨by show ce + 2400 ≤ 84000; omega, by show se + 84000 ≤ 2620000; omega⟩) hS (fun q _ h => hFc q h) hFc (fun u_146 t H1 locs ht hvm hw hB hz1 hk1 hS => ?_)
                obtain ⟨ad_147, ga_148, gc_149, M_150, n_151, f_152, T_153, G_154, K_155, F_156⟩ := u_146
                have hB : ∃ w : va_W, va_P (dC, dI) vwCl w t.heap ∧ va_D (va_A ws_128 H.size) w ∧ Pic9 kc w ad_118 ga_148 gc_149 M_121 n_151 f_152 T_153 G_154 K_126 F_156 ∧ I9 M_121 n_151 T_153 gc_149 G_154 K_126 ((R + (6 - cT T_8 x_1.toInt.toNat)) + 1) ∧ hpS t.heap + (260 * M_121 + 2 * S9 M_121 gc_120) ≤ hpS H + (260 * M_121 + 2 * S9 M_121 gc_149) ∧ 16 * t.heap.size + (256 * M_121 + S9 M_121 gc_120) ≤ 16 * H.size + (256 * M_121 + S9 M_121 gc_149) ∧ (n_122 0).toInt ≤ (n_151 0).toInt := hB
                rw [ht] at hB
                obtain ⟨ws_157, hP, hD, hQ, hI_159, hy1, hy2, hn_158⟩ := hB
                have hD := hD.weaken (fun k q _ h => hFc _ h)
                obtain ⟨i1_160, i2_161, i3_162, i4_163, i5_164, i6_165, i7_166, i8_167, i9_168⟩ := id hI_159
                have q1_ := i1_160
                unfold i1 at q1_
                have hSl := S9_le i8_167 i9_168
                have hb0_ := i8_167.2.1 0 (by omega)
                have hb1_ := i8_167.2.1 1 (by omega)
                have hb2_ := i8_167.2.1 2 (by omega)
                refine W_msr2 (fun hn1 hn2 hn3 => ?_)
                obtain ⟨ce2, se2, hk3, hk4, hr1, hr2⟩ : ∃ c2 s2 : Nat, H1.size ≤ s.heap.size + c2 ∧ hpS H1 ≤ hpS s.heap + s2 ∧ s2 + (260 * M + 2 * S9 M gc) ≤ (260 * M_121 + 2 * S9 M_121 gc_149) ∧ 16 * c2 + (256 * M + S9 M gc) ≤ (256 * M_121 + S9 M_121 gc_149) := ⟨H1.size - s.heap.size, hpS H1 - hpS s.heap, by omega, by omega, by have := hS.1; omega, by have := hS.1; omega⟩
                refine W_tightP hk3 hk4 ?_
                clear hm1 hm2 hm3 hn1 hn2 hn3 hk3 hk4
                clear hk1 hz1
                generalize ce2 = ce, se2 = se at hr1 hr2 ⊢
                generalize H1 = H at hP hS ⊢
                have w_169 : S9 M_121 gc_149 + gc_120 1 ≤ S9 M_121 gc_120 + gc_149 1 ∧ (n_151 0).toInt = (n_122 0).toInt ∧ (∀ t : Nat, T_153 t = T_8 t ∨ T_153 t = none) := hw
                obtain ⟨y_170, ey_170⟩ : ∃ q : Int32, q = x_1 + (1) := ⟨_, rfl⟩
                refine lv_iinc (v := y_170) (lv' := [(2, .int y_170), (4, .int 0), (3, .ref (ad_118 (50 + 16 * x_1.toInt.toNat))), (1, .int (n 0)), (0, .ref (ad_118 0))]) hx hb dX9_takeTurns_78 hl (k := 2) rfl (by rw [ey_170]; rfl) (by decide) rfl (fun ls hl => ?_)
                have ty_170 : y_170.toInt = x_1.toInt + (1) := ar_add rfl ti_1 ey_170 (by omega)
                have hy_ : y_170.toInt.toNat = x_1.toInt.toNat + 1 := by omega
                have hc1_ := cT_own T_8 hy_ (by omega) h6_36
                have hc2_ := cT_off (T := T_8) (T2 := T_153) w_169.2.2 y_170.toInt.toNat
                refine lv_goto (tgt := 7) hx hb dX9_takeTurns_81 (by decide) ?_
                exact ih_18 y_170   ws_157 ad_118 ga_148 gc_149 M_121 n_151 f_152 T_153 G_154 K_126 F_156 ce se H locs ls (by show (201 - y_170.toInt).toNat < _; omega) (by show 0 ≤ y_170.toInt ∧ y_170.toInt ≤ 200; omega) (by show (n 0).toInt ≤ (n_151 0).toInt; omega) (by show M ≤ M_121; omega) hE_143 hQ (I9.mono (R := ((R + (6 - cT T_8 x_1.toInt.toNat)) + 1)) ⟨i1_160, i2_161, i3_162, i4_163, i5_164, i6_165, i7_166, i8_167, i9_168⟩ (by omega)) hr1 hr2 hP hD hS (lv_sub hl [0, 3, 4] rfl)
              · simp only [i_lt, i_le, i_eq, ti_0] at c_114
                refine lv_iconst (v := 1) hx hb dX9_takeTurns_49 (by decide) ?_
                refine lv_goto (tgt := 54) hx hb dX9_takeTurns_50 (by decide) ?_
                refine lv_istore (lv' := [(4, .int 1), (3, .ref (ad_2 (50 + 16 * x_1.toInt.toNat))), (2, .int x_1), (1, .int (n 0)), (0, .ref (ad_2 0))]) hx hb dX9_takeTurns_54 hl (by decide) rfl (fun ls hl => ?_)
                refine lv_aload_n hx hb dX9_takeTurns_56 rfl (lv_at hl 4 rfl) ?_
                refine lv_aload_n hx hb dX9_takeTurns_57 rfl (lv_at hl 1 rfl) ?_
                refine lv_iload hx hb dX9_takeTurns_58 (lv_at hl 0 rfl) ?_
                refine lv_if_eq (tgt := 70) hx hb dX9_takeTurns_60 (by decide) (fun c_171 => absurd c_171 (by decide)) (fun _ => ?_)
                refine lv_aload_n hx hb dX9_takeTurns_63 rfl (lv_at hl 1 rfl) ?_
                have hFc := free_all hD hS hA
                refine W_msr2 (fun hm1 hm2 hm3 => ?_)
                refine va_calli (va_runS (As := [.ref (ad_2 (50 + 16 * x_1.toInt.toNat))]) (rest := [.ref (ad_2 (50 + 16 * x_1.toInt.toNat)), .ref (ad_2 0)]) ⟨hx, hb, hml, hown, hg⟩ (c_X9_standIn l dC dI kc ws_49 ad_2 ga_40 gc_41 M_5 n_43 f_44 T_8 G_46 K_10 F_11 (R + (6 - cT T_8 x_1.toInt.toNat)) x_1.toInt.toNat H.size (hpS H) hQ ⟨i1_52, i2_53, i3_54, i4_55, i5_56, i6_57, i7_58, i8_59, i9_60⟩ (by show x_1.toInt.toNat < M_5; omega)) (va_cwS 1 hg (gw_S gm_methodLink_RX9_292_yX9_standIn gm_static_yX9_standIn gm_initialized_RX9 gm_code_yX9_standIn_cX9_standIn_1_some_int_) rfl rfl rfl (by decide +kernel) ⟨Nat.le_of_ble_eq_true rfl, Nat.le_of_ble_eq_true rfl⟩) ⟨fun a U g mk q => by obtain ⟨q0, q1, q2, qP, qK, qD, qN⟩ := q; exact ⟨q0, q1, q2, qP, va_K.moved (u := U) (U := U.calling g mk a) (Vm.Alike.refl U.vm) qK, qD, nx_same (u := U) (U := U.calling g mk a) rfl qN⟩, fun U hU hW => ⟨rfl, by rw [hU], by rw [hU], by rw [hU]; exact hP, va_K.moved hW.alike hK, hD.weaken (fun _ _ _ _ => trivial), nx_warm hW hN⟩⟩ rfl rfl hl.1 rfl (lv_room (Nat.le_of_ble_eq_true rfl)) dX9_takeTurns_64 ⟨by show ce + 0 ≤ 84000; omega, by show se + 0 ≤ 2620000; omega⟩) hS (fun q _ h => hFc q h) hFc (fun r_172 u_173 t H1 locs ht hvm hw hB hz1 hk1 hS => ?_)
                obtain ⟨ad_174, ga_175, gc_176, M_177, n_178, f_179, T_180, G_181, K_182, F_183⟩ := u_173
                have hB : ∃ w : va_W, va_P (dC, dI) vwCl w t.heap ∧ va_D (va_A ws_49 H.size) w ∧ Pic9 kc w ad_2 ga_40 gc_41 M_5 n_43 f_44 T_8 G_181 K_10 F_11 ∧ I9 M_5 n_43 T_8 gc_41 G_181 K_10 (R + (6 - cT T_8 x_1.toInt.toNat)) ∧ hpS t.heap + (260 * M_5 + 2 * S9 M_5 gc_41) ≤ hpS H + (260 * M_5 + 2 * S9 M_5 gc_41) ∧ 16 * t.heap.size + (256 * M_5 + S9 M_5 gc_41) ≤ 16 * H.size + (256 * M_5 + S9 M_5 gc_41) := hB
                rw [ht] at hB
                obtain ⟨ws_184, hP, hD, hQ, hI_185, hy1, hy2⟩ := hB
                have hD := hD.weaken (fun k q _ h => hFc _ h)
                obtain ⟨i1_186, i2_187, i3_188, i4_189, i5_190, i6_191, i7_192, i8_193, i9_194⟩ := id hI_185
                have q1_ := i1_186
                unfold i1 at q1_
                have hSl := S9_le i8_193 i9_194
                have hb0_ := i8_193.2.1 0 (by omega)
                have hb1_ := i8_193.2.1 1 (by omega)
                have hb2_ := i8_193.2.1 2 (by omega)
                refine W_msr2 (fun hn1 hn2 hn3 => ?_)
                obtain ⟨ce2, se2, hk3, hk4, hr1, hr2⟩ : ∃ c2 s2 : Nat, H1.size ≤ s.heap.size + c2 ∧ hpS H1 ≤ hpS s.heap + s2 ∧ s2 + (260 * M + 2 * S9 M gc) ≤ (260 * M_5 + 2 * S9 M_5 gc_41) ∧ 16 * c2 + (256 * M + S9 M gc) ≤ (256 * M_5 + S9 M_5 gc_41) := ⟨H1.size - s.heap.size, hpS H1 - hpS s.heap, by omega, by omega, by have := hS.1; omega, by have := hS.1; omega⟩
                refine W_tightP hk3 hk4 ?_
                clear hm1 hm2 hm3 hn1 hn2 hn3 hk3 hk4
                clear hk1 hz1
                generalize ce2 = ce, se2 = se at hr1 hr2 ⊢
                generalize H1 = H at hP hS ⊢
                refine lv_goto (tgt := 75) hx hb dX9_takeTurns_67 (by decide) ?_
                have hFc := free_all hD hS hA
                refine W_msr2 (fun hm1 hm2 hm3 => ?_)
                refine va_callv (va_runV (As := [.ref (ad_2 (50 + 16 * x_1.toInt.toNat)), .int r_172]) (rest := []) ⟨hx, hb, hml, hown, hg⟩ (c_X9_closeTurn l dC dI kc ws_184 ad_2 ga_40 gc_41 M_5 n_43 f_44 T_8 G_181 K_10 F_11 (R + (6 - cT T_8 x_1.toInt.toNat)) x_1.toInt.toNat r_172 H.size (hpS H) hQ ⟨i1_186, i2_187, i3_188, i4_189, i5_190, i6_191, i7_192, i8_193, i9_194⟩ (by show x_1.toInt.toNat < M_5; omega) (by show (x_1.toInt.toNat : Int) < (n_43 0).toInt; omega) (by show (R + (6 - cT T_8 x_1.toInt.toNat)) ≤ 310000; omega)) (cwV 2 hg (gw_V gm_methodLink_RX9_299_yX9_closeTurn gm_instanceMethod_yX9_closeTurn gm_selects_RX9_yX9_closeTurn_yX9_closeTurn gm_initialized_RX9 gm_code_yX9_closeTurn_cX9_closeTurn_3_none) rfl rfl rfl (by decide +kernel) ⟨Nat.le_of_ble_eq_true rfl, Nat.le_of_ble_eq_true rfl⟩) ⟨fun a U g mk q => by obtain ⟨q0, q1, q2, qP, qK, qD, qN⟩ := q; exact ⟨q0, q1, q2, qP, va_K.moved (u := U) (U := U.calling g mk a) (Vm.Alike.refl U.vm) qK, qD, nx_same (u := U) (U := U.calling g mk a) rfl qN⟩, va_recv hK hP (ci := 9) (q0 := 0) rfl hQ.x0, fun U hU hW => ⟨rfl, by rw [hU], by rw [hU], by rw [hU]; exact hP, va_K.moved hW.alike hK, hD.weaken (fun _ _ _ _ => trivial), nx_warm hW hN⟩⟩ rfl rfl hl.1 rfl (lv_room (Nat.le_of_ble_eq_true rfl)) dX9_takeTurns_75 ⟨by show ce + 2400 ≤ 84000; omega, by show se + 84000 ≤ 2620000; omega⟩) hS (fun q _ h => hFc q h) hFc (fun u_197 t H1 locs ht hvm hw hB hz1 hk1 hS => ?_)
                obtain ⟨ad_198, ga_199, gc_200, M_201, n_202, f_203, T_204, G_205, K_206, F_207⟩ := u_197
                have hB : ∃ w : va_W, va_P (dC, dI) vwCl w t.heap ∧ va_D (va_A ws_184 H.size) w ∧ Pic9 kc w ad_2 ga_199 gc_200 M_5 n_202 f_203 T_204 G_205 K_10 F_207 ∧ I9 M_5 n_202 T_204 gc_200 G_205 K_10 (R + (6 - cT T_8 x_1.toInt.toNat)) ∧ hpS t.heap + (260 * M_5 + 2 * S9 M_5 gc_41) ≤ hpS H + (260 * M_5 + 2 * S9 M_5 gc_200) ∧ 16 * t.heap.size + (256 * M_5 + S9 M_5 gc_41) ≤ 16 * H.size + (256 * M_5 + S9 M_5 gc_200) ∧ (n_43 0).toInt ≤ (n_202 0).toInt := hB
                rw [ht] at hB
                obtain ⟨ws_208, hP, hD, hQ, hI_210, hy1, hy2, hn_209⟩ := hB
                have hD := hD.weaken (fun k q _ h => hFc _ h)
                obtain ⟨i1_211, i2_212, i3_213, i4_214, i5_215, i6_216, i7_217, i8_218, i9_219⟩ := id hI_210
                have q1_ := i1_211
                unfold i1 at q1_
                have hSl := S9_le i8_218 i9_219
                have hb0_ := i8_218.2.1 0 (by omega)
                have hb1_ := i8_218.2.1 1 (by omega)
                have hb2_ := i8_218.2.1 2 (by omega)
                refine W_msr2 (fun hn1 hn2 hn3 => ?_)
                obtain ⟨ce2, se2, hk3, hk4, hr1, hr2⟩ : ∃ c2 s2 : Nat, H1.size ≤ s.heap.size + c2 ∧ hpS H1 ≤ hpS s.heap + s2 ∧ s2 + (260 * M + 2 * S9 M gc) ≤ (260 * M_5 + 2 * S9 M_5 gc_200) ∧ 16 * c2 + (256 * M + S9 M gc) ≤ (256 * M_5 + S9 M_5 gc_200) := ⟨H1.size - s.heap.size, hpS H1 - hpS s.heap, by omega, by omega, by have := hS.1; omega, by have := hS.1; omega⟩
                refine W_tightP hk3 hk4 ?_
                clear hm1 hm2 hm3 hn1 hn2 hn3 hk3 hk4
                clear hk1 hz1
                generalize ce2 = ce, se2 = se at hr1 hr2 ⊢
                generalize H1 = H at hP hS ⊢
                have w_220 : S9 M_5 gc_200 + gc_41 1 ≤ S9 M_5 gc_41 + gc_200 1 ∧ (n_202 0).toInt = (n_43 0).toInt ∧ (∀ t : Nat, T_204 t = T_8 t ∨ T_204 t = none) := hw
                obtain ⟨y_221, ey_221⟩ : ∃ q : Int32, q = x_1 + (1) := ⟨_, rfl⟩
                refine lv_iinc (v := y_221) (lv' := [(2, .int y_221), (4, .int 1), (3, .ref (ad_2 (50 + 16 * x_1.toInt.toNat))), (1, .int (n 0)), (0, .ref (ad_2 0))]) hx hb dX9_takeTurns_78 hl (k := 2) rfl (by rw [ey_221]; rfl) (by decide) rfl (fun ls hl => ?_)
                have ty_221 : y_221.toInt = x_1.toInt + (1) := ar_add rfl ti_1 ey_221 (by omega)
                have hy_ : y_221.toInt.toNat = x_1.toInt.toNat + 1 := by omega
                have hc1_ := cT_own T_8 hy_ (by omega) h6_36
                have hc2_ := cT_off (T := T_8) (T2 := T_204) w_220.2.2 y_221.toInt.toNat
                refine lv_goto (tgt := 7) hx hb dX9_takeTurns_81 (by decide) ?_
                exact ih_18 y_221   ws_208 ad_2 ga_199 gc_200 M_5 n_202 f_203 T_204 G_205 K_10 F_207 ce se H locs ls (by show (201 - y_221.toInt).toNat < _; omega) (by show 0 ≤ y_221.toInt ∧ y_221.toInt ≤ 200; omega) (by show (n 0).toInt ≤ (n_202 0).toInt; omega) (by show M ≤ M_5; omega) hE0 hQ (I9.mono (R := (R + (6 - cT T_8 x_1.toInt.toNat))) ⟨i1_211, i2_212, i3_213, i4_214, i5_215, i6_216, i7_217, i8_218, i9_219⟩ (by omega)) hr1 hr2 hP hD hS (lv_sub hl [0, 3, 4] rfl)
        · have w_32 : ¬ (0 ≤ x_1.toInt ∧ x_1.toInt < (n_6 0).toInt) := w_32
          refine W.eq (g2 := F0 m 17 ls [.null]) rfl ?_
          refine lv_astore_nN (lv' := [(3, .null), (2, .int x_1), (1, .int (n 0)), (0, .ref (ad_2 0))]) hx hb dX9_takeTurns_17 rfl hl (by decide) rfl (fun ls hl => ?_)
          refine lv_aload_nN hx hb dX9_takeTurns_18 rfl (lv_at hl 0 rfl) ?_
          refine lv_ifnullN (tgt := 78) hx hb dX9_takeTurns_19 (by decide) ?_
          obtain ⟨y_222, ey_222⟩ : ∃ q : Int32, q = x_1 + (1) := ⟨_, rfl⟩
          refine lv_iinc (v := y_222) (lv' := [(2, .int y_222), (3, .null), (1, .int (n 0)), (0, .ref (ad_2 0))]) hx hb dX9_takeTurns_78 hl (k := 1) rfl (by rw [ey_222]; rfl) (by decide) rfl (fun ls hl => ?_)
          have ty_222 : y_222.toInt = x_1.toInt + (1) := ar_add rfl ti_1 ey_222 (by omega)
          have hy_ : y_222.toInt.toNat = x_1.toInt.toNat + 1 := by omega
          have hc1_ := cT_up T_8 hy_
          refine lv_goto (tgt := 7) hx hb dX9_takeTurns_81 (by decide) ?_
          exact ih_18 y_222   ws_12 ad_2 ga_3 gc_4 M_5 n_6 f_7 T_8 G_9 K_10 F_11 ce se H locs ls (by show (201 - y_222.toInt).toNat < _; omega) (by show 0 ≤ y_222.toInt ∧ y_222.toInt ≤ 200; omega) (by show (n 0).toInt ≤ (n_6 0).toInt; omega) (by show M ≤ M_5; omega) hE0 hQ (I9.mono (R := R + (6 - cT T_8 x_1.toInt.toNat)) ⟨i1_20, i2_21, i3_22, i4_23, i5_24, i6_25, i7_26, i8_27, i9_28⟩ (by omega)) hr1 hr2 hP hD hS (lv_sub hl [0, 2, 3] rfl)
  exact L7 _ (0 : Int32)   ws ad ga gc M n f T G K F ce se _ _ _ (Nat.lt_succ_self _) (by have t_0 := ti_0; show 0 ≤ (0 : Int32).toInt ∧ (0 : Int32).toInt ≤ 200; omega) (by have t_0 := ti_0; show (n 0).toInt ≤ (n 0).toInt; omega) (by have t_0 := ti_0; show M ≤ M; omega) (fun _ _ => rfl) hQ (I9.mono (R := R) ⟨h_i1, h_i2, h_i3, h_i4, h_i5, h_i6, h_i7, h_i8, h_i9⟩ (by have t_0 := ti_0; omega)) hr1 hr2 hP hD hS (lv_sub hl [0, 1, 2] rfl)

set_option maxHeartbeats 8000000 in
set_option maxRecDepth 100000 in
theorem c_X9_beat (l : Launch) (dC : Nat → ClassId) (dI : Nat → Nat → Nat) (kc : Nat → ClassId) (ws : va_W) (ad : Nat → Nat) (ga : Nat → Nat) (gc : Nat → Nat) (M : Nat) (n : Nat → Int32) (f : Nat → Nat → Int32) (T : Nat → Option Nat) (G : Nat → Nat → Int32) (K : Nat → Nat → Option Nat) (F : Nat → Nat → Nat → Int32) (R : Nat) (v1 : Int32) (sz hz : Nat) (hQ : Pic9 kc ws ad ga gc M n f T G K F) (hI : I9 M n T gc G K R) (hR : R + 600 ≤ 310000) : Met l yX9_beat (.code yX9_beat cX9_beat 3 (some .int) :: gw) ({ frames := 7, cells := 128000, slots := 3990000, locals := 222 }) (va_Pc [.ref (ad 0), .int v1] (fun U => U.heap.size = sz ∧ hpS U.heap = hz ∧ va_P (dC, dI) vwCl ws U.heap ∧ va_K (dC, dI) vwCl (t9 kc) U ∧ va_D (fun _ => True) ws ∧ nx U)) (va_Qi (fun (r : Int32) (u : (Nat → Nat) × (Nat → Nat) × (Nat → Nat) × Nat × (Nat → Int32) × (Nat → Nat → Int32) × (Nat → Option Nat) × (Nat → Nat → Int32) × (Nat → Nat → Option Nat) × (Nat → Nat → Nat → Int32)) => ((n 0).toInt = 0 → (u.2.2.2.2.1 0).toInt = 0)) (fun u t => ∃ w : va_W, va_P (dC, dI) vwCl w t.heap ∧ va_D (va_A ws sz) w ∧ Pic9 kc w u.1 u.2.1 u.2.2.1 u.2.2.2.1 u.2.2.2.2.1 u.2.2.2.2.2.1 u.2.2.2.2.2.2.1 u.2.2.2.2.2.2.2.1 u.2.2.2.2.2.2.2.2.1 u.2.2.2.2.2.2.2.2.2 ∧ I9 u.2.2.2.1 u.2.2.2.2.1 u.2.2.2.2.2.2.1 u.2.2.1 u.2.2.2.2.2.2.2.1 u.2.2.2.2.2.2.2.2.1 (R + 600) ∧ hpS t.heap + (260 * M + 2 * S9 M gc) ≤ hz + (260 * u.2.2.2.1 + 2 * S9 u.2.2.2.1 u.2.2.1) ∧ 16 * t.heap.size + (256 * M + S9 M gc) ≤ 16 * sz + (256 * u.2.2.2.1 + S9 u.2.2.2.1 u.2.2.1) ∧ (n 0).toInt ≤ (u.2.2.2.2.1 0).toInt ∧ (∀ q : Nat, q < 50 + 16 * M → u.1 q = ad q) ∧ M ≤ u.2.2.2.1) (va_A ws sz)) 128000 3990000 (va_A ws sz) := by
  refine Met.ofW (cc := cX9_beat) (maxL := 3) (ret := (some .int)) (by decide) rfl ?_
  intro p e s m args below meth c s₁ B hml hv
  obtain ⟨rfl, hsz, rfl, hP, hK, hD0, hN⟩ := hv
  have hx := B.exec
  have hb := B.bytes
  have hr := B.returns
  have hts := atoms_spec (ws := .code yX9_beat cX9_beat 3 (some .int) :: gw) B.pre
  have hg : ∀ w ∈ gw, w.before _ s = true := fun w h => hts w (List.mem_cons_of_mem _ h)
  have hown : s.vm.findClass RX9 = some m.cls := findClass_of_methodNamed B.named
  have hlocks := B.notSynchronized
  subst hsz
  have hD := hD0.self (sz := s.heap.size)
  generalize hAe : va_A ws s.heap.size = A at hD ⊢
  have hA : ∀ q : Nat, s.heap.size ≤ q → A q := fun q h => by rw [← hAe]; exact Or.inr h
  clear hAe
  have hS : va_S A s.heap s.heap [] := va_S.rf
  have hl := lv_entry ([.ref (ad 0), .int v1]) (n := 3) (Nat.le_of_ble_eq_true rfl)
  rw [lg_entry_eq]
  generalize (lg_sl ([.ref (ad 0), .int v1]) ++ List.replicate (3 - (lg_sl ([.ref (ad 0), .int v1])).length) Slot.unset).toArray = ls at hl ⊢
  have hl : lv_has ls 3 [(0, .ref (ad 0)), (1, .int v1)] := hl
  obtain ⟨h_i1, h_i2, h_i3, h_i4, h_i5, h_i6, h_i7, h_i8, h_i9⟩ := id hI
  have q1_ := h_i1
  unfold i1 at q1_
  have hSl0 := S9_le h_i8 h_i9
  have hb0_ := h_i8.2.1 0 (by omega)
  have hb1_ := h_i8.2.1 1 (by omega)
  have hb2_ := h_i8.2.1 2 (by omega)
  have hr1 : 0 + (260 * M + 2 * S9 M gc) ≤ (260 * M + 2 * S9 M gc) := by omega
  have hr2 : 16 * 0 + (256 * M + S9 M gc) ≤ (256 * M + S9 M gc) := by omega
  obtain ⟨ce, hce⟩ : ∃ q : Nat, q = 0 := ⟨_, rfl⟩
  obtain ⟨se, hse⟩ : ∃ q : Nat, q = 0 := ⟨_, rfl⟩
  rw [← hse] at hr1
  have hr2 : 16 * ce + (256 * M + S9 M gc) ≤ (256 * M + S9 M gc) := by omega
  refine W.widen (k := ce) (n := se) (Nat.zero_le _) (Nat.zero_le _) ?_
  refine lv_iload_n hx hb dX9_beat_0 rfl (lv_at hl 1 rfl) ?_
  refine lv_iconst (v := 1) hx hb dX9_beat_1 (by decide) ?_
  refine lv_icmp_lt (tgt := 11) hx hb dX9_beat_2 (by decide) (fun c_1 => ?_) (fun c_1 => ?_)
  · simp only [i_lt, i_le, i_eq, ti_1] at c_1
    refine lv_iconst (v := -1) hx hb dX9_beat_11 (by decide) ?_
    refine W_msr2 (fun hm1 hm2 hm3 => ?_)
    have hSl := S9_le h_i8 h_i9
    have hb0_ := h_i8.2.1 0 (by omega)
    have hb1_ := h_i8.2.1 1 (by omega)
    have hb2_ := h_i8.2.1 2 (by omega)
    refine W.widen (k := 128000) (n := 3990000) (by omega) (by omega) ?_
    exact W.iret (v := -1) hx hb hr (fun t ht hW => ⟨⟨-1, (ad, ga, gc, M, n, f, T, G, K, F), rfl, (by have t_ := ti_m1; show ((n 0).toInt = 0 → (n 0).toInt = 0); omega), ws, by rw [ht]; exact hP, hD, hQ, I9.mono (R := R) ⟨h_i1, h_i2, h_i3, h_i4, h_i5, h_i6, h_i7, h_i8, h_i9⟩ (by omega), by rw [ht]; show hpS s.heap + (260 * M + 2 * S9 M gc) ≤ hpS s.heap + (260 * M + 2 * S9 M gc); omega, by rw [ht]; show 16 * s.heap.size + (256 * M + S9 M gc) ≤ 16 * s.heap.size + (256 * M + S9 M gc); omega, by show (n 0).toInt ≤ (n 0).toInt; omega, (fun _ _ => rfl), by show M ≤ M; omega⟩, hS.F ht⟩) hS.2.2 dX9_beat_12
  · simp only [i_lt, i_le, i_eq, ti_1] at c_1
    refine lv_iload_n hx hb dX9_beat_5 rfl (lv_at hl 1 rfl) ?_
    refine lv_bipush (v := 100) hx hb dX9_beat_6 (by decide) ?_
    refine lv_icmp_le (tgt := 13) hx hb dX9_beat_8 (by decide) (fun c_2 => ?_) (fun c_2 => ?_)
    · simp only [i_lt, i_le, i_eq, ti_100] at c_2
      refine lv_iconst (v := 0) hx hb dX9_beat_13 (by decide) ?_
      refine lv_istore_n (lv' := [(2, .int 0), (0, .ref (ad 0)), (1, .int v1)]) hx hb dX9_beat_14 rfl hl (by decide) rfl (fun ls hl => ?_)
      have L15 : ∀ (fuel : Nat) (x_3 : Int32)   (ws_14 : va_W) (ad_4 : Nat → Nat) (ga_5 : Nat → Nat) (gc_6 : Nat → Nat) (M_7 : Nat) (n_8 : Nat → Int32) (f_9 : Nat → Nat → Int32) (T_10 : Nat → Option Nat) (G_11 : Nat → Nat → Int32) (K_12 : Nat → Nat → Option Nat) (F_13 : Nat → Nat → Nat → Int32) (ce se : Nat) (H : Heap) (locs : List Loc) (ls : Array Slot), (101 - x_3.toInt).toNat < fuel → (0 ≤ x_3.toInt ∧ x_3.toInt ≤ 100) → (((n 0).toInt = 0 → (n_8 0).toInt = 0)) → ((n 0).toInt ≤ (n_8 0).toInt) → (M ≤ M_7) → (∀ q : Nat, q < 50 + 16 * M → ad_4 q = ad q) → Pic9 kc ws_14 ad_4 ga_5 gc_6 M_7 n_8 f_9 T_10 G_11 K_12 F_13 → I9 M_7 n_8 T_10 gc_6 G_11 K_12 (R + 6 * x_3.toInt.toNat) → (se + (260 * M + 2 * S9 M gc) ≤ (260 * M_7 + 2 * S9 M_7 gc_6)) → (16 * ce + (256 * M + S9 M gc) ≤ (256 * M_7 + S9 M_7 gc_6)) → va_P (dC, dI) vwCl ws_14 H → va_D A ws_14 → va_S A s.heap H locs → lv_has ls 3 [(2, .int x_3), (0, .ref (ad_4 0)), (1, .int v1)] → W p l e (headSpec (.code yX9_beat cX9_beat 3 (some .int) :: gw) ({ frames := 7, cells := 128000, slots := 3990000, locals := 222 })).room s m ([.ref (ad 0), .int v1] : List Value).toArray below meth c H locs ce se (MQ below (va_Qi (fun (r : Int32) (u : (Nat → Nat) × (Nat → Nat) × (Nat → Nat) × Nat × (Nat → Int32) × (Nat → Nat → Int32) × (Nat → Option Nat) × (Nat → Nat → Int32) × (Nat → Nat → Option Nat) × (Nat → Nat → Nat → Int32)) => ((n 0).toInt = 0 → (u.2.2.2.2.1 0).toInt = 0)) (fun u t => ∃ w : va_W, va_P (dC, dI) vwCl w t.heap ∧ va_D A w ∧ Pic9 kc w u.1 u.2.1 u.2.2.1 u.2.2.2.1 u.2.2.2.2.1 u.2.2.2.2.2.1 u.2.2.2.2.2.2.1 u.2.2.2.2.2.2.2.1 u.2.2.2.2.2.2.2.2.1 u.2.2.2.2.2.2.2.2.2 ∧ I9 u.2.2.2.1 u.2.2.2.2.1 u.2.2.2.2.2.2.1 u.2.2.1 u.2.2.2.2.2.2.2.1 u.2.2.2.2.2.2.2.2.1 (R + 600) ∧ hpS t.heap + (260 * M + 2 * S9 M gc) ≤ (hpS s.heap) + (260 * u.2.2.2.1 + 2 * S9 u.2.2.2.1 u.2.2.1) ∧ 16 * t.heap.size + (256 * M + S9 M gc) ≤ 16 * s.heap.size + (256 * u.2.2.2.1 + S9 u.2.2.2.1 u.2.2.1) ∧ (n 0).toInt ≤ (u.2.2.2.2.1 0).toInt ∧ (∀ q : Nat, q < 50 + 16 * M → u.1 q = ad q) ∧ M ≤ u.2.2.2.1) A) ([.ref (ad 0), .int v1] : List Value).toArray s 128000 3990000 A) (F0 m 15 ls []) := by
        intro fuel
        induction fuel with
        | zero => intro x_3 ws_14 ad_4 ga_5 gc_6 M_7 n_8 f_9 T_10 G_11 K_12 F_13 ce se H locs ls hm; exact absurd hm (Nat.not_lt_zero _)
        | succ fuel_22 ih_21 =>
          intro x_3 ws_14 ad_4 ga_5 gc_6 M_7 n_8 f_9 T_10 G_11 K_12 F_13 ce se H locs ls hm_15 v_16 v_17 v_18 v_19 hE0 hQ hI_20 hr1 hr2 hP hD hS hl
          obtain ⟨i1_23, i2_24, i3_25, i4_26, i5_27, i6_28, i7_29, i8_30, i9_31⟩ := id hI_20
          have q1_ := i1_23
          unfold i1 at q1_
          have hSl := S9_le i8_30 i9_31
          have hb0_ := i8_30.2.1 0 (by omega)
          have hb1_ := i8_30.2.1 1 (by omega)
          have hb2_ := i8_30.2.1 2 (by omega)
          refine lv_iload_n hx hb dX9_beat_15 rfl (lv_at hl 0 rfl) ?_
          refine lv_iload_n hx hb dX9_beat_16 rfl (lv_at hl 2 rfl) ?_
          refine lv_icmp_ge (tgt := 55) hx hb dX9_beat_17 (by decide) (fun c_32 => ?_) (fun c_32 => ?_)
          · simp only [i_lt, i_le, i_eq] at c_32
            refine lv_iload_n hx hb dX9_beat_55 rfl (lv_at hl 0 rfl) ?_
            refine W_msr2 (fun hm1 hm2 hm3 => ?_)
            have hSl := S9_le i8_30 i9_31
            have hb0_ := i8_30.2.1 0 (by omega)
            have hb1_ := i8_30.2.1 1 (by omega)
            have hb2_ := i8_30.2.1 2 (by omega)
            refine W.widen (k := 128000) (n := 3990000) (by omega) (by omega) ?_
            exact W.iret (v := x_3) hx hb hr (fun t ht hW => ⟨⟨x_3, (ad_4, ga_5, gc_6, M_7, n_8, f_9, T_10, G_11, K_12, F_13), rfl, (by show ((n 0).toInt = 0 → (n_8 0).toInt = 0); omega), ws_14, by rw [ht]; exact hP, hD, hQ, I9.mono (R := R + 6 * x_3.toInt.toNat) ⟨i1_23, i2_24, i3_25, i4_26, i5_27, i6_28, i7_29, i8_30, i9_31⟩ (by omega), by rw [ht]; show hpS H + (260 * M + 2 * S9 M gc) ≤ hpS s.heap + (260 * M_7 + 2 * S9 M_7 gc_6); omega, by rw [ht]; show 16 * H.size + (256 * M + S9 M gc) ≤ 16 * s.heap.size + (256 * M_7 + S9 M_7 gc_6); omega, by show (n 0).toInt ≤ (n_8 0).toInt; omega, hE0, by show M ≤ M_7; omega⟩, hS.F ht⟩) hS.2.2 dX9_beat_56
          · simp only [i_lt, i_le, i_eq] at c_32
            refine lv_aload_n hx hb dX9_beat_20 rfl (lv_at hl 1 rfl) ?_
            have hFc := free_all hD hS hA
            refine W_msr2 (fun hm1 hm2 hm3 => ?_)
            refine va_calli (va_runV (As := []) (rest := []) ⟨hx, hb, hml, hown, hg⟩ (c_X9_isWorkLeft l dC dI kc ws_14 ad_4 ga_5 gc_6 M_7 n_8 f_9 T_10 G_11 K_12 F_13 (R + 6 * x_3.toInt.toNat) H.size (hpS H) hQ ⟨i1_23, i2_24, i3_25, i4_26, i5_27, i6_28, i7_29, i8_30, i9_31⟩) (cwV 0 hg (gw_V gm_methodLink_RX9_121_yX9_isWorkLeft gm_instanceMethod_yX9_isWorkLeft gm_selects_RX9_yX9_isWorkLeft_yX9_isWorkLeft gm_initialized_RX9 gm_code_yX9_isWorkLeft_cX9_isWorkLeft_3_some_boolean_) rfl rfl rfl (by decide +kernel) ⟨Nat.le_of_ble_eq_true rfl, Nat.le_of_ble_eq_true rfl⟩) ⟨fun a U g mk q => by obtain ⟨q0, q1, q2, qP, qK, qD, qN⟩ := q; exact ⟨q0, q1, q2, qP, va_K.moved (u := U) (U := U.calling g mk a) (Vm.Alike.refl U.vm) qK, qD, nx_same (u := U) (U := U.calling g mk a) rfl qN⟩, va_recv hK hP (ci := 9) (q0 := 0) rfl hQ.x0, fun U hU hW => ⟨rfl, by rw [hU], by rw [hU], by rw [hU]; exact hP, va_K.moved hW.alike hK, hD.weaken (fun _ _ _ _ => trivial), nx_warm hW hN⟩⟩ rfl rfl hl.1 rfl (lv_room (Nat.le_of_ble_eq_true rfl)) dX9_beat_21 ⟨by show ce + 0 ≤ 128000; omega, by show se + 0 ≤ 3990000; omega⟩) hS (fun q _ h => hFc q h) hFc (fun r_33 u_34 t H1 locs ht hvm hw hB hz1 hk1 hS => ?_)
            obtain ⟨hP, hD, hy1, hy2⟩ := hB
            rw [ht] at hP hy1 hy2
            have hD := hD.weaken (fun k q _ h => hFc _ h)
            refine W.widen (k := ce) (n := se) (Nat.le_refl _) (Nat.le_refl _) ?_
            have q1_ := i1_23
            unfold i1 at q1_
            generalize H1 = H at hP hS ⊢
            rcases hw with ⟨rfl, w_35⟩ | ⟨rfl, w_35⟩
            · have w_35 : 0 < (n_8 0).toInt := w_35
              refine lv_if_eq (tgt := 55) hx hb dX9_beat_24 (by decide) (fun c_36 => absurd c_36 (by decide)) (fun _ => ?_)
              refine lv_aload_n hx hb dX9_beat_27 rfl (lv_at hl 1 rfl) ?_
              refine lv_dup hx hb dX9_beat_28 rfl ?_
              refine va_get (D := (dC, dI)) (ci := 9) (v := .int (n_8 2)) (C := RX9) (T := TX9) (N := 15) hx hb hg gb_9 hown hK hP 0 hQ.x0 rfl 8 (by decide) (hg _ gm_fieldLink_RX9_84_ErrandGuild_beats_I_) (fun _ h9 => h9) rfl dX9_beat_29 ?_
              refine lv_iconst (v := 1) hx hb dX9_beat_32 (by decide) ?_
              refine lv_iadd hx hb dX9_beat_33 ?_
              refine lv_topi (fun z_37 ez_37 => ?_)
              refine va_put (D := (dC, dI)) (ci := 9) (v := .int (z_37)) (ty := .int) (C := RX9) (T := TX9) (N := 15) hx hb hg gb_9 tyX9 tyX9_ok nmX9 hown hK hP hD hS 0 hQ.x0 rfl 8 (by decide) (hg _ gm_fieldLink_RX9_84_ErrandGuild_beats_I_) (fun _ h9 => h9) rfl (by decide +kernel) rfl rfl (Nat.le_of_ble_eq_true rfl) dX9_beat_34 (fun H locs hP hD hS => ?_)
              obtain ⟨ws_39, n_38, en_38, hP, hD, hQ⟩ : ∃ (ws_39 : va_W) (n_38 : Nat → Int32), n_38 = u1 n_8 2 z_37 ∧ va_P (dC, dI) vwCl ws_39 H ∧ va_D A ws_39 ∧ Pic9 kc ws_39 ad_4 ga_5 gc_6 M_7 n_38 f_9 T_10 G_11 K_12 F_13 := ⟨_, _, rfl, hP, hD, hQ.x9 2 8 (by decide) z_37⟩
              have i1_40 : i1 M_7 n_38 := by rw [en_38]; exact (i1.pn i1_23 _ (by decide))
              have i5_41 : i5 n_38 K_12 := by rw [en_38]; exact (i5.pn i5_27 _ (by decide))
              have i6_42 : i6 n_38 T_10 G_11 := by rw [en_38]; exact (i6.pn i6_28 _ (by decide))
              have i7_43 : i7 n_38 G_11 := by rw [en_38]; exact (i7.pn i7_29 _ (by decide))
              have i8_44 : i8 M_7 n_38 gc_6 G_11 := by rw [en_38]; exact (i8.pn i8_30 _ (by decide))
              have hn_45 : n_38 0 = n_8 0 := by rw [en_38]; rw [u1_ne _ _ (by decide)]
              have thn_45 := congrArg Int32.toInt hn_45
              refine lv_aload_n hx hb dX9_beat_37 rfl (lv_at hl 1 rfl) ?_
              have hFc := free_all hD hS hA
              refine W_msr2 (fun hm1 hm2 hm3 => ?_)
              refine va_callv (va_runV (As := []) (rest := []) ⟨hx, hb, hml, hown, hg⟩ (c_X9_fillThreads l dC dI kc ws_39 ad_4 ga_5 gc_6 M_7 n_38 f_9 T_10 G_11 K_12 F_13 (R + 6 * x_3.toInt.toNat) H.size (hpS H) hQ ⟨i1_40, i2_24, i3_25, i4_26, i5_41, i6_42, i7_43, i8_44, i9_31⟩) (cwV 0 hg (gw_V gm_methodLink_RX9_125_yX9_fillThreads gm_instanceMethod_yX9_fillThreads gm_selects_RX9_yX9_fillThreads_yX9_fillThreads gm_initialized_RX9 gm_code_yX9_fillThreads_cX9_fillThreads_3_none) rfl rfl rfl (by decide +kernel) ⟨Nat.le_of_ble_eq_true rfl, Nat.le_of_ble_eq_true rfl⟩) ⟨fun a U g mk q => by obtain ⟨q0, q1, q2, qP, qK, qD, qN⟩ := q; exact ⟨q0, q1, q2, qP, va_K.moved (u := U) (U := U.calling g mk a) (Vm.Alike.refl U.vm) qK, qD, nx_same (u := U) (U := U.calling g mk a) rfl qN⟩, va_recv hK hP (ci := 9) (q0 := 0) rfl hQ.x0, fun U hU hW => ⟨rfl, by rw [hU], by rw [hU], by rw [hU]; exact hP, va_K.moved hW.alike hK, hD.weaken (fun _ _ _ _ => trivial), nx_warm hW hN⟩⟩ rfl rfl hl.1 rfl (lv_room (Nat.le_of_ble_eq_true rfl)) dX9_beat_38 ⟨by show ce + 0 ≤ 128000; omega, by show se + 0 ≤ 3990000; omega⟩) hS (fun q _ h => hFc q h) hFc (fun u_47 t H1 locs ht hvm hw hB hz1 hk1 hS => ?_)
              obtain ⟨ad_48, ga_49, gc_50, M_51, n_52, f_53, T_54, G_55, K_56, F_57⟩ := u_47
              have hB : ∃ w : va_W, va_P (dC, dI) vwCl w t.heap ∧ va_D (va_A ws_39 H.size) w ∧ Pic9 kc w ad_4 ga_5 gc_6 M_7 n_38 f_9 T_54 G_55 K_12 F_13 ∧ I9 M_7 n_38 T_54 gc_6 G_55 K_12 (R + 6 * x_3.toInt.toNat) ∧ hpS t.heap + (260 * M_7 + 2 * S9 M_7 gc_6) ≤ hpS H + (260 * M_7 + 2 * S9 M_7 gc_6) ∧ 16 * t.heap.size + (256 * M_7 + S9 M_7 gc_6) ≤ 16 * H.size + (256 * M_7 + S9 M_7 gc_6) := hB
              rw [ht] at hB
              obtain ⟨ws_58, hP, hD, hQ, hI_59, hy1, hy2⟩ := hB
              have hD := hD.weaken (fun k q _ h => hFc _ h)
              obtain ⟨i1_60, i2_61, i3_62, i4_63, i5_64, i6_65, i7_66, i8_67, i9_68⟩ := id hI_59
              have q1_ := i1_60
              unfold i1 at q1_
              have hSl := S9_le i8_67 i9_68
              have hb0_ := i8_67.2.1 0 (by omega)
              have hb1_ := i8_67.2.1 1 (by omega)
              have hb2_ := i8_67.2.1 2 (by omega)
              refine W_msr2 (fun hn1 hn2 hn3 => ?_)
              obtain ⟨ce2, se2, hk3, hk4, hr1, hr2⟩ : ∃ c2 s2 : Nat, H1.size ≤ s.heap.size + c2 ∧ hpS H1 ≤ hpS s.heap + s2 ∧ s2 + (260 * M + 2 * S9 M gc) ≤ (260 * M_7 + 2 * S9 M_7 gc_6) ∧ 16 * c2 + (256 * M + S9 M gc) ≤ (256 * M_7 + S9 M_7 gc_6) := ⟨H1.size - s.heap.size, hpS H1 - hpS s.heap, by omega, by omega, by have := hS.1; omega, by have := hS.1; omega⟩
              refine W_tightP hk3 hk4 ?_
              clear hm1 hm2 hm3 hn1 hn2 hn3 hk3 hk4
              clear hk1 hz1
              generalize ce2 = ce, se2 = se at hr1 hr2 ⊢
              generalize H1 = H at hP hS ⊢
              refine lv_aload_n hx hb dX9_beat_41 rfl (lv_at hl 1 rfl) ?_
              have hFc := free_all hD hS hA
              refine W_msr2 (fun hm1 hm2 hm3 => ?_)
              refine va_callv (va_runV (As := []) (rest := []) ⟨hx, hb, hml, hown, hg⟩ (c_X9_takeTurns l dC dI kc ws_58 ad_4 ga_5 gc_6 M_7 n_38 f_9 T_54 G_55 K_12 F_13 (R + 6 * x_3.toInt.toNat) H.size (hpS H) hQ ⟨i1_60, i2_61, i3_62, i4_63, i5_64, i6_65, i7_66, i8_67, i9_68⟩ (by show (R + 6 * x_3.toInt.toNat) + 6 ≤ 310000; omega)) (cwV 0 hg (gw_V gm_methodLink_RX9_128_yX9_takeTurns gm_instanceMethod_yX9_takeTurns gm_selects_RX9_yX9_takeTurns_yX9_takeTurns gm_initialized_RX9 gm_code_yX9_takeTurns_cX9_takeTurns_5_none) rfl rfl rfl (by decide +kernel) ⟨Nat.le_of_ble_eq_true rfl, Nat.le_of_ble_eq_true rfl⟩) ⟨fun a U g mk q => by obtain ⟨q0, q1, q2, qP, qK, qD, qN⟩ := q; exact ⟨q0, q1, q2, qP, va_K.moved (u := U) (U := U.calling g mk a) (Vm.Alike.refl U.vm) qK, qD, nx_same (u := U) (U := U.calling g mk a) rfl qN⟩, va_recv hK hP (ci := 9) (q0 := 0) rfl hQ.x0, fun U hU hW => ⟨rfl, by rw [hU], by rw [hU], by rw [hU]; exact hP, va_K.moved hW.alike hK, hD.weaken (fun _ _ _ _ => trivial), nx_warm hW hN⟩⟩ rfl rfl hl.1 rfl (lv_room (Nat.le_of_ble_eq_true rfl)) dX9_beat_42 ⟨by show ce + 84000 ≤ 128000; omega, by show se + 2620000 ≤ 3990000; omega⟩) hS (fun q _ h => hFc q h) hFc (fun u_70 t H1 locs ht hvm hw hB hz1 hk1 hS => ?_)
              obtain ⟨ad_71, ga_72, gc_73, M_74, n_75, f_76, T_77, G_78, K_79, F_80⟩ := u_70
              have hB : ∃ w : va_W, va_P (dC, dI) vwCl w t.heap ∧ va_D (va_A ws_58 H.size) w ∧ Pic9 kc w ad_71 ga_72 gc_73 M_74 n_75 f_76 T_77 G_78 K_79 F_80 ∧ I9 M_74 n_75 T_77 gc_73 G_78 K_79 ((R + 6 * x_3.toInt.toNat) + 6) ∧ hpS t.heap + (260 * M_7 + 2 * S9 M_7 gc_6) ≤ hpS H + (260 * M_74 + 2 * S9 M_74 gc_73) ∧ 16 * t.heap.size + (256 * M_7 + S9 M_7 gc_6) ≤ 16 * H.size + (256 * M_74 + S9 M_74 gc_73) ∧ (n_38 0).toInt ≤ (n_75 0).toInt ∧ (∀ q : Nat, q < 50 + 16 * M_7 → ad_71 q = ad_4 q) ∧ M_7 ≤ M_74 := hB
              rw [ht] at hB
              obtain ⟨ws_81, hP, hD, hQ, hI_85, hy1, hy2, hn_82, hE_83, hM_84⟩ := hB
              have hD := hD.weaken (fun k q _ h => hFc _ h)
              obtain ⟨i1_86, i2_87, i3_88, i4_89, i5_90, i6_91, i7_92, i8_93, i9_94⟩ := id hI_85
              have q1_ := i1_86
              unfold i1 at q1_
              have hSl := S9_le i8_93 i9_94
              have hb0_ := i8_93.2.1 0 (by omega)
              have hb1_ := i8_93.2.1 1 (by omega)
              have hb2_ := i8_93.2.1 2 (by omega)
              refine W_msr2 (fun hn1 hn2 hn3 => ?_)
              obtain ⟨ce2, se2, hk3, hk4, hr1, hr2⟩ : ∃ c2 s2 : Nat, H1.size ≤ s.heap.size + c2 ∧ hpS H1 ≤ hpS s.heap + s2 ∧ s2 + (260 * M + 2 * S9 M gc) ≤ (260 * M_74 + 2 * S9 M_74 gc_73) ∧ 16 * c2 + (256 * M + S9 M gc) ≤ (256 * M_74 + S9 M_74 gc_73) := ⟨H1.size - s.heap.size, hpS H1 - hpS s.heap, by omega, by omega, by have := hS.1; omega, by have := hS.1; omega⟩
              refine W_tightP hk3 hk4 ?_
              clear hm1 hm2 hm3 hn1 hn2 hn3 hk3 hk4
              clear hk1 hz1
              generalize ce2 = ce, se2 = se at hr1 hr2 ⊢
              generalize H1 = H at hP hS ⊢
              have hE_95 : ∀ q : Nat, q < 50 + 16 * M → ad_71 q = ad q := fun q hq => (hE_83 q (by omega)).trans (hE0 q hq)
              have hl : lv_has ls 3 [(2, .int x_3), (0, .ref (ad_71 0)), (1, .int v1)] := by rw [hE_83 0 (by omega)]; exact hl
              refine W.eq (g2 := F0 m 45 ls []) (by first | rfl | (simp only [hE_83 0 (by omega)]))  ?_
              refine lv_aload_n hx hb dX9_beat_45 rfl (lv_at hl 1 rfl) ?_
              have hFc := free_all hD hS hA
              refine W_msr2 (fun hm1 hm2 hm3 => ?_)
              refine va_callv (va_runV (As := []) (rest := []) ⟨hx, hb, hml, hown, hg⟩ (c_X9_wakeWaiting l dC dI kc ws_81 ad_71 ga_72 gc_73 M_74 n_75 f_76 T_77 G_78 K_79 F_80 ((R + 6 * x_3.toInt.toNat) + 6) H.size (hpS H) hQ ⟨i1_86, i2_87, i3_88, i4_89, i5_90, i6_91, i7_92, i8_93, i9_94⟩) (cwV 0 hg (gw_V gm_methodLink_RX9_131_yX9_wakeWaiting gm_instanceMethod_yX9_wakeWaiting gm_selects_RX9_yX9_wakeWaiting_yX9_wakeWaiting gm_initialized_RX9 gm_code_yX9_wakeWaiting_cX9_wakeWaiting_3_none) rfl rfl rfl (by decide +kernel) ⟨Nat.le_of_ble_eq_true rfl, Nat.le_of_ble_eq_true rfl⟩) ⟨fun a U g mk q => by obtain ⟨q0, q1, q2, qP, qK, qD, qN⟩ := q; exact ⟨q0, q1, q2, qP, va_K.moved (u := U) (U := U.calling g mk a) (Vm.Alike.refl U.vm) qK, qD, nx_same (u := U) (U := U.calling g mk a) rfl qN⟩, va_recv hK hP (ci := 9) (q0 := 0) rfl hQ.x0, fun U hU hW => ⟨rfl, by rw [hU], by rw [hU], by rw [hU]; exact hP, va_K.moved hW.alike hK, hD.weaken (fun _ _ _ _ => trivial), nx_warm hW hN⟩⟩ rfl rfl hl.1 rfl (lv_room (Nat.le_of_ble_eq_true rfl)) dX9_beat_46 ⟨by show ce + 0 ≤ 128000; omega, by show se + 0 ≤ 3990000; omega⟩) hS (fun q _ h => hFc q h) hFc (fun u_97 t H1 locs ht hvm hw hB hz1 hk1 hS => ?_)
              obtain ⟨ad_98, ga_99, gc_100, M_101, n_102, f_103, T_104, G_105, K_106, F_107⟩ := u_97
              have hB : ∃ w : va_W, va_P (dC, dI) vwCl w t.heap ∧ va_D (va_A ws_81 H.size) w ∧ Pic9 kc w ad_71 ga_72 gc_73 M_74 n_75 f_76 T_77 G_105 K_79 F_80 ∧ I9 M_74 n_75 T_77 gc_73 G_105 K_79 ((R + 6 * x_3.toInt.toNat) + 6) ∧ hpS t.heap + (260 * M_74 + 2 * S9 M_74 gc_73) ≤ hpS H + (260 * M_74 + 2 * S9 M_74 gc_73) ∧ 16 * t.heap.size + (256 * M_74 + S9 M_74 gc_73) ≤ 16 * H.size + (256 * M_74 + S9 M_74 gc_73) := hB
              rw [ht] at hB
              obtain ⟨ws_108, hP, hD, hQ, hI_109, hy1, hy2⟩ := hB
              have hD := hD.weaken (fun k q _ h => hFc _ h)
              obtain ⟨i1_110, i2_111, i3_112, i4_113, i5_114, i6_115, i7_116, i8_117, i9_118⟩ := id hI_109
              have q1_ := i1_110
              unfold i1 at q1_
              have hSl := S9_le i8_117 i9_118
              have hb0_ := i8_117.2.1 0 (by omega)
              have hb1_ := i8_117.2.1 1 (by omega)
              have hb2_ := i8_117.2.1 2 (by omega)
              refine W_msr2 (fun hn1 hn2 hn3 => ?_)
              obtain ⟨ce2, se2, hk3, hk4, hr1, hr2⟩ : ∃ c2 s2 : Nat, H1.size ≤ s.heap.size + c2 ∧ hpS H1 ≤ hpS s.heap + s2 ∧ s2 + (260 * M + 2 * S9 M gc) ≤ (260 * M_74 + 2 * S9 M_74 gc_73) ∧ 16 * c2 + (256 * M + S9 M gc) ≤ (256 * M_74 + S9 M_74 gc_73) := ⟨H1.size - s.heap.size, hpS H1 - hpS s.heap, by omega, by omega, by have := hS.1; omega, by have := hS.1; omega⟩
              refine W_tightP hk3 hk4 ?_
              clear hm1 hm2 hm3 hn1 hn2 hn3 hk3 hk4
              clear hk1 hz1
              generalize ce2 = ce, se2 = se at hr1 hr2 ⊢
              generalize H1 = H at hP hS ⊢
              obtain ⟨y_119, ey_119⟩ : ∃ q : Int32, q = x_3 + (1) := ⟨_, rfl⟩
              refine lv_iinc (v := y_119) (lv' := [(2, .int y_119), (0, .ref (ad_71 0)), (1, .int v1)]) hx hb dX9_beat_49 hl (k := 0) rfl (by rw [ey_119]; rfl) (by decide) rfl (fun ls hl => ?_)
              have ty_119 : y_119.toInt = x_3.toInt + (1) := ar_add rfl ti_1 ey_119 (by omega)
              refine lv_goto (tgt := 15) hx hb dX9_beat_52 (by decide) ?_
              exact ih_21 y_119   ws_108 ad_71 ga_72 gc_73 M_74 n_75 f_76 T_77 G_105 K_79 F_80 ce se H locs ls (by show (101 - y_119.toInt).toNat < _; omega) (by show 0 ≤ y_119.toInt ∧ y_119.toInt ≤ 100; omega) (by show ((n 0).toInt = 0 → (n_75 0).toInt = 0); omega) (by show (n 0).toInt ≤ (n_75 0).toInt; omega) (by show M ≤ M_74; omega) hE_95 hQ (I9.mono (R := ((R + 6 * x_3.toInt.toNat) + 6)) ⟨i1_110, i2_111, i3_112, i4_113, i5_114, i6_115, i7_116, i8_117, i9_118⟩ (by omega)) hr1 hr2 hP hD hS (lv_sub hl [0, 1, 2] rfl)
            · refine lv_if_eq (tgt := 55) hx hb dX9_beat_24 (by decide) (fun _ => ?_) (fun c_120 => absurd c_120 (by decide))
              refine lv_iload_n hx hb dX9_beat_55 rfl (lv_at hl 0 rfl) ?_
              refine W_msr2 (fun hm1 hm2 hm3 => ?_)
              have hSl := S9_le i8_30 i9_31
              have hb0_ := i8_30.2.1 0 (by omega)
              have hb1_ := i8_30.2.1 1 (by omega)
              have hb2_ := i8_30.2.1 2 (by omega)
              refine W.widen (k := 128000) (n := 3990000) (by omega) (by omega) ?_
              exact W.iret (v := x_3) hx hb hr (fun t ht hW => ⟨⟨x_3, (ad_4, ga_5, gc_6, M_7, n_8, f_9, T_10, G_11, K_12, F_13), rfl, (by show ((n 0).toInt = 0 → (n_8 0).toInt = 0); omega), ws_14, by rw [ht]; exact hP, hD, hQ, I9.mono (R := R + 6 * x_3.toInt.toNat) ⟨i1_23, i2_24, i3_25, i4_26, i5_27, i6_28, i7_29, i8_30, i9_31⟩ (by omega), by rw [ht]; show hpS H + (260 * M + 2 * S9 M gc) ≤ hpS s.heap + (260 * M_7 + 2 * S9 M_7 gc_6); omega, by rw [ht]; show 16 * H.size + (256 * M + S9 M gc) ≤ 16 * s.heap.size + (256 * M_7 + S9 M_7 gc_6); omega, by show (n 0).toInt ≤ (n_8 0).toInt; omega, hE0, by show M ≤ M_7; omega⟩, hS.F ht⟩) hS.2.2 dX9_beat_56
      exact L15 _ (0 : Int32)   ws ad ga gc M n f T G K F ce se _ _ _ (Nat.lt_succ_self _) (by have t_0 := ti_0; show 0 ≤ (0 : Int32).toInt ∧ (0 : Int32).toInt ≤ 100; omega) (by have t_0 := ti_0; show ((n 0).toInt = 0 → (n 0).toInt = 0); omega) (by have t_0 := ti_0; show (n 0).toInt ≤ (n 0).toInt; omega) (by have t_0 := ti_0; show M ≤ M; omega) (fun _ _ => rfl) hQ (I9.mono (R := R) ⟨h_i1, h_i2, h_i3, h_i4, h_i5, h_i6, h_i7, h_i8, h_i9⟩ (by have t_0 := ti_0; omega)) hr1 hr2 hP hD hS (lv_sub hl [0, 1, 2] rfl)
    · simp only [i_lt, i_le, i_eq, ti_100] at c_2
      refine lv_iconst (v := -1) hx hb dX9_beat_11 (by decide) ?_
      refine W_msr2 (fun hm1 hm2 hm3 => ?_)
      have hSl := S9_le h_i8 h_i9
      have hb0_ := h_i8.2.1 0 (by omega)
      have hb1_ := h_i8.2.1 1 (by omega)
      have hb2_ := h_i8.2.1 2 (by omega)
      refine W.widen (k := 128000) (n := 3990000) (by omega) (by omega) ?_
      exact W.iret (v := -1) hx hb hr (fun t ht hW => ⟨⟨-1, (ad, ga, gc, M, n, f, T, G, K, F), rfl, (by have t_ := ti_m1; show ((n 0).toInt = 0 → (n 0).toInt = 0); omega), ws, by rw [ht]; exact hP, hD, hQ, I9.mono (R := R) ⟨h_i1, h_i2, h_i3, h_i4, h_i5, h_i6, h_i7, h_i8, h_i9⟩ (by omega), by rw [ht]; show hpS s.heap + (260 * M + 2 * S9 M gc) ≤ hpS s.heap + (260 * M + 2 * S9 M gc); omega, by rw [ht]; show 16 * s.heap.size + (256 * M + S9 M gc) ≤ 16 * s.heap.size + (256 * M + S9 M gc); omega, by show (n 0).toInt ≤ (n 0).toInt; omega, (fun _ _ => rfl), by show M ≤ M; omega⟩, hS.F ht⟩) hS.2.2 dX9_beat_12
