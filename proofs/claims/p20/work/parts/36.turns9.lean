def c1 (o : Option Nat) (r : Nat) : Nat := match o with
  | none => 0
  | some j => if r ≤ j then 1 else 0
def cT (T : Nat → Option Nat) (r : Nat) : Nat := c1 (T 0) r + c1 (T 1) r + c1 (T 2) r + c1 (T 3) r + c1 (T 4) r + c1 (T 5) r
theorem c1_le (o : Option Nat) (r : Nat) : c1 o r ≤ 1 := by
  cases o with
  | none => exact Nat.zero_le _
  | some j => show (if r ≤ j then 1 else 0) ≤ 1; split <;> omega
theorem c1_up (o : Option Nat) {r r' : Nat} (h : r' = r + 1) : c1 o r' ≤ c1 o r := by
  subst h
  cases o with
  | none => exact Nat.le_refl _
  | some j =>
    show (if r + 1 ≤ j then 1 else 0) ≤ (if r ≤ j then 1 else 0)
    by_cases h1 : r + 1 ≤ j
    · rw [if_pos h1, if_pos (by omega)]; exact Nat.le_refl _
    · rw [if_neg h1]; exact Nat.zero_le _
theorem c1_own {o : Option Nat} {r r' : Nat} (h : r' = r + 1) (e : o = some r) : c1 o r = 1 ∧ c1 o r' = 0 := by
  subst h; subst e
  constructor
  · show (if r ≤ r then 1 else 0) = 1; rw [if_pos (Nat.le_refl _)]
  · show (if r + 1 ≤ r then 1 else 0) = 0; rw [if_neg (by omega)]
theorem cT_le (T : Nat → Option Nat) (r : Nat) : cT T r ≤ 6 := by
  unfold cT
  have h0 := c1_le (T 0) r
  have h1 := c1_le (T 1) r
  have h2 := c1_le (T 2) r
  have h3 := c1_le (T 3) r
  have h4 := c1_le (T 4) r
  have h5 := c1_le (T 5) r
  omega
theorem cT_up (T : Nat → Option Nat) {r r' : Nat} (h : r' = r + 1) : cT T r' ≤ cT T r := by
  unfold cT
  have h0 := c1_up (T 0) h
  have h1 := c1_up (T 1) h
  have h2 := c1_up (T 2) h
  have h3 := c1_up (T 3) h
  have h4 := c1_up (T 4) h
  have h5 := c1_up (T 5) h
  omega
theorem cT_off {T T2 : Nat → Option Nat} (h : ∀ t : Nat, T2 t = T t ∨ T2 t = none) (r : Nat) : cT T2 r ≤ cT T r := by
  have k : ∀ t : Nat, c1 (T2 t) r ≤ c1 (T t) r := fun t => by
    rcases h t with e | e
    · rw [e]; exact Nat.le_refl _
    · rw [e]; exact Nat.zero_le _
  unfold cT
  have h0 := k 0
  have h1 := k 1
  have h2 := k 2
  have h3 := k 3
  have h4 := k 4
  have h5 := k 5
  omega
theorem cT_own (T : Nat → Option Nat) {r r' t : Nat} (h : r' = r + 1) (ht : t < 6) (e : T t = some r) : cT T r' + 1 ≤ cT T r := by
  have z := c1_own h e
  unfold cT
  have h0 := c1_up (T 0) h
  have h1 := c1_up (T 1) h
  have h2 := c1_up (T 2) h
  have h3 := c1_up (T 3) h
  have h4 := c1_up (T 4) h
  have h5 := c1_up (T 5) h
  rcases (show t = 0 ∨ t = 1 ∨ t = 2 ∨ t = 3 ∨ t = 4 ∨ t = 5 by omega) with rfl | rfl | rfl | rfl | rfl | rfl <;> omega

set_option maxHeartbeats 8000000 in
set_option maxRecDepth 100000 in
theorem c_X9_takeTurns (l : Launch) (dC : Nat → ClassId) (dI : Nat → Nat → Nat) (kc : Nat → ClassId) (ws : va_W) (ad : Nat → Nat) (ga : Nat → Nat) (gc : Nat → Nat) (M : Nat) (n : Nat → Int32) (f : Nat → Nat → Int32) (T : Nat → Option Nat) (G : Nat → Nat → Int32) (K : Nat → Nat → Option Nat) (F : Nat → Nat → Nat → Int32) (R : Nat) (sz hz : Nat) (hQ : Pic9 kc ws ad ga gc M n f T G K F) (hI : I9 M n f T gc G K F R) (hR : R + 6 ≤ 310000) : Met l yX9_takeTurns (.code yX9_takeTurns cX9_takeTurns 5 none :: gw) ({ frames := 6, cells := 84000, slots := 2620000, locals := 198 }) (va_Pc [.ref (ad 0)] (fun U => U.heap.size = sz ∧ hpS U.heap = hz ∧ va_P (dC, dI) vwCl ws U.heap ∧ va_K (dC, dI) vwCl (t9 kc) U ∧ va_D (fun _ => True) ws ∧ nx U)) (va_Qv (fun (u : (Nat → Nat) × (Nat → Nat) × (Nat → Nat) × Nat × (Nat → Int32) × (Nat → Nat → Int32) × (Nat → Option Nat) × (Nat → Nat → Int32) × (Nat → Nat → Option Nat) × (Nat → Nat → Nat → Int32)) => (C9.mk u.2.2.2.2.1 u.2.2.2.2.2.1 u.2.2.2.2.2.2.1 u.2.2.2.2.2.2.2.1 u.2.2.2.2.2.2.2.2.1 u.2.2.2.2.2.2.2.2.2) = kh_turns (C9.mk n f T G K F)) (fun u t => ∃ w : va_W, va_P (dC, dI) vwCl w t.heap ∧ va_D (va_A ws sz) w ∧ Pic9 kc w u.1 u.2.1 u.2.2.1 u.2.2.2.1 u.2.2.2.2.1 u.2.2.2.2.2.1 u.2.2.2.2.2.2.1 u.2.2.2.2.2.2.2.1 u.2.2.2.2.2.2.2.2.1 u.2.2.2.2.2.2.2.2.2 ∧ I9 u.2.2.2.1 u.2.2.2.2.1 u.2.2.2.2.2.1 u.2.2.2.2.2.2.1 u.2.2.1 u.2.2.2.2.2.2.2.1 u.2.2.2.2.2.2.2.2.1 u.2.2.2.2.2.2.2.2.2 (R + 6) ∧ hpS t.heap + (260 * M + 2 * S9 M gc) ≤ hz + (260 * u.2.2.2.1 + 2 * S9 u.2.2.2.1 u.2.2.1) ∧ 16 * t.heap.size + (256 * M + S9 M gc) ≤ 16 * sz + (256 * u.2.2.2.1 + S9 u.2.2.2.1 u.2.2.1) ∧ (n 0).toInt ≤ (u.2.2.2.2.1 0).toInt ∧ (∀ q : Nat, q < 50 + 16 * M → u.1 q = ad q) ∧ M ≤ u.2.2.2.1) (va_A ws sz)) 84000 2620000 (va_A ws sz) := by
  refine Met.ofW (cc := cX9_takeTurns) (maxL := 5) (ret := none) (by decide) rfl ?_
  intro p e s m args below meth c s₁ B hml hv
  obtain ⟨rfl, hsz, rfl, hP, hK, hD0, hN⟩ := hv
  have hx := B.exec
  have hb := B.bytes
  have hr := B.returns
  have hts := atoms_spec (ws := .code yX9_takeTurns cX9_takeTurns 5 none :: gw) B.pre
  have hg : ∀ w ∈ gw, w.before _ s = true := fun w h => hts w (List.mem_cons_of_mem _ h)
  have hown : s.vm.findClass RX9 = some m.cls := findClass_of_methodNamed B.named
  have hlocks := B.notSynchronized
  subst hsz
  have hD := hD0.self (sz := s.heap.size)
  generalize hAe : va_A ws s.heap.size = A at hD ⊢
  have hA : ∀ q : Nat, s.heap.size ≤ q → A q := fun q h => by rw [← hAe]; exact Or.inr h
  clear hAe
  have hS : va_S A s.heap s.heap [] := va_S.rf
  have hl := lv_entry ([.ref (ad 0)]) (n := 5) (Nat.le_of_ble_eq_true rfl)
  rw [lg_entry_eq]
  generalize (lg_sl ([.ref (ad 0)]) ++ List.replicate (5 - (lg_sl ([.ref (ad 0)])).length) Slot.unset).toArray = ls at hl ⊢
  have hl : lv_has ls 5 [(0, .ref (ad 0))] := hl
  obtain ⟨h_i1, h_i2, h_i3, h_i4, h_i5, h_i6, h_i7, h_i8, h_i9, h_i10, h_i11⟩ := id hI
  have q1_ := h_i1
  unfold i1 at q1_
  have hSl0 := S9_le h_i8 h_i9
  have hb0_ := h_i8.2.1 0 (by omega)
  have hb1_ := h_i8.2.1 1 (by omega)
  have hb2_ := h_i8.2.1 2 (by omega)
  have hr1 : 0 + (260 * M + 2 * S9 M gc) ≤ (260 * M + 2 * S9 M gc) := by omega
  have hr2 : 16 * 0 + (256 * M + S9 M gc) ≤ (256 * M + S9 M gc) := by omega
  obtain ⟨ce, hce⟩ : ∃ q : Nat, q = 0 := ⟨_, rfl⟩
  obtain ⟨se, hse⟩ : ∃ q : Nat, q = 0 := ⟨_, rfl⟩
  rw [← hse] at hr1
  have hr2 : 16 * ce + (256 * M + S9 M gc) ≤ (256 * M + S9 M gc) := by omega
  refine W.widen (k := ce) (n := se) (Nat.zero_le _) (Nat.zero_le _) ?_
  exact by
   refine lv_aload_n hx hb dX9_takeTurns_0 rfl (lv_at hl 0 rfl) ?_
   refine va_get (D := (dC, dI)) (ci := 9) (v := .int (n 0)) (C := RX9) (T := TX9) (N := 15) hx hb hg gb_9 hown hK hP 0 hQ.x0 rfl 5 (by decide) (hg _ gm_fieldLink_RX9_66_ErrandGuild_runCount_I_) (fun _ h9 => h9) rfl dX9_takeTurns_1 ?_
   refine lv_istore_n (lv' := [(1, .int (n 0)), (0, .ref (ad 0))]) hx hb dX9_takeTurns_4 rfl hl (by decide) rfl (fun ls hl => ?_)
   refine lv_iconst (v := 0) hx hb dX9_takeTurns_5 (by decide) ?_
   refine lv_istore_n (lv' := [(2, .int 0), (1, .int (n 0)), (0, .ref (ad 0))]) hx hb dX9_takeTurns_6 rfl hl (by decide) rfl (fun ls hl => ?_)
   have L7 : ∀ (fuel : Nat) (x_1 : Int32)   (ws_12 : va_W) (ad_2 : Nat → Nat) (ga_3 : Nat → Nat) (gc_4 : Nat → Nat) (M_5 : Nat) (n_6 : Nat → Int32) (f_7 : Nat → Nat → Int32) (T_8 : Nat → Option Nat) (G_9 : Nat → Nat → Int32) (K_10 : Nat → Nat → Option Nat) (F_11 : Nat → Nat → Nat → Int32) (ce se : Nat) (H : Heap) (locs : List Loc) (ls : Array Slot), (201 - x_1.toInt).toNat < fuel → (0 ≤ x_1.toInt ∧ x_1.toInt ≤ 200) → (itr bh_turn (fun s => s) x_1.toInt.toNat ((n 0).toInt.toNat - x_1.toInt.toNat) (C9.mk n_6 f_7 T_8 G_9 K_10 F_11) = kh_turns (C9.mk n f T G K F)) → ((n 0).toInt ≤ (n_6 0).toInt) → (M ≤ M_5) → (∀ q : Nat, q < 50 + 16 * M → ad_2 q = ad q) → Pic9 kc ws_12 ad_2 ga_3 gc_4 M_5 n_6 f_7 T_8 G_9 K_10 F_11 → I9 M_5 n_6 f_7 T_8 gc_4 G_9 K_10 F_11 (R + (6 - cT T_8 x_1.toInt.toNat)) → (se + (260 * M + 2 * S9 M gc) ≤ (260 * M_5 + 2 * S9 M_5 gc_4)) → (16 * ce + (256 * M + S9 M gc) ≤ (256 * M_5 + S9 M_5 gc_4)) → va_P (dC, dI) vwCl ws_12 H → va_D A ws_12 → va_S A s.heap H locs → lv_has ls 5 [(2, .int x_1), (1, .int (n 0)), (0, .ref (ad_2 0))] → W p l e (headSpec (.code yX9_takeTurns cX9_takeTurns 5 none :: gw) ({ frames := 6, cells := 84000, slots := 2620000, locals := 198 })).room s m ([.ref (ad 0)] : List Value).toArray below meth c H locs ce se (MQ below (va_Qv (fun (u : (Nat → Nat) × (Nat → Nat) × (Nat → Nat) × Nat × (Nat → Int32) × (Nat → Nat → Int32) × (Nat → Option Nat) × (Nat → Nat → Int32) × (Nat → Nat → Option Nat) × (Nat → Nat → Nat → Int32)) => (C9.mk u.2.2.2.2.1 u.2.2.2.2.2.1 u.2.2.2.2.2.2.1 u.2.2.2.2.2.2.2.1 u.2.2.2.2.2.2.2.2.1 u.2.2.2.2.2.2.2.2.2) = kh_turns (C9.mk n f T G K F)) (fun u t => ∃ w : va_W, va_P (dC, dI) vwCl w t.heap ∧ va_D A w ∧ Pic9 kc w u.1 u.2.1 u.2.2.1 u.2.2.2.1 u.2.2.2.2.1 u.2.2.2.2.2.1 u.2.2.2.2.2.2.1 u.2.2.2.2.2.2.2.1 u.2.2.2.2.2.2.2.2.1 u.2.2.2.2.2.2.2.2.2 ∧ I9 u.2.2.2.1 u.2.2.2.2.1 u.2.2.2.2.2.1 u.2.2.2.2.2.2.1 u.2.2.1 u.2.2.2.2.2.2.2.1 u.2.2.2.2.2.2.2.2.1 u.2.2.2.2.2.2.2.2.2 (R + 6) ∧ hpS t.heap + (260 * M + 2 * S9 M gc) ≤ (hpS s.heap) + (260 * u.2.2.2.1 + 2 * S9 u.2.2.2.1 u.2.2.1) ∧ 16 * t.heap.size + (256 * M + S9 M gc) ≤ 16 * s.heap.size + (256 * u.2.2.2.1 + S9 u.2.2.2.1 u.2.2.1) ∧ (n 0).toInt ≤ (u.2.2.2.2.1 0).toInt ∧ (∀ q : Nat, q < 50 + 16 * M → u.1 q = ad q) ∧ M ≤ u.2.2.2.1) A) ([.ref (ad 0)] : List Value).toArray s 84000 2620000 A) (F0 m 7 ls []) := by
     intro fuel
     induction fuel with
     | zero => intro x_1 ws_12 ad_2 ga_3 gc_4 M_5 n_6 f_7 T_8 G_9 K_10 F_11 ce se H locs ls hm; exact absurd hm (Nat.not_lt_zero _)
     | succ fuel_20 ih_19 =>
       intro x_1 ws_12 ad_2 ga_3 gc_4 M_5 n_6 f_7 T_8 G_9 K_10 F_11 ce se H locs ls hm_13 v_14 v_15 v_16 v_17 hE0 hQ hI_18 hr1 hr2 hP hD hS hl
       obtain ⟨i1_21, i2_22, i3_23, i4_24, i5_25, i6_26, i7_27, i8_28, i9_29, i10_30, i11_31⟩ := id hI_18
       have q1_ := i1_21
       unfold i1 at q1_
       have hSl := S9_le i8_28 i9_29
       have hb0_ := i8_28.2.1 0 (by omega)
       have hb1_ := i8_28.2.1 1 (by omega)
       have hb2_ := i8_28.2.1 2 (by omega)
       have hc0_ := cT_le T_8 x_1.toInt.toNat
       exact by
        refine lv_iload_n hx hb dX9_takeTurns_7 rfl (lv_at hl 0 rfl) ?_
        refine lv_iload_n hx hb dX9_takeTurns_8 rfl (lv_at hl 1 rfl) ?_
        refine lv_icmp_ge (tgt := 84) hx hb dX9_takeTurns_9 (by decide) (fun c_32 => ?_) (fun c_32 => ?_)
        · simp only [i_lt, i_le, i_eq] at c_32
          refine W_msr2 (fun hm1 hm2 hm3 => ?_)
          have hSl := S9_le i8_28 i9_29
          have hb0_ := i8_28.2.1 0 (by omega)
          have hb1_ := i8_28.2.1 1 (by omega)
          have hb2_ := i8_28.2.1 2 (by omega)
          refine W.widen (k := 84000) (n := 2620000) (by omega) (by omega) ?_
          exact W.vret hx hb hr (fun t ht hW => ⟨⟨(ad_2, ga_3, gc_4, M_5, n_6, f_7, T_8, G_9, K_10, F_11), rfl, (by show (C9.mk n_6 f_7 T_8 G_9 K_10 F_11) = kh_turns (C9.mk n f T G K F); have hX := v_15; (first | rw [itr_go (by omega)] at hX | rw [itr_end (by omega)] at hX); (repeat (first | dsimp +instances only [c9n, c9f, c9T, c9G, c9K, c9F, b_come, b_leave, b_fill, awB, b_settle, b_wake, b_take, f_take, b_gather, f_gather, b_ask, a_ask, b_tell, c_close, d_close, k_add, k_rem, sco, k_clrF, k_mem, k_rebind, k_bnd, k_beg0, k_beg1, b_giveN, b_giveR, f_open, b_hand, k_op, b_turn, wlB, b_beat, f_anew, b_wipe, b_off, k_sadd, fits, frP, cntB, b_trace, b_child, k_lat, cond_true, cond_false, Option.elim_none, Option.elim_some, Option.getD_none, Option.getD_some, f_hand, kh_op, bh_turn, bh_beat] at hX | rw [if_pos (by first | with_reducible assumption | omega)] at hX | rw [if_neg (by first | with_reducible assumption | omega)] at hX | rw [jx_of (by omega)] at hX)); first | exact hX | (exfalso; omega) | exact hX), ws_12, by rw [ht]; exact hP, hD, hQ, I9.mono (R := R + (6 - cT T_8 x_1.toInt.toNat)) ⟨i1_21, i2_22, i3_23, i4_24, i5_25, i6_26, i7_27, i8_28, i9_29, i10_30, i11_31⟩ (by omega), by rw [ht]; show hpS H + (260 * M + 2 * S9 M gc) ≤ hpS s.heap + (260 * M_5 + 2 * S9 M_5 gc_4); omega, by rw [ht]; show 16 * H.size + (256 * M + S9 M gc) ≤ 16 * s.heap.size + (256 * M_5 + S9 M_5 gc_4); omega, by show (n 0).toInt ≤ (n_6 0).toInt; omega, hE0, by show M ≤ M_5; omega⟩, hS.F ht⟩) hS.2.2 dX9_takeTurns_84
        · simp only [i_lt, i_le, i_eq] at c_32
          exact by
           refine lv_aload_n hx hb dX9_takeTurns_12 rfl (lv_at hl 2 rfl) ?_
           refine lv_iload_n hx hb dX9_takeTurns_13 rfl (lv_at hl 0 rfl) ?_
           have hFc := free_all hD hS hA
           refine W_msr2 (fun hm1 hm2 hm3 => ?_)
           refine va_callq (va_runV (As := [.int x_1]) (rest := []) ⟨hx, hb, hml, hown, hg⟩ (c_X9_runAt l dC dI kc ws_12 ad_2 ga_3 gc_4 M_5 n_6 f_7 T_8 G_9 K_10 F_11 (R + (6 - cT T_8 x_1.toInt.toNat)) x_1 H.size (hpS H) hQ ⟨i1_21, i2_22, i3_23, i4_24, i5_25, i6_26, i7_27, i8_28, i9_29, i10_30, i11_31⟩) (cwV 1 hg (gw_V gm_methodLink_RX9_134_yX9_runAt gm_instanceMethod_yX9_runAt gm_selects_RX9_yX9_runAt_yX9_runAt gm_initialized_RX9 gm_code_yX9_runAt_cX9_runAt_2_some_object_ErrandGuild_Run_) rfl rfl rfl (by decide +kernel) ⟨Nat.le_of_ble_eq_true rfl, Nat.le_of_ble_eq_true rfl⟩) ⟨fun a U g mk q => by obtain ⟨q0, q1, q2, qP, qK, qD, qN⟩ := q; exact ⟨q0, q1, q2, qP, va_K.moved (u := U) (U := U.calling g mk a) (Vm.Alike.refl U.vm) qK, qD, nx_same (u := U) (U := U.calling g mk a) rfl qN⟩, va_recv hK hP (ci := 9) (q0 := 0) rfl hQ.x0, fun U hU hW => ⟨rfl, by rw [hU], by rw [hU], by rw [hU]; exact hP, va_K.moved hW.alike hK, hD.weaken (fun _ _ _ _ => trivial), nx_warm hW hN⟩⟩ rfl rfl hl.1 rfl (lv_room (Nat.le_of_ble_eq_true rfl)) dX9_takeTurns_14 ⟨by show ce + 0 ≤ 84000; omega, by show se + 0 ≤ 2620000; omega⟩) hS (fun q _ h => hFc q h) hFc (fun r_33 u_34 t H1 locs ht hvm hw hB hz1 hk1 hS => ?_)
           obtain ⟨hP, hD, hy1, hy2⟩ := hB
           rw [ht] at hP hy1 hy2
           have hD := hD.weaken (fun k q _ h => hFc _ h)
           refine W.widen (k := ce) (n := se) (Nat.le_refl _) (Nat.le_refl _) ?_
           have q1_ := i1_21
           unfold i1 at q1_
           generalize H1 = H at hP hS ⊢
           rcases hw with ⟨rfl, w_35⟩ | ⟨rfl, w_35⟩
           · have w_35 : (0 ≤ x_1.toInt ∧ x_1.toInt < (n_6 0).toInt) := w_35
             have hl_36 : x_1.toInt.toNat < M_5 := by omega
             refine W.eq (g2 := F0 m 17 ls [.ref (ad_2 (50 + 16 * x_1.toInt.toNat))]) rfl ?_
             exact by
              refine lv_astore_n (lv' := [(3, .ref (ad_2 (50 + 16 * x_1.toInt.toNat))), (2, .int x_1), (1, .int (n 0)), (0, .ref (ad_2 0))]) hx hb dX9_takeTurns_17 rfl hl (by decide) rfl (fun ls hl => ?_)
              refine lv_aload_n hx hb dX9_takeTurns_18 rfl (lv_at hl 0 rfl) ?_
              refine lv_ifnull hx hb dX9_takeTurns_19 ?_
              refine lv_aload_n hx hb dX9_takeTurns_22 rfl (lv_at hl 0 rfl) ?_
              refine va_get (D := (dC, dI)) (ci := 7) (v := .int (G_9 x_1.toInt.toNat 2)) (C := RX7) (T := TX7) (N := 15) hx hb hg gb_7 hown hK hP (50 + 16 * x_1.toInt.toNat) (hQ.b0 hl_36) rfl 2 (by decide) (hg _ gm_fieldLink_RX9_145_ErrandGuild_Run_state_I_) (fun _ h9 => h9) rfl dX9_takeTurns_23 ?_
              refine lv_iconst (v := 1) hx hb dX9_takeTurns_26 (by decide) ?_
              refine lv_icmp_ne (tgt := 78) hx hb dX9_takeTurns_27 (by decide) (fun c_37 => ?_) (fun c_37 => ?_)
              · simp only [i_lt, i_le, i_eq, ti_1] at c_37
                obtain ⟨y_38, ey_38⟩ : ∃ q : Int32, q = x_1 + (1) := ⟨_, rfl⟩
                refine lv_iinc (v := y_38) (lv' := [(2, .int y_38), (3, .ref (ad_2 (50 + 16 * x_1.toInt.toNat))), (1, .int (n 0)), (0, .ref (ad_2 0))]) hx hb dX9_takeTurns_78 hl (k := 1) rfl (by rw [ey_38]; rfl) (by decide) rfl (fun ls hl => ?_)
                have ty_38 : y_38.toInt = x_1.toInt + (1) := ar_add rfl ti_1 ey_38 (by omega)
                have hy_ : y_38.toInt.toNat = x_1.toInt.toNat + 1 := by omega
                have hc1_ := cT_up T_8 hy_
                exact by
                 refine lv_goto (tgt := 7) hx hb dX9_takeTurns_81 (by decide) ?_
                 exact ih_19 y_38   ws_12 ad_2 ga_3 gc_4 M_5 n_6 f_7 T_8 G_9 K_10 F_11 ce se H locs ls (by show (201 - y_38.toInt).toNat < _; omega) (by show 0 ≤ y_38.toInt ∧ y_38.toInt ≤ 200; omega) (by show itr bh_turn (fun s => s) y_38.toInt.toNat ((n 0).toInt.toNat - y_38.toInt.toNat) (C9.mk n_6 f_7 T_8 G_9 K_10 F_11) = kh_turns (C9.mk n f T G K F); have hX := v_15; (first | rw [itr_go (by omega)] at hX | rw [itr_end (by omega)] at hX); (repeat (first | dsimp +instances only [c9n, c9f, c9T, c9G, c9K, c9F, b_come, b_leave, b_fill, awB, b_settle, b_wake, b_take, f_take, b_gather, f_gather, b_ask, a_ask, b_tell, c_close, d_close, k_add, k_rem, sco, k_clrF, k_mem, k_rebind, k_bnd, k_beg0, k_beg1, b_giveN, b_giveR, f_open, b_hand, k_op, b_turn, wlB, b_beat, f_anew, b_wipe, b_off, k_sadd, fits, frP, cntB, b_trace, b_child, k_lat, cond_true, cond_false, Option.elim_none, Option.elim_some, Option.getD_none, Option.getD_some, f_hand, kh_op, bh_turn, bh_beat] at hX | rw [if_pos (by first | with_reducible assumption | omega)] at hX | rw [if_neg (by first | with_reducible assumption | omega)] at hX | rw [jx_of (by omega)] at hX)); (rw [show y_38.toInt.toNat = x_1.toInt.toNat + 1 by omega]); first | exact hX | (exfalso; omega) | exact hX) (by show (n 0).toInt ≤ (n_6 0).toInt; omega) (by show M ≤ M_5; omega) hE0 hQ (I9.mono (R := R + (6 - cT T_8 x_1.toInt.toNat)) ⟨i1_21, i2_22, i3_23, i4_24, i5_25, i6_26, i7_27, i8_28, i9_29, i10_30, i11_31⟩ (by omega)) hr1 hr2 hP hD hS (lv_sub hl [0, 2, 3] rfl)
              · simp only [i_lt, i_le, i_eq, ti_1] at c_37
                have h7_ := i7_27 x_1.toInt.toNat (by omega) (by omega)
                have h6_39 := i6_26 x_1.toInt.toNat (by omega) h7_.1 h7_.2
                have hc6_ := cT_le T_8 x_1.toInt.toNat
                have hc7_ := cT_own T_8 (r := x_1.toInt.toNat) (r' := x_1.toInt.toNat + 1) rfl (by omega) h6_39
                refine lv_aload_n hx hb dX9_takeTurns_30 rfl (lv_at hl 3 rfl) ?_
                refine lv_aload_n hx hb dX9_takeTurns_31 rfl (lv_at hl 0 rfl) ?_
                have hFc := free_all hD hS hA
                refine W_msr2 (fun hm1 hm2 hm3 => ?_)
                refine va_callv (va_runV (As := [.ref (ad_2 (50 + 16 * x_1.toInt.toNat))]) (rest := []) ⟨hx, hb, hml, hown, hg⟩ (c_X9_noteTurn l dC dI kc ws_12 ad_2 ga_3 gc_4 M_5 n_6 f_7 T_8 G_9 K_10 F_11 (R + (6 - cT T_8 x_1.toInt.toNat)) x_1.toInt.toNat H.size (hpS H) hQ ⟨i1_21, i2_22, i3_23, i4_24, i5_25, i6_26, i7_27, i8_28, i9_29, i10_30, i11_31⟩ (by show x_1.toInt.toNat < M_5; omega) (by show (R + (6 - cT T_8 x_1.toInt.toNat)) ≤ 310000; omega)) (cwV 1 hg (gw_V gm_methodLink_RX9_286_yX9_noteTurn gm_instanceMethod_yX9_noteTurn gm_selects_RX9_yX9_noteTurn_yX9_noteTurn gm_initialized_RX9 gm_code_yX9_noteTurn_cX9_noteTurn_2_none) rfl rfl rfl (by decide +kernel) ⟨Nat.le_of_ble_eq_true rfl, Nat.le_of_ble_eq_true rfl⟩) ⟨fun a U g mk q => by obtain ⟨q0, q1, q2, qP, qK, qD, qN⟩ := q; exact ⟨q0, q1, q2, qP, va_K.moved (u := U) (U := U.calling g mk a) (Vm.Alike.refl U.vm) qK, qD, nx_same (u := U) (U := U.calling g mk a) rfl qN⟩, va_recv hK hP (ci := 9) (q0 := 0) rfl hQ.x0, fun U hU hW => ⟨rfl, by rw [hU], by rw [hU], by rw [hU]; exact hP, va_K.moved hW.alike hK, hD.weaken (fun _ _ _ _ => trivial), nx_warm hW hN⟩⟩ rfl rfl hl.1 rfl (lv_room (Nat.le_of_ble_eq_true rfl)) dX9_takeTurns_32 ⟨by show ce + 600 ≤ 84000; omega, by show se + 33000 ≤ 2620000; omega⟩) hS (fun q _ h => hFc q h) hFc (fun u_41 t H1 locs ht hvm hw hB hz1 hk1 hS => ?_)
                obtain ⟨ad_42, ga_43, gc_44, M_45, n_46, f_47, T_48, G_49, K_50, F_51⟩ := u_41
                have hB : ∃ w : va_W, va_P (dC, dI) vwCl w t.heap ∧ va_D (va_A ws_12 H.size) w ∧ Pic9 kc w ad_2 ga_43 gc_44 M_5 n_46 f_47 T_8 G_49 K_10 F_11 ∧ I9 M_5 n_46 f_47 T_8 gc_44 G_49 K_10 F_11 (R + (6 - cT T_8 x_1.toInt.toNat)) ∧ hpS t.heap + (260 * M_5 + 2 * S9 M_5 gc_4) ≤ hpS H + (260 * M_5 + 2 * S9 M_5 gc_44) ∧ 16 * t.heap.size + (256 * M_5 + S9 M_5 gc_4) ≤ 16 * H.size + (256 * M_5 + S9 M_5 gc_44) ∧ (n_6 0).toInt ≤ (n_46 0).toInt := hB
                rw [ht] at hB
                obtain ⟨ws_52, hP, hD, hQ, hI_54, hy1, hy2, hn_53⟩ := hB
                have hD := hD.weaken (fun k q _ h => hFc _ h)
                obtain ⟨i1_55, i2_56, i3_57, i4_58, i5_59, i6_60, i7_61, i8_62, i9_63, i10_64, i11_65⟩ := id hI_54
                have q1_ := i1_55
                unfold i1 at q1_
                have hSl := S9_le i8_62 i9_63
                have hb0_ := i8_62.2.1 0 (by omega)
                have hb1_ := i8_62.2.1 1 (by omega)
                have hb2_ := i8_62.2.1 2 (by omega)
                refine W_msr2 (fun hn1 hn2 hn3 => ?_)
                obtain ⟨ce2, se2, hk3, hk4, hr1, hr2⟩ : ∃ c2 s2 : Nat, H1.size ≤ s.heap.size + c2 ∧ hpS H1 ≤ hpS s.heap + s2 ∧ s2 + (260 * M + 2 * S9 M gc) ≤ (260 * M_5 + 2 * S9 M_5 gc_44) ∧ 16 * c2 + (256 * M + S9 M gc) ≤ (256 * M_5 + S9 M_5 gc_44) := ⟨H1.size - s.heap.size, hpS H1 - hpS s.heap, by omega, by omega, by have := hS.1; omega, by have := hS.1; omega⟩
                refine W_tightP hk3 hk4 ?_
                clear hm1 hm2 hm3 hn1 hn2 hn3 hk3 hk4
                clear hk1 hz1
                generalize ce2 = ce, se2 = se at hr1 hr2 ⊢
                generalize H1 = H at hP hS ⊢
                have hc_67 : (C9.mk n_46 f_47 T_8 G_49 K_10 F_11) = k_note x_1.toInt.toNat (C9.mk n_6 f_7 T_8 G_9 K_10 F_11) := hw.1
                have w_66 : S9 M_5 gc_44 + gc_4 2 ≤ S9 M_5 gc_4 + gc_44 2 ∧ (n_46 0).toInt = (n_6 0).toInt := hw.2
                exact by
                 refine lv_aload_n hx hb dX9_takeTurns_35 rfl (lv_at hl 0 rfl) ?_
                 refine va_get (D := (dC, dI)) (ci := 7) (v := .int (G_49 x_1.toInt.toNat 8)) (C := RX7) (T := TX7) (N := 15) hx hb hg gb_7 hown hK hP (50 + 16 * x_1.toInt.toNat) (hQ.b0 hl_36) rfl 8 (by decide) (hg _ gm_fieldLink_RX9_141_ErrandGuild_Run_interrupted_Z_) (fun _ h9 => h9) rfl dX9_takeTurns_36 ?_
                 refine lv_if_ne (tgt := 49) hx hb dX9_takeTurns_39 (by decide) (fun c_68 => ?_) (fun c_68 => ?_)
                 · simp only [i_lt, i_le, i_eq, ti_0] at c_68
                   refine lv_iconst (v := 1) hx hb dX9_takeTurns_49 (by decide) ?_
                   refine lv_goto (tgt := 54) hx hb dX9_takeTurns_50 (by decide) ?_
                   refine lv_istore (lv' := [(4, .int 1), (3, .ref (ad_2 (50 + 16 * x_1.toInt.toNat))), (2, .int x_1), (1, .int (n 0)), (0, .ref (ad_2 0))]) hx hb dX9_takeTurns_54 hl (by decide) rfl (fun ls hl => ?_)
                   refine lv_aload_n hx hb dX9_takeTurns_56 rfl (lv_at hl 4 rfl) ?_
                   refine lv_aload_n hx hb dX9_takeTurns_57 rfl (lv_at hl 1 rfl) ?_
                   refine lv_iload hx hb dX9_takeTurns_58 (lv_at hl 0 rfl) ?_
                   refine lv_if_eq (tgt := 70) hx hb dX9_takeTurns_60 (by decide) (fun c_69 => absurd c_69 (by decide)) (fun _ => ?_)
                   refine lv_aload_n hx hb dX9_takeTurns_63 rfl (lv_at hl 1 rfl) ?_
                   have hFc := free_all hD hS hA
                   refine W_msr2 (fun hm1 hm2 hm3 => ?_)
                   exact by
                    refine va_calli (va_runS (As := [.ref (ad_2 (50 + 16 * x_1.toInt.toNat))]) (rest := [.ref (ad_2 (50 + 16 * x_1.toInt.toNat)), .ref (ad_2 0)]) ⟨hx, hb, hml, hown, hg⟩ (c_X9_standIn l dC dI kc ws_52 ad_2 ga_43 gc_44 M_5 n_46 f_47 T_8 G_49 K_10 F_11 (R + (6 - cT T_8 x_1.toInt.toNat)) x_1.toInt.toNat H.size (hpS H) hQ ⟨i1_55, i2_56, i3_57, i4_58, i5_59, i6_60, i7_61, i8_62, i9_63, i10_64, i11_65⟩ (by show x_1.toInt.toNat < M_5; omega)) (va_cwS 1 hg (gw_S gm_methodLink_RX9_292_yX9_standIn gm_static_yX9_standIn gm_initialized_RX9 gm_code_yX9_standIn_cX9_standIn_1_some_int_) rfl rfl rfl (by decide +kernel) ⟨Nat.le_of_ble_eq_true rfl, Nat.le_of_ble_eq_true rfl⟩) ⟨fun a U g mk q => by obtain ⟨q0, q1, q2, qP, qK, qD, qN⟩ := q; exact ⟨q0, q1, q2, qP, va_K.moved (u := U) (U := U.calling g mk a) (Vm.Alike.refl U.vm) qK, qD, nx_same (u := U) (U := U.calling g mk a) rfl qN⟩, fun U hU hW => ⟨rfl, by rw [hU], by rw [hU], by rw [hU]; exact hP, va_K.moved hW.alike hK, hD.weaken (fun _ _ _ _ => trivial), nx_warm hW hN⟩⟩ rfl rfl hl.1 rfl (lv_room (Nat.le_of_ble_eq_true rfl)) dX9_takeTurns_64 ⟨by show ce + 0 ≤ 84000; omega, by show se + 0 ≤ 2620000; omega⟩) hS (fun q _ h => hFc q h) hFc (fun r_70 u_71 t H1 locs ht hvm hw hB hz1 hk1 hS => ?_)
                    obtain ⟨ad_72, ga_73, gc_74, M_75, n_76, f_77, T_78, G_79, K_80, F_81⟩ := u_71
                    have hB : ∃ w : va_W, va_P (dC, dI) vwCl w t.heap ∧ va_D (va_A ws_52 H.size) w ∧ Pic9 kc w ad_2 ga_43 gc_44 M_5 n_46 f_47 T_8 G_79 K_10 F_11 ∧ I9 M_5 n_46 f_47 T_8 gc_44 G_79 K_10 F_11 (R + (6 - cT T_8 x_1.toInt.toNat)) ∧ hpS t.heap + (260 * M_5 + 2 * S9 M_5 gc_44) ≤ hpS H + (260 * M_5 + 2 * S9 M_5 gc_44) ∧ 16 * t.heap.size + (256 * M_5 + S9 M_5 gc_44) ≤ 16 * H.size + (256 * M_5 + S9 M_5 gc_44) := hB
                    rw [ht] at hB
                    obtain ⟨ws_82, hP, hD, hQ, hI_83, hy1, hy2⟩ := hB
                    have hD := hD.weaken (fun k q _ h => hFc _ h)
                    obtain ⟨i1_84, i2_85, i3_86, i4_87, i5_88, i6_89, i7_90, i8_91, i9_92, i10_93, i11_94⟩ := id hI_83
                    have q1_ := i1_84
                    unfold i1 at q1_
                    have hSl := S9_le i8_91 i9_92
                    have hb0_ := i8_91.2.1 0 (by omega)
                    have hb1_ := i8_91.2.1 1 (by omega)
                    have hb2_ := i8_91.2.1 2 (by omega)
                    refine W_msr2 (fun hn1 hn2 hn3 => ?_)
                    obtain ⟨ce2, se2, hk3, hk4, hr1, hr2⟩ : ∃ c2 s2 : Nat, H1.size ≤ s.heap.size + c2 ∧ hpS H1 ≤ hpS s.heap + s2 ∧ s2 + (260 * M + 2 * S9 M gc) ≤ (260 * M_5 + 2 * S9 M_5 gc_44) ∧ 16 * c2 + (256 * M + S9 M gc) ≤ (256 * M_5 + S9 M_5 gc_44) := ⟨H1.size - s.heap.size, hpS H1 - hpS s.heap, by omega, by omega, by have := hS.1; omega, by have := hS.1; omega⟩
                    refine W_tightP hk3 hk4 ?_
                    clear hm1 hm2 hm3 hn1 hn2 hn3 hk3 hk4
                    clear hk1 hz1
                    generalize ce2 = ce, se2 = se at hr1 hr2 ⊢
                    generalize H1 = H at hP hS ⊢
                    have hc_96 : ((C9.mk n_46 f_47 T_8 G_79 K_10 F_11), r_70) = k_stand x_1.toInt.toNat (C9.mk n_46 f_47 T_8 G_49 K_10 F_11) := hw
                    exact by
                     refine lv_goto (tgt := 75) hx hb dX9_takeTurns_67 (by decide) ?_
                     have hFc := free_all hD hS hA
                     refine W_msr2 (fun hm1 hm2 hm3 => ?_)
                     refine va_callv (va_runV (As := [.ref (ad_2 (50 + 16 * x_1.toInt.toNat)), .int r_70]) (rest := []) ⟨hx, hb, hml, hown, hg⟩ (c_X9_closeTurn l dC dI kc ws_82 ad_2 ga_43 gc_44 M_5 n_46 f_47 T_8 G_79 K_10 F_11 (R + (6 - cT T_8 x_1.toInt.toNat)) x_1.toInt.toNat r_70 H.size (hpS H) hQ ⟨i1_84, i2_85, i3_86, i4_87, i5_88, i6_89, i7_90, i8_91, i9_92, i10_93, i11_94⟩ (by show x_1.toInt.toNat < M_5; omega) (by show (x_1.toInt.toNat : Int) < (n_46 0).toInt; omega) (by show (R + (6 - cT T_8 x_1.toInt.toNat)) ≤ 310000; omega)) (cwV 2 hg (gw_V gm_methodLink_RX9_299_yX9_closeTurn gm_instanceMethod_yX9_closeTurn gm_selects_RX9_yX9_closeTurn_yX9_closeTurn gm_initialized_RX9 gm_code_yX9_closeTurn_cX9_closeTurn_3_none) rfl rfl rfl (by decide +kernel) ⟨Nat.le_of_ble_eq_true rfl, Nat.le_of_ble_eq_true rfl⟩) ⟨fun a U g mk q => by obtain ⟨q0, q1, q2, qP, qK, qD, qN⟩ := q; exact ⟨q0, q1, q2, qP, va_K.moved (u := U) (U := U.calling g mk a) (Vm.Alike.refl U.vm) qK, qD, nx_same (u := U) (U := U.calling g mk a) rfl qN⟩, va_recv hK hP (ci := 9) (q0 := 0) rfl hQ.x0, fun U hU hW => ⟨rfl, by rw [hU], by rw [hU], by rw [hU]; exact hP, va_K.moved hW.alike hK, hD.weaken (fun _ _ _ _ => trivial), nx_warm hW hN⟩⟩ rfl rfl hl.1 rfl (lv_room (Nat.le_of_ble_eq_true rfl)) dX9_takeTurns_75 ⟨by show ce + 2400 ≤ 84000; omega, by show se + 84000 ≤ 2620000; omega⟩) hS (fun q _ h => hFc q h) hFc (fun u_98 t H1 locs ht hvm hw hB hz1 hk1 hS => ?_)
                     obtain ⟨ad_99, ga_100, gc_101, M_102, n_103, f_104, T_105, G_106, K_107, F_108⟩ := u_98
                     have hB : ∃ w : va_W, va_P (dC, dI) vwCl w t.heap ∧ va_D (va_A ws_82 H.size) w ∧ Pic9 kc w ad_2 ga_100 gc_101 M_5 n_103 f_104 T_105 G_106 K_10 F_108 ∧ I9 M_5 n_103 f_104 T_105 gc_101 G_106 K_10 F_108 (R + (6 - cT T_8 x_1.toInt.toNat)) ∧ hpS t.heap + (260 * M_5 + 2 * S9 M_5 gc_44) ≤ hpS H + (260 * M_5 + 2 * S9 M_5 gc_101) ∧ 16 * t.heap.size + (256 * M_5 + S9 M_5 gc_44) ≤ 16 * H.size + (256 * M_5 + S9 M_5 gc_101) ∧ (n_46 0).toInt ≤ (n_103 0).toInt := hB
                     rw [ht] at hB
                     obtain ⟨ws_109, hP, hD, hQ, hI_111, hy1, hy2, hn_110⟩ := hB
                     have hD := hD.weaken (fun k q _ h => hFc _ h)
                     obtain ⟨i1_112, i2_113, i3_114, i4_115, i5_116, i6_117, i7_118, i8_119, i9_120, i10_121, i11_122⟩ := id hI_111
                     have q1_ := i1_112
                     unfold i1 at q1_
                     have hSl := S9_le i8_119 i9_120
                     have hb0_ := i8_119.2.1 0 (by omega)
                     have hb1_ := i8_119.2.1 1 (by omega)
                     have hb2_ := i8_119.2.1 2 (by omega)
                     refine W_msr2 (fun hn1 hn2 hn3 => ?_)
                     obtain ⟨ce2, se2, hk3, hk4, hr1, hr2⟩ : ∃ c2 s2 : Nat, H1.size ≤ s.heap.size + c2 ∧ hpS H1 ≤ hpS s.heap + s2 ∧ s2 + (260 * M + 2 * S9 M gc) ≤ (260 * M_5 + 2 * S9 M_5 gc_101) ∧ 16 * c2 + (256 * M + S9 M gc) ≤ (256 * M_5 + S9 M_5 gc_101) := ⟨H1.size - s.heap.size, hpS H1 - hpS s.heap, by omega, by omega, by have := hS.1; omega, by have := hS.1; omega⟩
                     refine W_tightP hk3 hk4 ?_
                     clear hm1 hm2 hm3 hn1 hn2 hn3 hk3 hk4
                     clear hk1 hz1
                     generalize ce2 = ce, se2 = se at hr1 hr2 ⊢
                     generalize H1 = H at hP hS ⊢
                     have hc_124 : (C9.mk n_103 f_104 T_105 G_106 K_10 F_108) = k_close x_1.toInt.toNat r_70 (C9.mk n_46 f_47 T_8 G_79 K_10 F_11) := hw.1
                     have w_123 : S9 M_5 gc_101 + gc_44 1 ≤ S9 M_5 gc_44 + gc_101 1 ∧ (n_103 0).toInt = (n_46 0).toInt ∧ (∀ t : Nat, T_105 t = T_8 t ∨ T_105 t = none) := hw.2
                     obtain ⟨y_125, ey_125⟩ : ∃ q : Int32, q = x_1 + (1) := ⟨_, rfl⟩
                     exact by
                      refine lv_iinc (v := y_125) (lv' := [(2, .int y_125), (4, .int 1), (3, .ref (ad_2 (50 + 16 * x_1.toInt.toNat))), (1, .int (n 0)), (0, .ref (ad_2 0))]) hx hb dX9_takeTurns_78 hl (k := 2) rfl (by rw [ey_125]; rfl) (by decide) rfl (fun ls hl => ?_)
                      have ty_125 : y_125.toInt = x_1.toInt + (1) := ar_add rfl ti_1 ey_125 (by omega)
                      have hy_ : y_125.toInt.toNat = x_1.toInt.toNat + 1 := by omega
                      have hc1_ := cT_own T_8 hy_ (by omega) h6_39
                      have hc2_ := cT_off (T := T_8) (T2 := T_105) w_123.2.2 y_125.toInt.toNat
                      refine lv_goto (tgt := 7) hx hb dX9_takeTurns_81 (by decide) ?_
                      exact ih_19 y_125   ws_109 ad_2 ga_100 gc_101 M_5 n_103 f_104 T_105 G_106 K_10 F_108 ce se H locs ls (by show (201 - y_125.toInt).toNat < _; omega) (by show 0 ≤ y_125.toInt ∧ y_125.toInt ≤ 200; omega) (by show itr bh_turn (fun s => s) y_125.toInt.toNat ((n 0).toInt.toNat - y_125.toInt.toNat) (C9.mk n_103 f_104 T_105 G_106 K_10 F_108) = kh_turns (C9.mk n f T G K F); have hX := v_15; (first | rw [itr_go (by omega)] at hX | rw [itr_end (by omega)] at hX); (repeat (first | dsimp +instances only [c9n, c9f, c9T, c9G, c9K, c9F, b_come, b_leave, b_fill, awB, b_settle, b_wake, b_take, f_take, b_gather, f_gather, b_ask, a_ask, b_tell, c_close, d_close, k_add, k_rem, sco, k_clrF, k_mem, k_rebind, k_bnd, k_beg0, k_beg1, b_giveN, b_giveR, f_open, b_hand, k_op, b_turn, wlB, b_beat, f_anew, b_wipe, b_off, k_sadd, fits, frP, cntB, b_trace, b_child, k_lat, cond_true, cond_false, Option.elim_none, Option.elim_some, Option.getD_none, Option.getD_some, f_hand, kh_op, bh_turn, bh_beat] at hX | rw [← hc_67] at hX | rw [← hc_96] at hX | rw [← hc_124] at hX | rw [if_pos (by first | with_reducible assumption | omega)] at hX | rw [if_neg (by first | with_reducible assumption | omega)] at hX | rw [jx_of (by omega)] at hX)); (rw [show y_125.toInt.toNat = x_1.toInt.toNat + 1 by omega]); first | exact hX | (exfalso; omega) | exact hX) (by show (n 0).toInt ≤ (n_103 0).toInt; omega) (by show M ≤ M_5; omega) hE0 hQ (I9.mono (R := (R + (6 - cT T_8 x_1.toInt.toNat))) ⟨i1_112, i2_113, i3_114, i4_115, i5_116, i6_117, i7_118, i8_119, i9_120, i10_121, i11_122⟩ (by omega)) hr1 hr2 hP hD hS (lv_sub hl [0, 3, 4] rfl)
                 · simp only [i_lt, i_le, i_eq, ti_0] at c_68
                   refine lv_aload_n hx hb dX9_takeTurns_42 rfl (lv_at hl 0 rfl) ?_
                   refine va_get (D := (dC, dI)) (ci := 7) (v := .int (G_49 x_1.toInt.toNat 9)) (C := RX7) (T := TX7) (N := 15) hx hb hg gb_7 hown hK hP (50 + 16 * x_1.toInt.toNat) (hQ.b0 hl_36) rfl 9 (by decide) (hg _ gm_fieldLink_RX9_289_ErrandGuild_Run_returning_Z_) (fun _ h9 => h9) rfl dX9_takeTurns_43 ?_
                   refine lv_if_eq (tgt := 53) hx hb dX9_takeTurns_46 (by decide) (fun c_126 => ?_) (fun c_126 => ?_)
                   · simp only [i_lt, i_le, i_eq, ti_0] at c_126
                     refine lv_iconst (v := 0) hx hb dX9_takeTurns_53 (by decide) ?_
                     refine lv_istore (lv' := [(4, .int 0), (3, .ref (ad_2 (50 + 16 * x_1.toInt.toNat))), (2, .int x_1), (1, .int (n 0)), (0, .ref (ad_2 0))]) hx hb dX9_takeTurns_54 hl (by decide) rfl (fun ls hl => ?_)
                     refine lv_aload_n hx hb dX9_takeTurns_56 rfl (lv_at hl 4 rfl) ?_
                     refine lv_aload_n hx hb dX9_takeTurns_57 rfl (lv_at hl 1 rfl) ?_
                     refine lv_iload hx hb dX9_takeTurns_58 (lv_at hl 0 rfl) ?_
                     refine lv_if_eq (tgt := 70) hx hb dX9_takeTurns_60 (by decide) (fun _ => ?_) (fun c_127 => absurd c_127 (by decide))
                     refine lv_aload_n hx hb dX9_takeTurns_70 rfl (lv_at hl 4 rfl) ?_
                     exact by
                      refine lv_aload_n hx hb dX9_takeTurns_71 rfl (lv_at hl 1 rfl) ?_
                      have hFc := free_all hD hS hA
                      refine W_msr2 (fun hm1 hm2 hm3 => ?_)
                      refine va_calli (va_runV (As := [.ref (ad_2 (50 + 16 * x_1.toInt.toNat))]) (rest := [.ref (ad_2 (50 + 16 * x_1.toInt.toNat)), .ref (ad_2 0)]) ⟨hx, hb, hml, hown, hg⟩ (c_X9_doStep l dC dI kc ws_52 ad_2 ga_43 gc_44 M_5 n_46 f_47 T_8 G_49 K_10 F_11 (R + (6 - cT T_8 x_1.toInt.toNat)) x_1.toInt.toNat H.size (hpS H) hQ ⟨i1_55, i2_56, i3_57, i4_58, i5_59, i6_60, i7_61, i8_62, i9_63, i10_64, i11_65⟩ (by show x_1.toInt.toNat < M_5; omega) (by show (x_1.toInt.toNat : Int) < (n_46 0).toInt; omega) (by show (R + (6 - cT T_8 x_1.toInt.toNat)) + 1 ≤ 310000; omega)) (cwV 1 hg (gw_V gm_methodLink_RX9_296_yX9_doStep gm_instanceMethod_yX9_doStep gm_selects_RX9_yX9_doStep_yX9_doStep gm_initialized_RX9 gm_code_yX9_doStep_cX9_doStep_6_some_int_) rfl rfl rfl (by decide +kernel) ⟨Nat.le_of_ble_eq_true rfl, Nat.le_of_ble_eq_true rfl⟩) ⟨fun a U g mk q => by obtain ⟨q0, q1, q2, qP, qK, qD, qN⟩ := q; exact ⟨q0, q1, q2, qP, va_K.moved (u := U) (U := U.calling g mk a) (Vm.Alike.refl U.vm) qK, qD, nx_same (u := U) (U := U.calling g mk a) rfl qN⟩, va_recv hK hP (ci := 9) (q0 := 0) rfl hQ.x0, fun U hU hW => ⟨rfl, by rw [hU], by rw [hU], by rw [hU]; exact hP, va_K.moved hW.alike hK, hD.weaken (fun _ _ _ _ => trivial), nx_warm hW hN⟩⟩ rfl rfl hl.1 rfl (lv_room (Nat.le_of_ble_eq_true rfl)) dX9_takeTurns_72 ⟨by show ce + 40000 ≤ 84000; omega, by show se + 1250000 ≤ 2620000; omega⟩) hS (fun q _ h => hFc q h) hFc (fun r_128 u_129 t H1 locs ht hvm hw hB hz1 hk1 hS => ?_)
                      obtain ⟨ad_130, ga_131, gc_132, M_133, n_134, f_135, T_136, G_137, K_138, F_139⟩ := u_129
                      have hB : ∃ w : va_W, va_P (dC, dI) vwCl w t.heap ∧ va_D (va_A ws_52 H.size) w ∧ Pic9 kc w ad_130 ga_131 gc_132 M_133 n_134 f_135 T_8 G_137 K_138 F_139 ∧ I9 M_133 n_134 f_135 T_8 gc_132 G_137 K_138 F_139 ((R + (6 - cT T_8 x_1.toInt.toNat)) + 1) ∧ hpS t.heap + (260 * M_5 + 2 * S9 M_5 gc_44) ≤ hpS H + (260 * M_133 + 2 * S9 M_133 gc_132) ∧ 16 * t.heap.size + (256 * M_5 + S9 M_5 gc_44) ≤ 16 * H.size + (256 * M_133 + S9 M_133 gc_132) ∧ (n_46 0).toInt ≤ (n_134 0).toInt ∧ (∀ q : Nat, q < 50 + 16 * M_5 → ad_130 q = ad_2 q) ∧ M_5 ≤ M_133 := hB
                      rw [ht] at hB
                      obtain ⟨ws_140, hP, hD, hQ, hI_144, hy1, hy2, hn_141, hE_142, hM_143⟩ := hB
                      have hD := hD.weaken (fun k q _ h => hFc _ h)
                      obtain ⟨i1_145, i2_146, i3_147, i4_148, i5_149, i6_150, i7_151, i8_152, i9_153, i10_154, i11_155⟩ := id hI_144
                      have hl_156 : x_1.toInt.toNat < M_133 := by omega
                      have q1_ := i1_145
                      unfold i1 at q1_
                      have hSl := S9_le i8_152 i9_153
                      have hb0_ := i8_152.2.1 0 (by omega)
                      have hb1_ := i8_152.2.1 1 (by omega)
                      have hb2_ := i8_152.2.1 2 (by omega)
                      refine W_msr2 (fun hn1 hn2 hn3 => ?_)
                      obtain ⟨ce2, se2, hk3, hk4, hr1, hr2⟩ : ∃ c2 s2 : Nat, H1.size ≤ s.heap.size + c2 ∧ hpS H1 ≤ hpS s.heap + s2 ∧ s2 + (260 * M + 2 * S9 M gc) ≤ (260 * M_133 + 2 * S9 M_133 gc_132) ∧ 16 * c2 + (256 * M + S9 M gc) ≤ (256 * M_133 + S9 M_133 gc_132) := ⟨H1.size - s.heap.size, hpS H1 - hpS s.heap, by omega, by omega, by have := hS.1; omega, by have := hS.1; omega⟩
                      refine W_tightP hk3 hk4 ?_
                      clear hm1 hm2 hm3 hn1 hn2 hn3 hk3 hk4
                      clear hk1 hz1
                      generalize ce2 = ce, se2 = se at hr1 hr2 ⊢
                      generalize H1 = H at hP hS ⊢
                      have hE_157 : ∀ q : Nat, q < 50 + 16 * M → ad_130 q = ad q := fun q hq => (hE_142 q (by omega)).trans (hE0 q hq)
                      have hl : lv_has ls 5 [(4, .int 0), (3, .ref (ad_130 (50 + 16 * x_1.toInt.toNat))), (2, .int x_1), (1, .int (n 0)), (0, .ref (ad_130 0))] := by rw [hE_142 (50 + 16 * x_1.toInt.toNat) (by omega), hE_142 0 (by omega)]; exact hl
                      have hc_159 : ((C9.mk n_134 f_135 T_8 G_137 K_138 F_139), r_128) = kh_step x_1.toInt.toNat (C9.mk n_46 f_47 T_8 G_49 K_10 F_11) := hw
                      refine W.eq (g2 := F0 m 75 ls [.int r_128, .ref (ad_130 (50 + 16 * x_1.toInt.toNat)), .ref (ad_130 0)]) (by first | rfl | (simp only [hE_142 (50 + 16 * x_1.toInt.toNat) (by omega), hE_142 0 (by omega)]))  ?_
                      have hFc := free_all hD hS hA
                      refine W_msr2 (fun hm1 hm2 hm3 => ?_)
                      exact by
                       refine va_callv (va_runV (As := [.ref (ad_130 (50 + 16 * x_1.toInt.toNat)), .int r_128]) (rest := []) ⟨hx, hb, hml, hown, hg⟩ (c_X9_closeTurn l dC dI kc ws_140 ad_130 ga_131 gc_132 M_133 n_134 f_135 T_8 G_137 K_138 F_139 ((R + (6 - cT T_8 x_1.toInt.toNat)) + 1) x_1.toInt.toNat r_128 H.size (hpS H) hQ ⟨i1_145, i2_146, i3_147, i4_148, i5_149, i6_150, i7_151, i8_152, i9_153, i10_154, i11_155⟩ (by show x_1.toInt.toNat < M_133; omega) (by show (x_1.toInt.toNat : Int) < (n_134 0).toInt; omega) (by show ((R + (6 - cT T_8 x_1.toInt.toNat)) + 1) ≤ 310000; omega)) (cwV 2 hg (gw_V gm_methodLink_RX9_299_yX9_closeTurn gm_instanceMethod_yX9_closeTurn gm_selects_RX9_yX9_closeTurn_yX9_closeTurn gm_initialized_RX9 gm_code_yX9_closeTurn_cX9_closeTurn_3_none) rfl rfl rfl (by decide +kernel) ⟨Nat.le_of_ble_eq_true rfl, Nat.le_of_ble_eq_true rfl⟩) ⟨fun a U g mk q => by obtain ⟨q0, q1, q2, qP, qK, qD, qN⟩ := q; exact ⟨q0, q1, q2, qP, va_K.moved (u := U) (U := U.calling g mk a) (Vm.Alike.refl U.vm) qK, qD, nx_same (u := U) (U := U.calling g mk a) rfl qN⟩, va_recv hK hP (ci := 9) (q0 := 0) rfl hQ.x0, fun U hU hW => ⟨rfl, by rw [hU], by rw [hU], by rw [hU]; exact hP, va_K.moved hW.alike hK, hD.weaken (fun _ _ _ _ => trivial), nx_warm hW hN⟩⟩ rfl rfl hl.1 rfl (lv_room (Nat.le_of_ble_eq_true rfl)) dX9_takeTurns_75 ⟨by show ce + 2400 ≤ 84000; omega, by show se + 84000 ≤ 2620000; omega⟩) hS (fun q _ h => hFc q h) hFc (fun u_161 t H1 locs ht hvm hw hB hz1 hk1 hS => ?_)
                       obtain ⟨ad_162, ga_163, gc_164, M_165, n_166, f_167, T_168, G_169, K_170, F_171⟩ := u_161
                       have hB : ∃ w : va_W, va_P (dC, dI) vwCl w t.heap ∧ va_D (va_A ws_140 H.size) w ∧ Pic9 kc w ad_130 ga_163 gc_164 M_133 n_166 f_167 T_168 G_169 K_138 F_171 ∧ I9 M_133 n_166 f_167 T_168 gc_164 G_169 K_138 F_171 ((R + (6 - cT T_8 x_1.toInt.toNat)) + 1) ∧ hpS t.heap + (260 * M_133 + 2 * S9 M_133 gc_132) ≤ hpS H + (260 * M_133 + 2 * S9 M_133 gc_164) ∧ 16 * t.heap.size + (256 * M_133 + S9 M_133 gc_132) ≤ 16 * H.size + (256 * M_133 + S9 M_133 gc_164) ∧ (n_134 0).toInt ≤ (n_166 0).toInt := hB
                       rw [ht] at hB
                       obtain ⟨ws_172, hP, hD, hQ, hI_174, hy1, hy2, hn_173⟩ := hB
                       have hD := hD.weaken (fun k q _ h => hFc _ h)
                       obtain ⟨i1_175, i2_176, i3_177, i4_178, i5_179, i6_180, i7_181, i8_182, i9_183, i10_184, i11_185⟩ := id hI_174
                       have q1_ := i1_175
                       unfold i1 at q1_
                       have hSl := S9_le i8_182 i9_183
                       have hb0_ := i8_182.2.1 0 (by omega)
                       have hb1_ := i8_182.2.1 1 (by omega)
                       have hb2_ := i8_182.2.1 2 (by omega)
                       refine W_msr2 (fun hn1 hn2 hn3 => ?_)
                       obtain ⟨ce2, se2, hk3, hk4, hr1, hr2⟩ : ∃ c2 s2 : Nat, H1.size ≤ s.heap.size + c2 ∧ hpS H1 ≤ hpS s.heap + s2 ∧ s2 + (260 * M + 2 * S9 M gc) ≤ (260 * M_133 + 2 * S9 M_133 gc_164) ∧ 16 * c2 + (256 * M + S9 M gc) ≤ (256 * M_133 + S9 M_133 gc_164) := ⟨H1.size - s.heap.size, hpS H1 - hpS s.heap, by omega, by omega, by have := hS.1; omega, by have := hS.1; omega⟩
                       refine W_tightP hk3 hk4 ?_
                       clear hm1 hm2 hm3 hn1 hn2 hn3 hk3 hk4
                       clear hk1 hz1
                       generalize ce2 = ce, se2 = se at hr1 hr2 ⊢
                       generalize H1 = H at hP hS ⊢
                       have hc_187 : (C9.mk n_166 f_167 T_168 G_169 K_138 F_171) = k_close x_1.toInt.toNat r_128 (C9.mk n_134 f_135 T_8 G_137 K_138 F_139) := hw.1
                       have w_186 : S9 M_133 gc_164 + gc_132 1 ≤ S9 M_133 gc_132 + gc_164 1 ∧ (n_166 0).toInt = (n_134 0).toInt ∧ (∀ t : Nat, T_168 t = T_8 t ∨ T_168 t = none) := hw.2
                       obtain ⟨y_188, ey_188⟩ : ∃ q : Int32, q = x_1 + (1) := ⟨_, rfl⟩
                       exact by
                        refine lv_iinc (v := y_188) (lv' := [(2, .int y_188), (4, .int 0), (3, .ref (ad_130 (50 + 16 * x_1.toInt.toNat))), (1, .int (n 0)), (0, .ref (ad_130 0))]) hx hb dX9_takeTurns_78 hl (k := 2) rfl (by rw [ey_188]; rfl) (by decide) rfl (fun ls hl => ?_)
                        have ty_188 : y_188.toInt = x_1.toInt + (1) := ar_add rfl ti_1 ey_188 (by omega)
                        have hy_ : y_188.toInt.toNat = x_1.toInt.toNat + 1 := by omega
                        have hc1_ := cT_own T_8 hy_ (by omega) h6_39
                        have hc2_ := cT_off (T := T_8) (T2 := T_168) w_186.2.2 y_188.toInt.toNat
                        refine lv_goto (tgt := 7) hx hb dX9_takeTurns_81 (by decide) ?_
                        exact ih_19 y_188   ws_172 ad_130 ga_163 gc_164 M_133 n_166 f_167 T_168 G_169 K_138 F_171 ce se H locs ls (by show (201 - y_188.toInt).toNat < _; omega) (by show 0 ≤ y_188.toInt ∧ y_188.toInt ≤ 200; omega) (by show itr bh_turn (fun s => s) y_188.toInt.toNat ((n 0).toInt.toNat - y_188.toInt.toNat) (C9.mk n_166 f_167 T_168 G_169 K_138 F_171) = kh_turns (C9.mk n f T G K F); have hX := v_15; (first | rw [itr_go (by omega)] at hX | rw [itr_end (by omega)] at hX); (repeat (first | dsimp +instances only [c9n, c9f, c9T, c9G, c9K, c9F, b_come, b_leave, b_fill, awB, b_settle, b_wake, b_take, f_take, b_gather, f_gather, b_ask, a_ask, b_tell, c_close, d_close, k_add, k_rem, sco, k_clrF, k_mem, k_rebind, k_bnd, k_beg0, k_beg1, b_giveN, b_giveR, f_open, b_hand, k_op, b_turn, wlB, b_beat, f_anew, b_wipe, b_off, k_sadd, fits, frP, cntB, b_trace, b_child, k_lat, cond_true, cond_false, Option.elim_none, Option.elim_some, Option.getD_none, Option.getD_some, f_hand, kh_op, bh_turn, bh_beat] at hX | rw [← hc_67] at hX | rw [← hc_159] at hX | rw [← hc_187] at hX | rw [if_pos (by first | with_reducible assumption | omega)] at hX | rw [if_neg (by first | with_reducible assumption | omega)] at hX | rw [jx_of (by omega)] at hX)); (rw [show y_188.toInt.toNat = x_1.toInt.toNat + 1 by omega]); first | exact hX | (exfalso; omega) | exact hX) (by show (n 0).toInt ≤ (n_166 0).toInt; omega) (by show M ≤ M_133; omega) hE_157 hQ (I9.mono (R := ((R + (6 - cT T_8 x_1.toInt.toNat)) + 1)) ⟨i1_175, i2_176, i3_177, i4_178, i5_179, i6_180, i7_181, i8_182, i9_183, i10_184, i11_185⟩ (by omega)) hr1 hr2 hP hD hS (lv_sub hl [0, 3, 4] rfl)
                   · simp only [i_lt, i_le, i_eq, ti_0] at c_126
                     refine lv_iconst (v := 1) hx hb dX9_takeTurns_49 (by decide) ?_
                     refine lv_goto (tgt := 54) hx hb dX9_takeTurns_50 (by decide) ?_
                     refine lv_istore (lv' := [(4, .int 1), (3, .ref (ad_2 (50 + 16 * x_1.toInt.toNat))), (2, .int x_1), (1, .int (n 0)), (0, .ref (ad_2 0))]) hx hb dX9_takeTurns_54 hl (by decide) rfl (fun ls hl => ?_)
                     refine lv_aload_n hx hb dX9_takeTurns_56 rfl (lv_at hl 4 rfl) ?_
                     refine lv_aload_n hx hb dX9_takeTurns_57 rfl (lv_at hl 1 rfl) ?_
                     refine lv_iload hx hb dX9_takeTurns_58 (lv_at hl 0 rfl) ?_
                     refine lv_if_eq (tgt := 70) hx hb dX9_takeTurns_60 (by decide) (fun c_189 => absurd c_189 (by decide)) (fun _ => ?_)
                     refine lv_aload_n hx hb dX9_takeTurns_63 rfl (lv_at hl 1 rfl) ?_
                     have hFc := free_all hD hS hA
                     refine W_msr2 (fun hm1 hm2 hm3 => ?_)
                     refine va_calli (va_runS (As := [.ref (ad_2 (50 + 16 * x_1.toInt.toNat))]) (rest := [.ref (ad_2 (50 + 16 * x_1.toInt.toNat)), .ref (ad_2 0)]) ⟨hx, hb, hml, hown, hg⟩ (c_X9_standIn l dC dI kc ws_52 ad_2 ga_43 gc_44 M_5 n_46 f_47 T_8 G_49 K_10 F_11 (R + (6 - cT T_8 x_1.toInt.toNat)) x_1.toInt.toNat H.size (hpS H) hQ ⟨i1_55, i2_56, i3_57, i4_58, i5_59, i6_60, i7_61, i8_62, i9_63, i10_64, i11_65⟩ (by show x_1.toInt.toNat < M_5; omega)) (va_cwS 1 hg (gw_S gm_methodLink_RX9_292_yX9_standIn gm_static_yX9_standIn gm_initialized_RX9 gm_code_yX9_standIn_cX9_standIn_1_some_int_) rfl rfl rfl (by decide +kernel) ⟨Nat.le_of_ble_eq_true rfl, Nat.le_of_ble_eq_true rfl⟩) ⟨fun a U g mk q => by obtain ⟨q0, q1, q2, qP, qK, qD, qN⟩ := q; exact ⟨q0, q1, q2, qP, va_K.moved (u := U) (U := U.calling g mk a) (Vm.Alike.refl U.vm) qK, qD, nx_same (u := U) (U := U.calling g mk a) rfl qN⟩, fun U hU hW => ⟨rfl, by rw [hU], by rw [hU], by rw [hU]; exact hP, va_K.moved hW.alike hK, hD.weaken (fun _ _ _ _ => trivial), nx_warm hW hN⟩⟩ rfl rfl hl.1 rfl (lv_room (Nat.le_of_ble_eq_true rfl)) dX9_takeTurns_64 ⟨by show ce + 0 ≤ 84000; omega, by show se + 0 ≤ 2620000; omega⟩) hS (fun q _ h => hFc q h) hFc (fun r_190 u_191 t H1 locs ht hvm hw hB hz1 hk1 hS => ?_)
                     obtain ⟨ad_192, ga_193, gc_194, M_195, n_196, f_197, T_198, G_199, K_200, F_201⟩ := u_191
                     have hB : ∃ w : va_W, va_P (dC, dI) vwCl w t.heap ∧ va_D (va_A ws_52 H.size) w ∧ Pic9 kc w ad_2 ga_43 gc_44 M_5 n_46 f_47 T_8 G_199 K_10 F_11 ∧ I9 M_5 n_46 f_47 T_8 gc_44 G_199 K_10 F_11 (R + (6 - cT T_8 x_1.toInt.toNat)) ∧ hpS t.heap + (260 * M_5 + 2 * S9 M_5 gc_44) ≤ hpS H + (260 * M_5 + 2 * S9 M_5 gc_44) ∧ 16 * t.heap.size + (256 * M_5 + S9 M_5 gc_44) ≤ 16 * H.size + (256 * M_5 + S9 M_5 gc_44) := hB
                     rw [ht] at hB
                     obtain ⟨ws_202, hP, hD, hQ, hI_203, hy1, hy2⟩ := hB
                     have hD := hD.weaken (fun k q _ h => hFc _ h)
                     obtain ⟨i1_204, i2_205, i3_206, i4_207, i5_208, i6_209, i7_210, i8_211, i9_212, i10_213, i11_214⟩ := id hI_203
                     have q1_ := i1_204
                     unfold i1 at q1_
                     have hSl := S9_le i8_211 i9_212
                     have hb0_ := i8_211.2.1 0 (by omega)
                     have hb1_ := i8_211.2.1 1 (by omega)
                     have hb2_ := i8_211.2.1 2 (by omega)
                     refine W_msr2 (fun hn1 hn2 hn3 => ?_)
                     obtain ⟨ce2, se2, hk3, hk4, hr1, hr2⟩ : ∃ c2 s2 : Nat, H1.size ≤ s.heap.size + c2 ∧ hpS H1 ≤ hpS s.heap + s2 ∧ s2 + (260 * M + 2 * S9 M gc) ≤ (260 * M_5 + 2 * S9 M_5 gc_44) ∧ 16 * c2 + (256 * M + S9 M gc) ≤ (256 * M_5 + S9 M_5 gc_44) := ⟨H1.size - s.heap.size, hpS H1 - hpS s.heap, by omega, by omega, by have := hS.1; omega, by have := hS.1; omega⟩
                     refine W_tightP hk3 hk4 ?_
                     clear hm1 hm2 hm3 hn1 hn2 hn3 hk3 hk4
                     clear hk1 hz1
                     generalize ce2 = ce, se2 = se at hr1 hr2 ⊢
                     generalize H1 = H at hP hS ⊢
                     have hc_216 : ((C9.mk n_46 f_47 T_8 G_199 K_10 F_11), r_190) = k_stand x_1.toInt.toNat (C9.mk n_46 f_47 T_8 G_49 K_10 F_11) := hw
                     exact by
                      refine lv_goto (tgt := 75) hx hb dX9_takeTurns_67 (by decide) ?_
                      have hFc := free_all hD hS hA
                      refine W_msr2 (fun hm1 hm2 hm3 => ?_)
                      refine va_callv (va_runV (As := [.ref (ad_2 (50 + 16 * x_1.toInt.toNat)), .int r_190]) (rest := []) ⟨hx, hb, hml, hown, hg⟩ (c_X9_closeTurn l dC dI kc ws_202 ad_2 ga_43 gc_44 M_5 n_46 f_47 T_8 G_199 K_10 F_11 (R + (6 - cT T_8 x_1.toInt.toNat)) x_1.toInt.toNat r_190 H.size (hpS H) hQ ⟨i1_204, i2_205, i3_206, i4_207, i5_208, i6_209, i7_210, i8_211, i9_212, i10_213, i11_214⟩ (by show x_1.toInt.toNat < M_5; omega) (by show (x_1.toInt.toNat : Int) < (n_46 0).toInt; omega) (by show (R + (6 - cT T_8 x_1.toInt.toNat)) ≤ 310000; omega)) (cwV 2 hg (gw_V gm_methodLink_RX9_299_yX9_closeTurn gm_instanceMethod_yX9_closeTurn gm_selects_RX9_yX9_closeTurn_yX9_closeTurn gm_initialized_RX9 gm_code_yX9_closeTurn_cX9_closeTurn_3_none) rfl rfl rfl (by decide +kernel) ⟨Nat.le_of_ble_eq_true rfl, Nat.le_of_ble_eq_true rfl⟩) ⟨fun a U g mk q => by obtain ⟨q0, q1, q2, qP, qK, qD, qN⟩ := q; exact ⟨q0, q1, q2, qP, va_K.moved (u := U) (U := U.calling g mk a) (Vm.Alike.refl U.vm) qK, qD, nx_same (u := U) (U := U.calling g mk a) rfl qN⟩, va_recv hK hP (ci := 9) (q0 := 0) rfl hQ.x0, fun U hU hW => ⟨rfl, by rw [hU], by rw [hU], by rw [hU]; exact hP, va_K.moved hW.alike hK, hD.weaken (fun _ _ _ _ => trivial), nx_warm hW hN⟩⟩ rfl rfl hl.1 rfl (lv_room (Nat.le_of_ble_eq_true rfl)) dX9_takeTurns_75 ⟨by show ce + 2400 ≤ 84000; omega, by show se + 84000 ≤ 2620000; omega⟩) hS (fun q _ h => hFc q h) hFc (fun u_218 t H1 locs ht hvm hw hB hz1 hk1 hS => ?_)
                      obtain ⟨ad_219, ga_220, gc_221, M_222, n_223, f_224, T_225, G_226, K_227, F_228⟩ := u_218
                      have hB : ∃ w : va_W, va_P (dC, dI) vwCl w t.heap ∧ va_D (va_A ws_202 H.size) w ∧ Pic9 kc w ad_2 ga_220 gc_221 M_5 n_223 f_224 T_225 G_226 K_10 F_228 ∧ I9 M_5 n_223 f_224 T_225 gc_221 G_226 K_10 F_228 (R + (6 - cT T_8 x_1.toInt.toNat)) ∧ hpS t.heap + (260 * M_5 + 2 * S9 M_5 gc_44) ≤ hpS H + (260 * M_5 + 2 * S9 M_5 gc_221) ∧ 16 * t.heap.size + (256 * M_5 + S9 M_5 gc_44) ≤ 16 * H.size + (256 * M_5 + S9 M_5 gc_221) ∧ (n_46 0).toInt ≤ (n_223 0).toInt := hB
                      rw [ht] at hB
                      obtain ⟨ws_229, hP, hD, hQ, hI_231, hy1, hy2, hn_230⟩ := hB
                      have hD := hD.weaken (fun k q _ h => hFc _ h)
                      obtain ⟨i1_232, i2_233, i3_234, i4_235, i5_236, i6_237, i7_238, i8_239, i9_240, i10_241, i11_242⟩ := id hI_231
                      have q1_ := i1_232
                      unfold i1 at q1_
                      have hSl := S9_le i8_239 i9_240
                      have hb0_ := i8_239.2.1 0 (by omega)
                      have hb1_ := i8_239.2.1 1 (by omega)
                      have hb2_ := i8_239.2.1 2 (by omega)
                      refine W_msr2 (fun hn1 hn2 hn3 => ?_)
                      obtain ⟨ce2, se2, hk3, hk4, hr1, hr2⟩ : ∃ c2 s2 : Nat, H1.size ≤ s.heap.size + c2 ∧ hpS H1 ≤ hpS s.heap + s2 ∧ s2 + (260 * M + 2 * S9 M gc) ≤ (260 * M_5 + 2 * S9 M_5 gc_221) ∧ 16 * c2 + (256 * M + S9 M gc) ≤ (256 * M_5 + S9 M_5 gc_221) := ⟨H1.size - s.heap.size, hpS H1 - hpS s.heap, by omega, by omega, by have := hS.1; omega, by have := hS.1; omega⟩
                      refine W_tightP hk3 hk4 ?_
                      clear hm1 hm2 hm3 hn1 hn2 hn3 hk3 hk4
                      clear hk1 hz1
                      generalize ce2 = ce, se2 = se at hr1 hr2 ⊢
                      generalize H1 = H at hP hS ⊢
                      have hc_244 : (C9.mk n_223 f_224 T_225 G_226 K_10 F_228) = k_close x_1.toInt.toNat r_190 (C9.mk n_46 f_47 T_8 G_199 K_10 F_11) := hw.1
                      have w_243 : S9 M_5 gc_221 + gc_44 1 ≤ S9 M_5 gc_44 + gc_221 1 ∧ (n_223 0).toInt = (n_46 0).toInt ∧ (∀ t : Nat, T_225 t = T_8 t ∨ T_225 t = none) := hw.2
                      obtain ⟨y_245, ey_245⟩ : ∃ q : Int32, q = x_1 + (1) := ⟨_, rfl⟩
                      exact by
                       refine lv_iinc (v := y_245) (lv' := [(2, .int y_245), (4, .int 1), (3, .ref (ad_2 (50 + 16 * x_1.toInt.toNat))), (1, .int (n 0)), (0, .ref (ad_2 0))]) hx hb dX9_takeTurns_78 hl (k := 2) rfl (by rw [ey_245]; rfl) (by decide) rfl (fun ls hl => ?_)
                       have ty_245 : y_245.toInt = x_1.toInt + (1) := ar_add rfl ti_1 ey_245 (by omega)
                       have hy_ : y_245.toInt.toNat = x_1.toInt.toNat + 1 := by omega
                       have hc1_ := cT_own T_8 hy_ (by omega) h6_39
                       have hc2_ := cT_off (T := T_8) (T2 := T_225) w_243.2.2 y_245.toInt.toNat
                       refine lv_goto (tgt := 7) hx hb dX9_takeTurns_81 (by decide) ?_
                       exact ih_19 y_245   ws_229 ad_2 ga_220 gc_221 M_5 n_223 f_224 T_225 G_226 K_10 F_228 ce se H locs ls (by show (201 - y_245.toInt).toNat < _; omega) (by show 0 ≤ y_245.toInt ∧ y_245.toInt ≤ 200; omega) (by show itr bh_turn (fun s => s) y_245.toInt.toNat ((n 0).toInt.toNat - y_245.toInt.toNat) (C9.mk n_223 f_224 T_225 G_226 K_10 F_228) = kh_turns (C9.mk n f T G K F); have hX := v_15; (first | rw [itr_go (by omega)] at hX | rw [itr_end (by omega)] at hX); (repeat (first | dsimp +instances only [c9n, c9f, c9T, c9G, c9K, c9F, b_come, b_leave, b_fill, awB, b_settle, b_wake, b_take, f_take, b_gather, f_gather, b_ask, a_ask, b_tell, c_close, d_close, k_add, k_rem, sco, k_clrF, k_mem, k_rebind, k_bnd, k_beg0, k_beg1, b_giveN, b_giveR, f_open, b_hand, k_op, b_turn, wlB, b_beat, f_anew, b_wipe, b_off, k_sadd, fits, frP, cntB, b_trace, b_child, k_lat, cond_true, cond_false, Option.elim_none, Option.elim_some, Option.getD_none, Option.getD_some, f_hand, kh_op, bh_turn, bh_beat] at hX | rw [← hc_67] at hX | rw [← hc_216] at hX | rw [← hc_244] at hX | rw [if_pos (by first | with_reducible assumption | omega)] at hX | rw [if_neg (by first | with_reducible assumption | omega)] at hX | rw [jx_of (by omega)] at hX)); (rw [show y_245.toInt.toNat = x_1.toInt.toNat + 1 by omega]); first | exact hX | (exfalso; omega) | exact hX) (by show (n 0).toInt ≤ (n_223 0).toInt; omega) (by show M ≤ M_5; omega) hE0 hQ (I9.mono (R := (R + (6 - cT T_8 x_1.toInt.toNat))) ⟨i1_232, i2_233, i3_234, i4_235, i5_236, i6_237, i7_238, i8_239, i9_240, i10_241, i11_242⟩ (by omega)) hr1 hr2 hP hD hS (lv_sub hl [0, 3, 4] rfl)
           · have w_35 : ¬ (0 ≤ x_1.toInt ∧ x_1.toInt < (n_6 0).toInt) := w_35
             refine W.eq (g2 := F0 m 17 ls [.null]) rfl ?_
             refine lv_astore_nN (lv' := [(3, .null), (2, .int x_1), (1, .int (n 0)), (0, .ref (ad_2 0))]) hx hb dX9_takeTurns_17 rfl hl (by decide) rfl (fun ls hl => ?_)
             refine lv_aload_nN hx hb dX9_takeTurns_18 rfl (lv_at hl 0 rfl) ?_
             refine lv_ifnullN (tgt := 78) hx hb dX9_takeTurns_19 (by decide) ?_
             obtain ⟨y_246, ey_246⟩ : ∃ q : Int32, q = x_1 + (1) := ⟨_, rfl⟩
             refine lv_iinc (v := y_246) (lv' := [(2, .int y_246), (3, .null), (1, .int (n 0)), (0, .ref (ad_2 0))]) hx hb dX9_takeTurns_78 hl (k := 1) rfl (by rw [ey_246]; rfl) (by decide) rfl (fun ls hl => ?_)
             have ty_246 : y_246.toInt = x_1.toInt + (1) := ar_add rfl ti_1 ey_246 (by omega)
             have hy_ : y_246.toInt.toNat = x_1.toInt.toNat + 1 := by omega
             have hc1_ := cT_up T_8 hy_
             refine lv_goto (tgt := 7) hx hb dX9_takeTurns_81 (by decide) ?_
             exact ih_19 y_246   ws_12 ad_2 ga_3 gc_4 M_5 n_6 f_7 T_8 G_9 K_10 F_11 ce se H locs ls (by show (201 - y_246.toInt).toNat < _; omega) (by show 0 ≤ y_246.toInt ∧ y_246.toInt ≤ 200; omega) (by show itr bh_turn (fun s => s) y_246.toInt.toNat ((n 0).toInt.toNat - y_246.toInt.toNat) (C9.mk n_6 f_7 T_8 G_9 K_10 F_11) = kh_turns (C9.mk n f T G K F); have hX := v_15; (first | rw [itr_go (by omega)] at hX | rw [itr_end (by omega)] at hX); (repeat (first | dsimp +instances only [c9n, c9f, c9T, c9G, c9K, c9F, b_come, b_leave, b_fill, awB, b_settle, b_wake, b_take, f_take, b_gather, f_gather, b_ask, a_ask, b_tell, c_close, d_close, k_add, k_rem, sco, k_clrF, k_mem, k_rebind, k_bnd, k_beg0, k_beg1, b_giveN, b_giveR, f_open, b_hand, k_op, b_turn, wlB, b_beat, f_anew, b_wipe, b_off, k_sadd, fits, frP, cntB, b_trace, b_child, k_lat, cond_true, cond_false, Option.elim_none, Option.elim_some, Option.getD_none, Option.getD_some, f_hand, kh_op, bh_turn, bh_beat] at hX | rw [if_pos (by first | with_reducible assumption | omega)] at hX | rw [if_neg (by first | with_reducible assumption | omega)] at hX | rw [jx_of (by omega)] at hX)); (rw [show y_246.toInt.toNat = x_1.toInt.toNat + 1 by omega]); first | exact hX | (exfalso; omega) | exact hX) (by show (n 0).toInt ≤ (n_6 0).toInt; omega) (by show M ≤ M_5; omega) hE0 hQ (I9.mono (R := R + (6 - cT T_8 x_1.toInt.toNat)) ⟨i1_21, i2_22, i3_23, i4_24, i5_25, i6_26, i7_27, i8_28, i9_29, i10_30, i11_31⟩ (by omega)) hr1 hr2 hP hD hS (lv_sub hl [0, 2, 3] rfl)
   exact L7 _ (0 : Int32)   ws ad ga gc M n f T G K F ce se _ _ _ (Nat.lt_succ_self _) (by have t_0 := ti_0; show 0 ≤ (0 : Int32).toInt ∧ (0 : Int32).toInt ≤ 200; omega) (by show itr bh_turn (fun s => s) (0 : Int32).toInt.toNat ((n 0).toInt.toNat - (0 : Int32).toInt.toNat) (C9.mk n f T G K F) = kh_turns (C9.mk n f T G K F); have hX := (kh_turns.eq_1 (C9.mk n f T G K F)).symm; (repeat (first | dsimp +instances only [c9n, c9f, c9T, c9G, c9K, c9F, b_come, b_leave, b_fill, awB, b_settle, b_wake, b_take, f_take, b_gather, f_gather, b_ask, a_ask, b_tell, c_close, d_close, k_add, k_rem, sco, k_clrF, k_mem, k_rebind, k_bnd, k_beg0, k_beg1, b_giveN, b_giveR, f_open, b_hand, k_op, b_turn, wlB, b_beat, f_anew, b_wipe, b_off, k_sadd, fits, frP, cntB, b_trace, b_child, k_lat, cond_true, cond_false, Option.elim_none, Option.elim_some, Option.getD_none, Option.getD_some, f_hand, kh_op, bh_turn, bh_beat] at hX | rw [if_pos (by first | with_reducible assumption | omega)] at hX | rw [if_neg (by first | with_reducible assumption | omega)] at hX | rw [jx_of (by omega)] at hX)); (skip); first | exact hX | (exfalso; omega) | exact hX) (by have t_0 := ti_0; show (n 0).toInt ≤ (n 0).toInt; omega) (by have t_0 := ti_0; show M ≤ M; omega) (fun _ _ => rfl) hQ (I9.mono (R := R) ⟨h_i1, h_i2, h_i3, h_i4, h_i5, h_i6, h_i7, h_i8, h_i9, h_i10, h_i11⟩ (by have t_0 := ti_0; omega)) hr1 hr2 hP hD hS (lv_sub hl [0, 1, 2] rfl)

set_option maxHeartbeats 8000000 in
set_option maxRecDepth 100000 in
theorem c_X9_beat (l : Launch) (dC : Nat → ClassId) (dI : Nat → Nat → Nat) (kc : Nat → ClassId) (ws : va_W) (ad : Nat → Nat) (ga : Nat → Nat) (gc : Nat → Nat) (M : Nat) (n : Nat → Int32) (f : Nat → Nat → Int32) (T : Nat → Option Nat) (G : Nat → Nat → Int32) (K : Nat → Nat → Option Nat) (F : Nat → Nat → Nat → Int32) (R : Nat) (v1 : Int32) (sz hz : Nat) (hQ : Pic9 kc ws ad ga gc M n f T G K F) (hI : I9 M n f T gc G K F R) (hR : R + 600 ≤ 310000) : Met l yX9_beat (.code yX9_beat cX9_beat 3 (some .int) :: gw) ({ frames := 7, cells := 128000, slots := 3990000, locals := 222 }) (va_Pc [.ref (ad 0), .int v1] (fun U => U.heap.size = sz ∧ hpS U.heap = hz ∧ va_P (dC, dI) vwCl ws U.heap ∧ va_K (dC, dI) vwCl (t9 kc) U ∧ va_D (fun _ => True) ws ∧ nx U)) (va_Qi (fun (r : Int32) (u : (Nat → Nat) × (Nat → Nat) × (Nat → Nat) × Nat × (Nat → Int32) × (Nat → Nat → Int32) × (Nat → Option Nat) × (Nat → Nat → Int32) × (Nat → Nat → Option Nat) × (Nat → Nat → Nat → Int32)) => ((C9.mk u.2.2.2.2.1 u.2.2.2.2.2.1 u.2.2.2.2.2.2.1 u.2.2.2.2.2.2.2.1 u.2.2.2.2.2.2.2.2.1 u.2.2.2.2.2.2.2.2.2), r) = kh_beat v1 (C9.mk n f T G K F) ∧ ((n 0).toInt = 0 → (u.2.2.2.2.1 0).toInt = 0)) (fun u t => ∃ w : va_W, va_P (dC, dI) vwCl w t.heap ∧ va_D (va_A ws sz) w ∧ Pic9 kc w u.1 u.2.1 u.2.2.1 u.2.2.2.1 u.2.2.2.2.1 u.2.2.2.2.2.1 u.2.2.2.2.2.2.1 u.2.2.2.2.2.2.2.1 u.2.2.2.2.2.2.2.2.1 u.2.2.2.2.2.2.2.2.2 ∧ I9 u.2.2.2.1 u.2.2.2.2.1 u.2.2.2.2.2.1 u.2.2.2.2.2.2.1 u.2.2.1 u.2.2.2.2.2.2.2.1 u.2.2.2.2.2.2.2.2.1 u.2.2.2.2.2.2.2.2.2 (R + 600) ∧ hpS t.heap + (260 * M + 2 * S9 M gc) ≤ hz + (260 * u.2.2.2.1 + 2 * S9 u.2.2.2.1 u.2.2.1) ∧ 16 * t.heap.size + (256 * M + S9 M gc) ≤ 16 * sz + (256 * u.2.2.2.1 + S9 u.2.2.2.1 u.2.2.1) ∧ (n 0).toInt ≤ (u.2.2.2.2.1 0).toInt ∧ (∀ q : Nat, q < 50 + 16 * M → u.1 q = ad q) ∧ M ≤ u.2.2.2.1) (va_A ws sz)) 128000 3990000 (va_A ws sz) := by
  refine Met.ofW (cc := cX9_beat) (maxL := 3) (ret := (some .int)) (by decide) rfl ?_
  intro p e s m args below meth c s₁ B hml hv
  obtain ⟨rfl, hsz, rfl, hP, hK, hD0, hN⟩ := hv
  have hx := B.exec
  have hb := B.bytes
  have hr := B.returns
  have hts := atoms_spec (ws := .code yX9_beat cX9_beat 3 (some .int) :: gw) B.pre
  have hg : ∀ w ∈ gw, w.before _ s = true := fun w h => hts w (List.mem_cons_of_mem _ h)
  have hown : s.vm.findClass RX9 = some m.cls := findClass_of_methodNamed B.named
  have hlocks := B.notSynchronized
  subst hsz
  have hD := hD0.self (sz := s.heap.size)
  generalize hAe : va_A ws s.heap.size = A at hD ⊢
  have hA : ∀ q : Nat, s.heap.size ≤ q → A q := fun q h => by rw [← hAe]; exact Or.inr h
  clear hAe
  have hS : va_S A s.heap s.heap [] := va_S.rf
  have hl := lv_entry ([.ref (ad 0), .int v1]) (n := 3) (Nat.le_of_ble_eq_true rfl)
  rw [lg_entry_eq]
  generalize (lg_sl ([.ref (ad 0), .int v1]) ++ List.replicate (3 - (lg_sl ([.ref (ad 0), .int v1])).length) Slot.unset).toArray = ls at hl ⊢
  have hl : lv_has ls 3 [(0, .ref (ad 0)), (1, .int v1)] := hl
  obtain ⟨h_i1, h_i2, h_i3, h_i4, h_i5, h_i6, h_i7, h_i8, h_i9, h_i10, h_i11⟩ := id hI
  have q1_ := h_i1
  unfold i1 at q1_
  have hSl0 := S9_le h_i8 h_i9
  have hb0_ := h_i8.2.1 0 (by omega)
  have hb1_ := h_i8.2.1 1 (by omega)
  have hb2_ := h_i8.2.1 2 (by omega)
  have hr1 : 0 + (260 * M + 2 * S9 M gc) ≤ (260 * M + 2 * S9 M gc) := by omega
  have hr2 : 16 * 0 + (256 * M + S9 M gc) ≤ (256 * M + S9 M gc) := by omega
  obtain ⟨ce, hce⟩ : ∃ q : Nat, q = 0 := ⟨_, rfl⟩
  obtain ⟨se, hse⟩ : ∃ q : Nat, q = 0 := ⟨_, rfl⟩
  rw [← hse] at hr1
  have hr2 : 16 * ce + (256 * M + S9 M gc) ≤ (256 * M + S9 M gc) := by omega
  refine W.widen (k := ce) (n := se) (Nat.zero_le _) (Nat.zero_le _) ?_
  exact by
   refine lv_iload_n hx hb dX9_beat_0 rfl (lv_at hl 1 rfl) ?_
   refine lv_iconst (v := 1) hx hb dX9_beat_1 (by decide) ?_
   refine lv_icmp_lt (tgt := 11) hx hb dX9_beat_2 (by decide) (fun c_1 => ?_) (fun c_1 => ?_)
   · simp only [i_lt, i_le, i_eq, ti_1] at c_1
     refine lv_iconst (v := -1) hx hb dX9_beat_11 (by decide) ?_
     refine W_msr2 (fun hm1 hm2 hm3 => ?_)
     have hSl := S9_le h_i8 h_i9
     have hb0_ := h_i8.2.1 0 (by omega)
     have hb1_ := h_i8.2.1 1 (by omega)
     have hb2_ := h_i8.2.1 2 (by omega)
     refine W.widen (k := 128000) (n := 3990000) (by omega) (by omega) ?_
     exact W.iret (v := -1) hx hb hr (fun t ht hW => ⟨⟨-1, (ad, ga, gc, M, n, f, T, G, K, F), rfl, ⟨(by show ((C9.mk n f T G K F), (-1 : Int32)) = kh_beat v1 (C9.mk n f T G K F); have hX := (kh_beat.eq_1 v1 (C9.mk n f T G K F)).symm; (repeat (first | dsimp +instances only [c9n, c9f, c9T, c9G, c9K, c9F, b_come, b_leave, b_fill, awB, b_settle, b_wake, b_take, f_take, b_gather, f_gather, b_ask, a_ask, b_tell, c_close, d_close, k_add, k_rem, sco, k_clrF, k_mem, k_rebind, k_bnd, k_beg0, k_beg1, b_giveN, b_giveR, f_open, b_hand, k_op, b_turn, wlB, b_beat, f_anew, b_wipe, b_off, k_sadd, fits, frP, cntB, b_trace, b_child, k_lat, cond_true, cond_false, Option.elim_none, Option.elim_some, Option.getD_none, Option.getD_some, f_hand, kh_op, bh_turn, bh_beat] at hX | rw [if_pos (by first | with_reducible assumption | omega)] at hX | rw [if_neg (by first | with_reducible assumption | omega)] at hX | rw [jx_of (by omega)] at hX)); first | exact hX | (exfalso; omega) | exact hX), (by have t_ := ti_m1; show ((n 0).toInt = 0 → (n 0).toInt = 0); omega)⟩, ws, by rw [ht]; exact hP, hD, hQ, I9.mono (R := R) ⟨h_i1, h_i2, h_i3, h_i4, h_i5, h_i6, h_i7, h_i8, h_i9, h_i10, h_i11⟩ (by omega), by rw [ht]; show hpS s.heap + (260 * M + 2 * S9 M gc) ≤ hpS s.heap + (260 * M + 2 * S9 M gc); omega, by rw [ht]; show 16 * s.heap.size + (256 * M + S9 M gc) ≤ 16 * s.heap.size + (256 * M + S9 M gc); omega, by show (n 0).toInt ≤ (n 0).toInt; omega, (fun _ _ => rfl), by show M ≤ M; omega⟩, hS.F ht⟩) hS.2.2 dX9_beat_12
   · simp only [i_lt, i_le, i_eq, ti_1] at c_1
     exact by
      refine lv_iload_n hx hb dX9_beat_5 rfl (lv_at hl 1 rfl) ?_
      refine lv_bipush (v := 100) hx hb dX9_beat_6 (by decide) ?_
      refine lv_icmp_le (tgt := 13) hx hb dX9_beat_8 (by decide) (fun c_2 => ?_) (fun c_2 => ?_)
      · simp only [i_lt, i_le, i_eq, ti_100] at c_2
        refine lv_iconst (v := 0) hx hb dX9_beat_13 (by decide) ?_
        refine lv_istore_n (lv' := [(2, .int 0), (0, .ref (ad 0)), (1, .int v1)]) hx hb dX9_beat_14 rfl hl (by decide) rfl (fun ls hl => ?_)
        have L15 : ∀ (fuel : Nat) (x_3 : Int32)   (ws_14 : va_W) (ad_4 : Nat → Nat) (ga_5 : Nat → Nat) (gc_6 : Nat → Nat) (M_7 : Nat) (n_8 : Nat → Int32) (f_9 : Nat → Nat → Int32) (T_10 : Nat → Option Nat) (G_11 : Nat → Nat → Int32) (K_12 : Nat → Nat → Option Nat) (F_13 : Nat → Nat → Nat → Int32) (ce se : Nat) (H : Heap) (locs : List Loc) (ls : Array Slot), (101 - x_3.toInt).toNat < fuel → (0 ≤ x_3.toInt ∧ x_3.toInt ≤ 100 ∧ x_3.toInt ≤ v1.toInt) → (((n 0).toInt = 0 → (n_8 0).toInt = 0)) → (itr bh_beat (fun s => (s, v1)) x_3.toInt.toNat (v1.toInt.toNat - x_3.toInt.toNat) (C9.mk n_8 f_9 T_10 G_11 K_12 F_13) = kh_beat v1 (C9.mk n f T G K F)) → ((n 0).toInt ≤ (n_8 0).toInt) → (M ≤ M_7) → (∀ q : Nat, q < 50 + 16 * M → ad_4 q = ad q) → Pic9 kc ws_14 ad_4 ga_5 gc_6 M_7 n_8 f_9 T_10 G_11 K_12 F_13 → I9 M_7 n_8 f_9 T_10 gc_6 G_11 K_12 F_13 (R + 6 * x_3.toInt.toNat) → (se + (260 * M + 2 * S9 M gc) ≤ (260 * M_7 + 2 * S9 M_7 gc_6)) → (16 * ce + (256 * M + S9 M gc) ≤ (256 * M_7 + S9 M_7 gc_6)) → va_P (dC, dI) vwCl ws_14 H → va_D A ws_14 → va_S A s.heap H locs → lv_has ls 3 [(2, .int x_3), (0, .ref (ad_4 0)), (1, .int v1)] → W p l e (headSpec (.code yX9_beat cX9_beat 3 (some .int) :: gw) ({ frames := 7, cells := 128000, slots := 3990000, locals := 222 })).room s m ([.ref (ad 0), .int v1] : List Value).toArray below meth c H locs ce se (MQ below (va_Qi (fun (r : Int32) (u : (Nat → Nat) × (Nat → Nat) × (Nat → Nat) × Nat × (Nat → Int32) × (Nat → Nat → Int32) × (Nat → Option Nat) × (Nat → Nat → Int32) × (Nat → Nat → Option Nat) × (Nat → Nat → Nat → Int32)) => ((C9.mk u.2.2.2.2.1 u.2.2.2.2.2.1 u.2.2.2.2.2.2.1 u.2.2.2.2.2.2.2.1 u.2.2.2.2.2.2.2.2.1 u.2.2.2.2.2.2.2.2.2), r) = kh_beat v1 (C9.mk n f T G K F) ∧ ((n 0).toInt = 0 → (u.2.2.2.2.1 0).toInt = 0)) (fun u t => ∃ w : va_W, va_P (dC, dI) vwCl w t.heap ∧ va_D A w ∧ Pic9 kc w u.1 u.2.1 u.2.2.1 u.2.2.2.1 u.2.2.2.2.1 u.2.2.2.2.2.1 u.2.2.2.2.2.2.1 u.2.2.2.2.2.2.2.1 u.2.2.2.2.2.2.2.2.1 u.2.2.2.2.2.2.2.2.2 ∧ I9 u.2.2.2.1 u.2.2.2.2.1 u.2.2.2.2.2.1 u.2.2.2.2.2.2.1 u.2.2.1 u.2.2.2.2.2.2.2.1 u.2.2.2.2.2.2.2.2.1 u.2.2.2.2.2.2.2.2.2 (R + 600) ∧ hpS t.heap + (260 * M + 2 * S9 M gc) ≤ (hpS s.heap) + (260 * u.2.2.2.1 + 2 * S9 u.2.2.2.1 u.2.2.1) ∧ 16 * t.heap.size + (256 * M + S9 M gc) ≤ 16 * s.heap.size + (256 * u.2.2.2.1 + S9 u.2.2.2.1 u.2.2.1) ∧ (n 0).toInt ≤ (u.2.2.2.2.1 0).toInt ∧ (∀ q : Nat, q < 50 + 16 * M → u.1 q = ad q) ∧ M ≤ u.2.2.2.1) A) ([.ref (ad 0), .int v1] : List Value).toArray s 128000 3990000 A) (F0 m 15 ls []) := by
          intro fuel
          induction fuel with
          | zero => intro x_3 ws_14 ad_4 ga_5 gc_6 M_7 n_8 f_9 T_10 G_11 K_12 F_13 ce se H locs ls hm; exact absurd hm (Nat.not_lt_zero _)
          | succ fuel_23 ih_22 =>
            intro x_3 ws_14 ad_4 ga_5 gc_6 M_7 n_8 f_9 T_10 G_11 K_12 F_13 ce se H locs ls hm_15 v_16 v_17 v_18 v_19 v_20 hE0 hQ hI_21 hr1 hr2 hP hD hS hl
            obtain ⟨i1_24, i2_25, i3_26, i4_27, i5_28, i6_29, i7_30, i8_31, i9_32, i10_33, i11_34⟩ := id hI_21
            have q1_ := i1_24
            unfold i1 at q1_
            have hSl := S9_le i8_31 i9_32
            have hb0_ := i8_31.2.1 0 (by omega)
            have hb1_ := i8_31.2.1 1 (by omega)
            have hb2_ := i8_31.2.1 2 (by omega)
            exact by
             refine lv_iload_n hx hb dX9_beat_15 rfl (lv_at hl 0 rfl) ?_
             refine lv_iload_n hx hb dX9_beat_16 rfl (lv_at hl 2 rfl) ?_
             refine lv_icmp_ge (tgt := 55) hx hb dX9_beat_17 (by decide) (fun c_35 => ?_) (fun c_35 => ?_)
             · simp only [i_lt, i_le, i_eq] at c_35
               refine lv_iload_n hx hb dX9_beat_55 rfl (lv_at hl 0 rfl) ?_
               refine W_msr2 (fun hm1 hm2 hm3 => ?_)
               have hSl := S9_le i8_31 i9_32
               have hb0_ := i8_31.2.1 0 (by omega)
               have hb1_ := i8_31.2.1 1 (by omega)
               have hb2_ := i8_31.2.1 2 (by omega)
               refine W.widen (k := 128000) (n := 3990000) (by omega) (by omega) ?_
               exact W.iret (v := x_3) hx hb hr (fun t ht hW => ⟨⟨x_3, (ad_4, ga_5, gc_6, M_7, n_8, f_9, T_10, G_11, K_12, F_13), rfl, ⟨(by show ((C9.mk n_8 f_9 T_10 G_11 K_12 F_13), x_3) = kh_beat v1 (C9.mk n f T G K F); have hX := v_18; (first | rw [itr_go (by omega)] at hX | rw [itr_end (by omega)] at hX); (repeat (first | dsimp +instances only [c9n, c9f, c9T, c9G, c9K, c9F, b_come, b_leave, b_fill, awB, b_settle, b_wake, b_take, f_take, b_gather, f_gather, b_ask, a_ask, b_tell, c_close, d_close, k_add, k_rem, sco, k_clrF, k_mem, k_rebind, k_bnd, k_beg0, k_beg1, b_giveN, b_giveR, f_open, b_hand, k_op, b_turn, wlB, b_beat, f_anew, b_wipe, b_off, k_sadd, fits, frP, cntB, b_trace, b_child, k_lat, cond_true, cond_false, Option.elim_none, Option.elim_some, Option.getD_none, Option.getD_some, f_hand, kh_op, bh_turn, bh_beat] at hX | rw [if_pos (by first | with_reducible assumption | omega)] at hX | rw [if_neg (by first | with_reducible assumption | omega)] at hX | rw [jx_of (by omega)] at hX)); (first | done | rw [show x_3 = v1 from i_ext (by omega)] | skip); first | exact hX | (exfalso; omega) | exact hX), (by show ((n 0).toInt = 0 → (n_8 0).toInt = 0); omega)⟩, ws_14, by rw [ht]; exact hP, hD, hQ, I9.mono (R := R + 6 * x_3.toInt.toNat) ⟨i1_24, i2_25, i3_26, i4_27, i5_28, i6_29, i7_30, i8_31, i9_32, i10_33, i11_34⟩ (by omega), by rw [ht]; show hpS H + (260 * M + 2 * S9 M gc) ≤ hpS s.heap + (260 * M_7 + 2 * S9 M_7 gc_6); omega, by rw [ht]; show 16 * H.size + (256 * M + S9 M gc) ≤ 16 * s.heap.size + (256 * M_7 + S9 M_7 gc_6); omega, by show (n 0).toInt ≤ (n_8 0).toInt; omega, hE0, by show M ≤ M_7; omega⟩, hS.F ht⟩) hS.2.2 dX9_beat_56
             · simp only [i_lt, i_le, i_eq] at c_35
               exact by
                refine lv_aload_n hx hb dX9_beat_20 rfl (lv_at hl 1 rfl) ?_
                have hFc := free_all hD hS hA
                refine W_msr2 (fun hm1 hm2 hm3 => ?_)
                refine va_calli (va_runV (As := []) (rest := []) ⟨hx, hb, hml, hown, hg⟩ (c_X9_isWorkLeft l dC dI kc ws_14 ad_4 ga_5 gc_6 M_7 n_8 f_9 T_10 G_11 K_12 F_13 (R + 6 * x_3.toInt.toNat) H.size (hpS H) hQ ⟨i1_24, i2_25, i3_26, i4_27, i5_28, i6_29, i7_30, i8_31, i9_32, i10_33, i11_34⟩) (cwV 0 hg (gw_V gm_methodLink_RX9_121_yX9_isWorkLeft gm_instanceMethod_yX9_isWorkLeft gm_selects_RX9_yX9_isWorkLeft_yX9_isWorkLeft gm_initialized_RX9 gm_code_yX9_isWorkLeft_cX9_isWorkLeft_3_some_boolean_) rfl rfl rfl (by decide +kernel) ⟨Nat.le_of_ble_eq_true rfl, Nat.le_of_ble_eq_true rfl⟩) ⟨fun a U g mk q => by obtain ⟨q0, q1, q2, qP, qK, qD, qN⟩ := q; exact ⟨q0, q1, q2, qP, va_K.moved (u := U) (U := U.calling g mk a) (Vm.Alike.refl U.vm) qK, qD, nx_same (u := U) (U := U.calling g mk a) rfl qN⟩, va_recv hK hP (ci := 9) (q0 := 0) rfl hQ.x0, fun U hU hW => ⟨rfl, by rw [hU], by rw [hU], by rw [hU]; exact hP, va_K.moved hW.alike hK, hD.weaken (fun _ _ _ _ => trivial), nx_warm hW hN⟩⟩ rfl rfl hl.1 rfl (lv_room (Nat.le_of_ble_eq_true rfl)) dX9_beat_21 ⟨by show ce + 0 ≤ 128000; omega, by show se + 0 ≤ 3990000; omega⟩) hS (fun q _ h => hFc q h) hFc (fun r_36 u_37 t H1 locs ht hvm hw hB hz1 hk1 hS => ?_)
                obtain ⟨hP, hD, hy1, hy2⟩ := hB
                rw [ht] at hP hy1 hy2
                have hD := hD.weaken (fun k q _ h => hFc _ h)
                refine W.widen (k := ce) (n := se) (Nat.le_refl _) (Nat.le_refl _) ?_
                have q1_ := i1_24
                unfold i1 at q1_
                generalize H1 = H at hP hS ⊢
                rcases hw with ⟨rfl, w_38⟩ | ⟨rfl, w_38⟩
                · have hc_39 : k_wl (C9.mk n_8 f_9 T_10 G_11 K_12 F_13) = true := w_38.1
                  have w_38 : 0 < (n_8 0).toInt := w_38.2
                  exact by
                   refine lv_if_eq (tgt := 55) hx hb dX9_beat_24 (by decide) (fun c_40 => absurd c_40 (by decide)) (fun _ => ?_)
                   refine lv_aload_n hx hb dX9_beat_27 rfl (lv_at hl 1 rfl) ?_
                   refine lv_dup hx hb dX9_beat_28 rfl ?_
                   refine va_get (D := (dC, dI)) (ci := 9) (v := .int (n_8 2)) (C := RX9) (T := TX9) (N := 15) hx hb hg gb_9 hown hK hP 0 hQ.x0 rfl 8 (by decide) (hg _ gm_fieldLink_RX9_84_ErrandGuild_beats_I_) (fun _ h9 => h9) rfl dX9_beat_29 ?_
                   refine lv_iconst (v := 1) hx hb dX9_beat_32 (by decide) ?_
                   refine lv_iadd hx hb dX9_beat_33 ?_
                   refine lv_topi (fun z_41 ez_41 => ?_)
                   refine va_put (D := (dC, dI)) (ci := 9) (v := .int (z_41)) (ty := .int) (C := RX9) (T := TX9) (N := 15) hx hb hg gb_9 tyX9 tyX9_ok nmX9 hown hK hP hD hS 0 hQ.x0 rfl 8 (by decide) (hg _ gm_fieldLink_RX9_84_ErrandGuild_beats_I_) (fun _ h9 => h9) rfl (by decide +kernel) rfl rfl (Nat.le_of_ble_eq_true rfl) dX9_beat_34 (fun H locs hP hD hS => ?_)
                   obtain ⟨ws_43, n_42, en_42, hP, hD, hQ⟩ : ∃ (ws_43 : va_W) (n_42 : Nat → Int32), n_42 = u1 n_8 2 z_41 ∧ va_P (dC, dI) vwCl ws_43 H ∧ va_D A ws_43 ∧ Pic9 kc ws_43 ad_4 ga_5 gc_6 M_7 n_42 f_9 T_10 G_11 K_12 F_13 := ⟨_, _, rfl, hP, hD, hQ.x9 2 8 (by decide) z_41⟩
                   have i1_44 : i1 M_7 n_42 := by rw [en_42]; exact (i1.pn i1_24 _ (by decide))
                   have i5_45 : i5 n_42 K_12 := by rw [en_42]; exact (i5.pn i5_28 _ (by decide))
                   have i6_46 : i6 n_42 T_10 G_11 := by rw [en_42]; exact (i6.pn i6_29 _ (by decide))
                   have i7_47 : i7 n_42 G_11 := by rw [en_42]; exact (i7.pn i7_30 _ (by decide))
                   have i8_48 : i8 M_7 n_42 gc_6 G_11 := by rw [en_42]; exact (i8.pn i8_31 _ (by decide))
                   have i11_49 : i11 M_7 n_42 gc_6 f_9 G_11 F_13 := by rw [en_42]; exact (i11.pn i11_34 _ (by decide))
                   have hn_50 : n_42 0 = n_8 0 := by rw [en_42]; rw [u1_ne _ _ (by decide)]
                   have thn_50 := congrArg Int32.toInt hn_50
                   exact by
                    refine lv_aload_n hx hb dX9_beat_37 rfl (lv_at hl 1 rfl) ?_
                    have hFc := free_all hD hS hA
                    refine W_msr2 (fun hm1 hm2 hm3 => ?_)
                    refine va_callv (va_runV (As := []) (rest := []) ⟨hx, hb, hml, hown, hg⟩ (c_X9_fillThreads l dC dI kc ws_43 ad_4 ga_5 gc_6 M_7 n_42 f_9 T_10 G_11 K_12 F_13 (R + 6 * x_3.toInt.toNat) H.size (hpS H) hQ ⟨i1_44, i2_25, i3_26, i4_27, i5_45, i6_46, i7_47, i8_48, i9_32, i10_33, i11_49⟩) (cwV 0 hg (gw_V gm_methodLink_RX9_125_yX9_fillThreads gm_instanceMethod_yX9_fillThreads gm_selects_RX9_yX9_fillThreads_yX9_fillThreads gm_initialized_RX9 gm_code_yX9_fillThreads_cX9_fillThreads_3_none) rfl rfl rfl (by decide +kernel) ⟨Nat.le_of_ble_eq_true rfl, Nat.le_of_ble_eq_true rfl⟩) ⟨fun a U g mk q => by obtain ⟨q0, q1, q2, qP, qK, qD, qN⟩ := q; exact ⟨q0, q1, q2, qP, va_K.moved (u := U) (U := U.calling g mk a) (Vm.Alike.refl U.vm) qK, qD, nx_same (u := U) (U := U.calling g mk a) rfl qN⟩, va_recv hK hP (ci := 9) (q0 := 0) rfl hQ.x0, fun U hU hW => ⟨rfl, by rw [hU], by rw [hU], by rw [hU]; exact hP, va_K.moved hW.alike hK, hD.weaken (fun _ _ _ _ => trivial), nx_warm hW hN⟩⟩ rfl rfl hl.1 rfl (lv_room (Nat.le_of_ble_eq_true rfl)) dX9_beat_38 ⟨by show ce + 0 ≤ 128000; omega, by show se + 0 ≤ 3990000; omega⟩) hS (fun q _ h => hFc q h) hFc (fun u_52 t H1 locs ht hvm hw hB hz1 hk1 hS => ?_)
                    obtain ⟨ad_53, ga_54, gc_55, M_56, n_57, f_58, T_59, G_60, K_61, F_62⟩ := u_52
                    have hB : ∃ w : va_W, va_P (dC, dI) vwCl w t.heap ∧ va_D (va_A ws_43 H.size) w ∧ Pic9 kc w ad_4 ga_5 gc_6 M_7 n_42 f_9 T_59 G_60 K_12 F_13 ∧ I9 M_7 n_42 f_9 T_59 gc_6 G_60 K_12 F_13 (R + 6 * x_3.toInt.toNat) ∧ hpS t.heap + (260 * M_7 + 2 * S9 M_7 gc_6) ≤ hpS H + (260 * M_7 + 2 * S9 M_7 gc_6) ∧ 16 * t.heap.size + (256 * M_7 + S9 M_7 gc_6) ≤ 16 * H.size + (256 * M_7 + S9 M_7 gc_6) := hB
                    rw [ht] at hB
                    obtain ⟨ws_63, hP, hD, hQ, hI_64, hy1, hy2⟩ := hB
                    have hD := hD.weaken (fun k q _ h => hFc _ h)
                    obtain ⟨i1_65, i2_66, i3_67, i4_68, i5_69, i6_70, i7_71, i8_72, i9_73, i10_74, i11_75⟩ := id hI_64
                    have q1_ := i1_65
                    unfold i1 at q1_
                    have hSl := S9_le i8_72 i9_73
                    have hb0_ := i8_72.2.1 0 (by omega)
                    have hb1_ := i8_72.2.1 1 (by omega)
                    have hb2_ := i8_72.2.1 2 (by omega)
                    refine W_msr2 (fun hn1 hn2 hn3 => ?_)
                    obtain ⟨ce2, se2, hk3, hk4, hr1, hr2⟩ : ∃ c2 s2 : Nat, H1.size ≤ s.heap.size + c2 ∧ hpS H1 ≤ hpS s.heap + s2 ∧ s2 + (260 * M + 2 * S9 M gc) ≤ (260 * M_7 + 2 * S9 M_7 gc_6) ∧ 16 * c2 + (256 * M + S9 M gc) ≤ (256 * M_7 + S9 M_7 gc_6) := ⟨H1.size - s.heap.size, hpS H1 - hpS s.heap, by omega, by omega, by have := hS.1; omega, by have := hS.1; omega⟩
                    refine W_tightP hk3 hk4 ?_
                    clear hm1 hm2 hm3 hn1 hn2 hn3 hk3 hk4
                    clear hk1 hz1
                    generalize ce2 = ce, se2 = se at hr1 hr2 ⊢
                    generalize H1 = H at hP hS ⊢
                    have hc_77 : (C9.mk n_42 f_9 T_59 G_60 K_12 F_13) = k_fill (C9.mk n_42 f_9 T_10 G_11 K_12 F_13) := hw
                    exact by
                     refine lv_aload_n hx hb dX9_beat_41 rfl (lv_at hl 1 rfl) ?_
                     have hFc := free_all hD hS hA
                     refine W_msr2 (fun hm1 hm2 hm3 => ?_)
                     refine va_callv (va_runV (As := []) (rest := []) ⟨hx, hb, hml, hown, hg⟩ (c_X9_takeTurns l dC dI kc ws_63 ad_4 ga_5 gc_6 M_7 n_42 f_9 T_59 G_60 K_12 F_13 (R + 6 * x_3.toInt.toNat) H.size (hpS H) hQ ⟨i1_65, i2_66, i3_67, i4_68, i5_69, i6_70, i7_71, i8_72, i9_73, i10_74, i11_75⟩ (by show (R + 6 * x_3.toInt.toNat) + 6 ≤ 310000; omega)) (cwV 0 hg (gw_V gm_methodLink_RX9_128_yX9_takeTurns gm_instanceMethod_yX9_takeTurns gm_selects_RX9_yX9_takeTurns_yX9_takeTurns gm_initialized_RX9 gm_code_yX9_takeTurns_cX9_takeTurns_5_none) rfl rfl rfl (by decide +kernel) ⟨Nat.le_of_ble_eq_true rfl, Nat.le_of_ble_eq_true rfl⟩) ⟨fun a U g mk q => by obtain ⟨q0, q1, q2, qP, qK, qD, qN⟩ := q; exact ⟨q0, q1, q2, qP, va_K.moved (u := U) (U := U.calling g mk a) (Vm.Alike.refl U.vm) qK, qD, nx_same (u := U) (U := U.calling g mk a) rfl qN⟩, va_recv hK hP (ci := 9) (q0 := 0) rfl hQ.x0, fun U hU hW => ⟨rfl, by rw [hU], by rw [hU], by rw [hU]; exact hP, va_K.moved hW.alike hK, hD.weaken (fun _ _ _ _ => trivial), nx_warm hW hN⟩⟩ rfl rfl hl.1 rfl (lv_room (Nat.le_of_ble_eq_true rfl)) dX9_beat_42 ⟨by show ce + 84000 ≤ 128000; omega, by show se + 2620000 ≤ 3990000; omega⟩) hS (fun q _ h => hFc q h) hFc (fun u_79 t H1 locs ht hvm hw hB hz1 hk1 hS => ?_)
                     obtain ⟨ad_80, ga_81, gc_82, M_83, n_84, f_85, T_86, G_87, K_88, F_89⟩ := u_79
                     have hB : ∃ w : va_W, va_P (dC, dI) vwCl w t.heap ∧ va_D (va_A ws_63 H.size) w ∧ Pic9 kc w ad_80 ga_81 gc_82 M_83 n_84 f_85 T_86 G_87 K_88 F_89 ∧ I9 M_83 n_84 f_85 T_86 gc_82 G_87 K_88 F_89 ((R + 6 * x_3.toInt.toNat) + 6) ∧ hpS t.heap + (260 * M_7 + 2 * S9 M_7 gc_6) ≤ hpS H + (260 * M_83 + 2 * S9 M_83 gc_82) ∧ 16 * t.heap.size + (256 * M_7 + S9 M_7 gc_6) ≤ 16 * H.size + (256 * M_83 + S9 M_83 gc_82) ∧ (n_42 0).toInt ≤ (n_84 0).toInt ∧ (∀ q : Nat, q < 50 + 16 * M_7 → ad_80 q = ad_4 q) ∧ M_7 ≤ M_83 := hB
                     rw [ht] at hB
                     obtain ⟨ws_90, hP, hD, hQ, hI_94, hy1, hy2, hn_91, hE_92, hM_93⟩ := hB
                     have hD := hD.weaken (fun k q _ h => hFc _ h)
                     obtain ⟨i1_95, i2_96, i3_97, i4_98, i5_99, i6_100, i7_101, i8_102, i9_103, i10_104, i11_105⟩ := id hI_94
                     have q1_ := i1_95
                     unfold i1 at q1_
                     have hSl := S9_le i8_102 i9_103
                     have hb0_ := i8_102.2.1 0 (by omega)
                     have hb1_ := i8_102.2.1 1 (by omega)
                     have hb2_ := i8_102.2.1 2 (by omega)
                     refine W_msr2 (fun hn1 hn2 hn3 => ?_)
                     obtain ⟨ce2, se2, hk3, hk4, hr1, hr2⟩ : ∃ c2 s2 : Nat, H1.size ≤ s.heap.size + c2 ∧ hpS H1 ≤ hpS s.heap + s2 ∧ s2 + (260 * M + 2 * S9 M gc) ≤ (260 * M_83 + 2 * S9 M_83 gc_82) ∧ 16 * c2 + (256 * M + S9 M gc) ≤ (256 * M_83 + S9 M_83 gc_82) := ⟨H1.size - s.heap.size, hpS H1 - hpS s.heap, by omega, by omega, by have := hS.1; omega, by have := hS.1; omega⟩
                     refine W_tightP hk3 hk4 ?_
                     clear hm1 hm2 hm3 hn1 hn2 hn3 hk3 hk4
                     clear hk1 hz1
                     generalize ce2 = ce, se2 = se at hr1 hr2 ⊢
                     generalize H1 = H at hP hS ⊢
                     have hE_106 : ∀ q : Nat, q < 50 + 16 * M → ad_80 q = ad q := fun q hq => (hE_92 q (by omega)).trans (hE0 q hq)
                     have hl : lv_has ls 3 [(2, .int x_3), (0, .ref (ad_80 0)), (1, .int v1)] := by rw [hE_92 0 (by omega)]; exact hl
                     have hc_108 : (C9.mk n_84 f_85 T_86 G_87 K_88 F_89) = kh_turns (C9.mk n_42 f_9 T_59 G_60 K_12 F_13) := hw
                     refine W.eq (g2 := F0 m 45 ls []) (by first | rfl | (simp only [hE_92 0 (by omega)]))  ?_
                     exact by
                      refine lv_aload_n hx hb dX9_beat_45 rfl (lv_at hl 1 rfl) ?_
                      have hFc := free_all hD hS hA
                      refine W_msr2 (fun hm1 hm2 hm3 => ?_)
                      refine va_callv (va_runV (As := []) (rest := []) ⟨hx, hb, hml, hown, hg⟩ (c_X9_wakeWaiting l dC dI kc ws_90 ad_80 ga_81 gc_82 M_83 n_84 f_85 T_86 G_87 K_88 F_89 ((R + 6 * x_3.toInt.toNat) + 6) H.size (hpS H) hQ ⟨i1_95, i2_96, i3_97, i4_98, i5_99, i6_100, i7_101, i8_102, i9_103, i10_104, i11_105⟩) (cwV 0 hg (gw_V gm_methodLink_RX9_131_yX9_wakeWaiting gm_instanceMethod_yX9_wakeWaiting gm_selects_RX9_yX9_wakeWaiting_yX9_wakeWaiting gm_initialized_RX9 gm_code_yX9_wakeWaiting_cX9_wakeWaiting_3_none) rfl rfl rfl (by decide +kernel) ⟨Nat.le_of_ble_eq_true rfl, Nat.le_of_ble_eq_true rfl⟩) ⟨fun a U g mk q => by obtain ⟨q0, q1, q2, qP, qK, qD, qN⟩ := q; exact ⟨q0, q1, q2, qP, va_K.moved (u := U) (U := U.calling g mk a) (Vm.Alike.refl U.vm) qK, qD, nx_same (u := U) (U := U.calling g mk a) rfl qN⟩, va_recv hK hP (ci := 9) (q0 := 0) rfl hQ.x0, fun U hU hW => ⟨rfl, by rw [hU], by rw [hU], by rw [hU]; exact hP, va_K.moved hW.alike hK, hD.weaken (fun _ _ _ _ => trivial), nx_warm hW hN⟩⟩ rfl rfl hl.1 rfl (lv_room (Nat.le_of_ble_eq_true rfl)) dX9_beat_46 ⟨by show ce + 0 ≤ 128000; omega, by show se + 0 ≤ 3990000; omega⟩) hS (fun q _ h => hFc q h) hFc (fun u_110 t H1 locs ht hvm hw hB hz1 hk1 hS => ?_)
                      obtain ⟨ad_111, ga_112, gc_113, M_114, n_115, f_116, T_117, G_118, K_119, F_120⟩ := u_110
                      have hB : ∃ w : va_W, va_P (dC, dI) vwCl w t.heap ∧ va_D (va_A ws_90 H.size) w ∧ Pic9 kc w ad_80 ga_81 gc_82 M_83 n_84 f_85 T_86 G_118 K_88 F_89 ∧ I9 M_83 n_84 f_85 T_86 gc_82 G_118 K_88 F_89 ((R + 6 * x_3.toInt.toNat) + 6) ∧ hpS t.heap + (260 * M_83 + 2 * S9 M_83 gc_82) ≤ hpS H + (260 * M_83 + 2 * S9 M_83 gc_82) ∧ 16 * t.heap.size + (256 * M_83 + S9 M_83 gc_82) ≤ 16 * H.size + (256 * M_83 + S9 M_83 gc_82) := hB
                      rw [ht] at hB
                      obtain ⟨ws_121, hP, hD, hQ, hI_122, hy1, hy2⟩ := hB
                      have hD := hD.weaken (fun k q _ h => hFc _ h)
                      obtain ⟨i1_123, i2_124, i3_125, i4_126, i5_127, i6_128, i7_129, i8_130, i9_131, i10_132, i11_133⟩ := id hI_122
                      have q1_ := i1_123
                      unfold i1 at q1_
                      have hSl := S9_le i8_130 i9_131
                      have hb0_ := i8_130.2.1 0 (by omega)
                      have hb1_ := i8_130.2.1 1 (by omega)
                      have hb2_ := i8_130.2.1 2 (by omega)
                      refine W_msr2 (fun hn1 hn2 hn3 => ?_)
                      obtain ⟨ce2, se2, hk3, hk4, hr1, hr2⟩ : ∃ c2 s2 : Nat, H1.size ≤ s.heap.size + c2 ∧ hpS H1 ≤ hpS s.heap + s2 ∧ s2 + (260 * M + 2 * S9 M gc) ≤ (260 * M_83 + 2 * S9 M_83 gc_82) ∧ 16 * c2 + (256 * M + S9 M gc) ≤ (256 * M_83 + S9 M_83 gc_82) := ⟨H1.size - s.heap.size, hpS H1 - hpS s.heap, by omega, by omega, by have := hS.1; omega, by have := hS.1; omega⟩
                      refine W_tightP hk3 hk4 ?_
                      clear hm1 hm2 hm3 hn1 hn2 hn3 hk3 hk4
                      clear hk1 hz1
                      generalize ce2 = ce, se2 = se at hr1 hr2 ⊢
                      generalize H1 = H at hP hS ⊢
                      have hc_135 : (C9.mk n_84 f_85 T_86 G_118 K_88 F_89) = k_wake (C9.mk n_84 f_85 T_86 G_87 K_88 F_89) := hw
                      obtain ⟨y_136, ey_136⟩ : ∃ q : Int32, q = x_3 + (1) := ⟨_, rfl⟩
                      exact by
                       refine lv_iinc (v := y_136) (lv' := [(2, .int y_136), (0, .ref (ad_80 0)), (1, .int v1)]) hx hb dX9_beat_49 hl (k := 0) rfl (by rw [ey_136]; rfl) (by decide) rfl (fun ls hl => ?_)
                       have ty_136 : y_136.toInt = x_3.toInt + (1) := ar_add rfl ti_1 ey_136 (by omega)
                       refine lv_goto (tgt := 15) hx hb dX9_beat_52 (by decide) ?_
                       exact ih_22 y_136   ws_121 ad_80 ga_81 gc_82 M_83 n_84 f_85 T_86 G_118 K_88 F_89 ce se H locs ls (by show (101 - y_136.toInt).toNat < _; omega) (by show 0 ≤ y_136.toInt ∧ y_136.toInt ≤ 100 ∧ y_136.toInt ≤ v1.toInt; omega) (by show ((n 0).toInt = 0 → (n_84 0).toInt = 0); omega) (by show itr bh_beat (fun s => (s, v1)) y_136.toInt.toNat (v1.toInt.toNat - y_136.toInt.toNat) (C9.mk n_84 f_85 T_86 G_118 K_88 F_89) = kh_beat v1 (C9.mk n f T G K F); subst en_42; subst ez_41; have hX := v_18; (first | rw [itr_go (by omega)] at hX | rw [itr_end (by omega)] at hX); (repeat (first | dsimp +instances only [c9n, c9f, c9T, c9G, c9K, c9F, b_come, b_leave, b_fill, awB, b_settle, b_wake, b_take, f_take, b_gather, f_gather, b_ask, a_ask, b_tell, c_close, d_close, k_add, k_rem, sco, k_clrF, k_mem, k_rebind, k_bnd, k_beg0, k_beg1, b_giveN, b_giveR, f_open, b_hand, k_op, b_turn, wlB, b_beat, f_anew, b_wipe, b_off, k_sadd, fits, frP, cntB, b_trace, b_child, k_lat, cond_true, cond_false, Option.elim_none, Option.elim_some, Option.getD_none, Option.getD_some, f_hand, kh_op, bh_turn, bh_beat] at hX | rw [hc_39] at hX | rw [← hc_77] at hX | rw [← hc_108] at hX | rw [← hc_135] at hX | rw [if_pos (by first | with_reducible assumption | omega)] at hX | rw [if_neg (by first | with_reducible assumption | omega)] at hX | rw [jx_of (by omega)] at hX)); (rw [show y_136.toInt.toNat = x_3.toInt.toNat + 1 by omega]); first | exact hX | (exfalso; omega) | exact hX) (by show (n 0).toInt ≤ (n_84 0).toInt; omega) (by show M ≤ M_83; omega) hE_106 hQ (I9.mono (R := ((R + 6 * x_3.toInt.toNat) + 6)) ⟨i1_123, i2_124, i3_125, i4_126, i5_127, i6_128, i7_129, i8_130, i9_131, i10_132, i11_133⟩ (by omega)) hr1 hr2 hP hD hS (lv_sub hl [0, 1, 2] rfl)
                · have hc_137 : k_wl (C9.mk n_8 f_9 T_10 G_11 K_12 F_13) = false := w_38
                  refine lv_if_eq (tgt := 55) hx hb dX9_beat_24 (by decide) (fun _ => ?_) (fun c_138 => absurd c_138 (by decide))
                  refine lv_iload_n hx hb dX9_beat_55 rfl (lv_at hl 0 rfl) ?_
                  refine W_msr2 (fun hm1 hm2 hm3 => ?_)
                  have hSl := S9_le i8_31 i9_32
                  have hb0_ := i8_31.2.1 0 (by omega)
                  have hb1_ := i8_31.2.1 1 (by omega)
                  have hb2_ := i8_31.2.1 2 (by omega)
                  refine W.widen (k := 128000) (n := 3990000) (by omega) (by omega) ?_
                  exact W.iret (v := x_3) hx hb hr (fun t ht hW => ⟨⟨x_3, (ad_4, ga_5, gc_6, M_7, n_8, f_9, T_10, G_11, K_12, F_13), rfl, ⟨(by show ((C9.mk n_8 f_9 T_10 G_11 K_12 F_13), x_3) = kh_beat v1 (C9.mk n f T G K F); have hX := v_18; (first | rw [itr_go (by omega)] at hX | rw [itr_end (by omega)] at hX); (repeat (first | dsimp +instances only [c9n, c9f, c9T, c9G, c9K, c9F, b_come, b_leave, b_fill, awB, b_settle, b_wake, b_take, f_take, b_gather, f_gather, b_ask, a_ask, b_tell, c_close, d_close, k_add, k_rem, sco, k_clrF, k_mem, k_rebind, k_bnd, k_beg0, k_beg1, b_giveN, b_giveR, f_open, b_hand, k_op, b_turn, wlB, b_beat, f_anew, b_wipe, b_off, k_sadd, fits, frP, cntB, b_trace, b_child, k_lat, cond_true, cond_false, Option.elim_none, Option.elim_some, Option.getD_none, Option.getD_some, f_hand, kh_op, bh_turn, bh_beat] at hX | rw [hc_137] at hX | rw [if_pos (by first | with_reducible assumption | omega)] at hX | rw [if_neg (by first | with_reducible assumption | omega)] at hX | rw [jx_of (by omega)] at hX)); (first | done | rw [show x_3 = v1 from i_ext (by omega)] | skip); first | exact hX | (exfalso; omega) | exact hX), (by show ((n 0).toInt = 0 → (n_8 0).toInt = 0); omega)⟩, ws_14, by rw [ht]; exact hP, hD, hQ, I9.mono (R := R + 6 * x_3.toInt.toNat) ⟨i1_24, i2_25, i3_26, i4_27, i5_28, i6_29, i7_30, i8_31, i9_32, i10_33, i11_34⟩ (by omega), by rw [ht]; show hpS H + (260 * M + 2 * S9 M gc) ≤ hpS s.heap + (260 * M_7 + 2 * S9 M_7 gc_6); omega, by rw [ht]; show 16 * H.size + (256 * M + S9 M gc) ≤ 16 * s.heap.size + (256 * M_7 + S9 M_7 gc_6); omega, by show (n 0).toInt ≤ (n_8 0).toInt; omega, hE0, by show M ≤ M_7; omega⟩, hS.F ht⟩) hS.2.2 dX9_beat_56
        exact L15 _ (0 : Int32)   ws ad ga gc M n f T G K F ce se _ _ _ (Nat.lt_succ_self _) (by have t_0 := ti_0; show 0 ≤ (0 : Int32).toInt ∧ (0 : Int32).toInt ≤ 100 ∧ (0 : Int32).toInt ≤ v1.toInt; omega) (by have t_0 := ti_0; show ((n 0).toInt = 0 → (n 0).toInt = 0); omega) (by show itr bh_beat (fun s => (s, v1)) (0 : Int32).toInt.toNat (v1.toInt.toNat - (0 : Int32).toInt.toNat) (C9.mk n f T G K F) = kh_beat v1 (C9.mk n f T G K F); have hX := (kh_beat.eq_1 v1 (C9.mk n f T G K F)).symm; (repeat (first | dsimp +instances only [c9n, c9f, c9T, c9G, c9K, c9F, b_come, b_leave, b_fill, awB, b_settle, b_wake, b_take, f_take, b_gather, f_gather, b_ask, a_ask, b_tell, c_close, d_close, k_add, k_rem, sco, k_clrF, k_mem, k_rebind, k_bnd, k_beg0, k_beg1, b_giveN, b_giveR, f_open, b_hand, k_op, b_turn, wlB, b_beat, f_anew, b_wipe, b_off, k_sadd, fits, frP, cntB, b_trace, b_child, k_lat, cond_true, cond_false, Option.elim_none, Option.elim_some, Option.getD_none, Option.getD_some, f_hand, kh_op, bh_turn, bh_beat] at hX | rw [if_pos (by first | with_reducible assumption | omega)] at hX | rw [if_neg (by first | with_reducible assumption | omega)] at hX | rw [jx_of (by omega)] at hX)); (skip); first | exact hX | (exfalso; omega) | exact hX) (by have t_0 := ti_0; show (n 0).toInt ≤ (n 0).toInt; omega) (by have t_0 := ti_0; show M ≤ M; omega) (fun _ _ => rfl) hQ (I9.mono (R := R) ⟨h_i1, h_i2, h_i3, h_i4, h_i5, h_i6, h_i7, h_i8, h_i9, h_i10, h_i11⟩ (by have t_0 := ti_0; omega)) hr1 hr2 hP hD hS (lv_sub hl [0, 1, 2] rfl)
      · simp only [i_lt, i_le, i_eq, ti_100] at c_2
        refine lv_iconst (v := -1) hx hb dX9_beat_11 (by decide) ?_
        refine W_msr2 (fun hm1 hm2 hm3 => ?_)
        have hSl := S9_le h_i8 h_i9
        have hb0_ := h_i8.2.1 0 (by omega)
        have hb1_ := h_i8.2.1 1 (by omega)
        have hb2_ := h_i8.2.1 2 (by omega)
        refine W.widen (k := 128000) (n := 3990000) (by omega) (by omega) ?_
        exact W.iret (v := -1) hx hb hr (fun t ht hW => ⟨⟨-1, (ad, ga, gc, M, n, f, T, G, K, F), rfl, ⟨(by show ((C9.mk n f T G K F), (-1 : Int32)) = kh_beat v1 (C9.mk n f T G K F); have hX := (kh_beat.eq_1 v1 (C9.mk n f T G K F)).symm; (repeat (first | dsimp +instances only [c9n, c9f, c9T, c9G, c9K, c9F, b_come, b_leave, b_fill, awB, b_settle, b_wake, b_take, f_take, b_gather, f_gather, b_ask, a_ask, b_tell, c_close, d_close, k_add, k_rem, sco, k_clrF, k_mem, k_rebind, k_bnd, k_beg0, k_beg1, b_giveN, b_giveR, f_open, b_hand, k_op, b_turn, wlB, b_beat, f_anew, b_wipe, b_off, k_sadd, fits, frP, cntB, b_trace, b_child, k_lat, cond_true, cond_false, Option.elim_none, Option.elim_some, Option.getD_none, Option.getD_some, f_hand, kh_op, bh_turn, bh_beat] at hX | rw [if_pos (by first | with_reducible assumption | omega)] at hX | rw [if_neg (by first | with_reducible assumption | omega)] at hX | rw [jx_of (by omega)] at hX)); first | exact hX | (exfalso; omega) | exact hX), (by have t_ := ti_m1; show ((n 0).toInt = 0 → (n 0).toInt = 0); omega)⟩, ws, by rw [ht]; exact hP, hD, hQ, I9.mono (R := R) ⟨h_i1, h_i2, h_i3, h_i4, h_i5, h_i6, h_i7, h_i8, h_i9, h_i10, h_i11⟩ (by omega), by rw [ht]; show hpS s.heap + (260 * M + 2 * S9 M gc) ≤ hpS s.heap + (260 * M + 2 * S9 M gc); omega, by rw [ht]; show 16 * s.heap.size + (256 * M + S9 M gc) ≤ 16 * s.heap.size + (256 * M + S9 M gc); omega, by show (n 0).toInt ≤ (n 0).toInt; omega, (fun _ _ => rfl), by show M ≤ M; omega⟩, hS.F ht⟩) hS.2.2 dX9_beat_12
