set_option maxHeartbeats 8000000 in
set_option maxRecDepth 100000 in
theorem law_c0 {p : Program} {e : Env} {s : State} {m : MethodId} {below : List Frame} {meth : Method} {c : Code} (l : Launch) {A : Nat → Prop} {b L : Nat} {xs : Nat → Int32} (hL : L ≤ 2560) (C0 : lw_At p s m meth c b L xs) (hA : ∀ q : Nat, s.heap.size ≤ q → A q) (hAf : ∀ q : Nat, A q → s.heap.size ≤ q) (hbA : ¬ A b) (hN : nx s) {dC : Nat → ClassId} {dI : Nat → Nat → Nat} (kc : Nat → ClassId) (hm : Nat) (X : Nat → Nat) (C : Nat → ClassId) (hK : va_K (dC, dI) vwCl (t9 kc ++ t10 C) s) {k : Nat} (hk5 : 5 * k + 5 ≤ L) (ih : LH p l e s m below meth c b A dC dI kc hm X C (k + 1)) (x : Int32) (ws : va_W) (ad : Nat → Nat) (ga : Nat → Nat) (gc : Nat → Nat) (M : Nat) (n : Nat → Int32) (f : Nat → Nat → Int32) (T : Nat → Option Nat) (G : Nat → Nat → Int32) (K : Nat → Nat → Option Nat) (F : Nat → Nat → Nat → Int32) (Fm : Nat → Nat → Int32) (nm : Nat → Int32) (ce se : Nat) (H : Heap) (locs : List Loc) (ls : Array Slot) (hxk : x.toInt = 5 * (k : Int)) (hLF : LF kc ws ad ga gc M n f T G K F Fm nm ce se k) (hP : va_P (dC, dI) vwCl (ws ++ (w10 hm X C (Fm 0) (Fm 1) (Fm 2) (Fm 3) (Fm 4) (Fm 5) (Fm 6) (Fm 7) (Fm 8) (Fm 10) (Fm 13) (Fm 14) (Fm 15) (Fm 16) (Fm 17) (Fm 18) (Fm 19) (Fm 20) (Fm 21) (Fm 22) (Fm 23) (Fm 24) (Fm 25) (Fm 26) (Fm 27) (Fm 28) (Fm 29) (Fm 30) (Fm 31) (Fm 32) (Fm 33) (Fm 34) (Fm 35) (Fm 36) (Fm 37) (Fm 38) (Fm 39) (Fm 40) (Fm 41) (Fm 42) (Fm 43) (Fm 49) (Fm 50) (Fm 51) (Fm 52) (Fm 53) (Fm 54) (Fm 55) (Fm 56) (Fm 57) (Fm 58) (Fm 59) (nm 9) (nm 11) (nm 12) (nm 44) (nm 45) (nm 46) (nm 47) (nm 48))) H) (hD : va_D A (ws ++ (w10 hm X C (Fm 0) (Fm 1) (Fm 2) (Fm 3) (Fm 4) (Fm 5) (Fm 6) (Fm 7) (Fm 8) (Fm 10) (Fm 13) (Fm 14) (Fm 15) (Fm 16) (Fm 17) (Fm 18) (Fm 19) (Fm 20) (Fm 21) (Fm 22) (Fm 23) (Fm 24) (Fm 25) (Fm 26) (Fm 27) (Fm 28) (Fm 29) (Fm 30) (Fm 31) (Fm 32) (Fm 33) (Fm 34) (Fm 35) (Fm 36) (Fm 37) (Fm 38) (Fm 39) (Fm 40) (Fm 41) (Fm 42) (Fm 43) (Fm 49) (Fm 50) (Fm 51) (Fm 52) (Fm 53) (Fm 54) (Fm 55) (Fm 56) (Fm 57) (Fm 58) (Fm 59) (nm 9) (nm 11) (nm 12) (nm 44) (nm 45) (nm 46) (nm 47) (nm 48)))) (hS : va_S A s.heap H locs) (hl : lv_has ls 4 [(3, .int x), (2, .ref hm), (1, .ref (ad 0)), (0, .ref b)]) : W p l e room_1 s m #[Value.ref b] below meth c H locs ce se (lw_Z below #[Value.ref b] s) (F0 m 124 ls []) := by
  obtain ⟨hx, hb, hr, hml, hown, hts, hX, hbl, hlocks, hgv⟩ := id C0
  have hg : ∀ w ∈ gw, w.before _ s = true := fun w h => hts w (gw_tbl w h)
  obtain ⟨hQ, hI, hI10, hRel, hr1, hr2⟩ := id hLF
  have qn_ := I10_n11 hI10
  have q1_ := hI.1
  unfold i1 at q1_
  have hSl := S9_le hI.2.2.2.2.2.2.2.1 hI.2.2.2.2.2.2.2.2.1
  have tx1 : (x + 1).toInt = x.toInt + 1 := ar_add rfl ti_1 rfl (by omega)
  have tx2 : (x + 2).toInt = x.toInt + 2 := ar_add rfl ti_2 rfl (by omega)
  have tx3 : (x + 3).toInt = x.toInt + 3 := ar_add rfl ti_3 rfl (by omega)
  have tx4 : (x + 4).toInt = x.toInt + 4 := ar_add rfl ti_4 rfl (by omega)
  refine lv_aload_n hx hb dL_law_124 rfl (lv_at hl 2 rfl) ?_
  refine lv_aload_n hx hb dL_law_125 rfl (lv_at hl 3 rfl) ?_
  refine lv_iload_n hx hb dL_law_126 rfl (lv_at hl 0 rfl) ?_
  refine lv_iconst (v := 1) hx hb dL_law_127 (by decide) ?_
  refine lv_iadd hx hb dL_law_128 ?_
  refine va_sld hx hb hX hbl hbA hS (vp_in_iff.mpr ⟨by omega, by omega⟩) dL_law_129 ?_
  refine lv_aload_n hx hb dL_law_130 rfl (lv_at hl 3 rfl) ?_
  refine lv_iload_n hx hb dL_law_131 rfl (lv_at hl 0 rfl) ?_
  refine lv_iconst (v := 2) hx hb dL_law_132 (by decide) ?_
  refine lv_iadd hx hb dL_law_133 ?_
  refine va_sld hx hb hX hbl hbA hS (vp_in_iff.mpr ⟨by omega, by omega⟩) dL_law_134 ?_
  refine lv_aload_n hx hb dL_law_135 rfl (lv_at hl 3 rfl) ?_
  refine lv_iload_n hx hb dL_law_136 rfl (lv_at hl 0 rfl) ?_
  refine lv_iconst (v := 3) hx hb dL_law_137 (by decide) ?_
  refine lv_iadd hx hb dL_law_138 ?_
  refine va_sld hx hb hX hbl hbA hS (vp_in_iff.mpr ⟨by omega, by omega⟩) dL_law_139 ?_
  have hPc := pl_P hP
  have hDc := pl_D hD
  have hKc := hK.sub (tys' := t9 kc) [0, 1, 2, 3] rfl
  have hFc := free_all hDc hS hA
  refine W_msr2 (fun hm1 hm2 hm3 => ?_)
  refine va_calli (va_runV (As := [.int (xs (Int32.toNatClampNeg (x + 1))), .int (xs (Int32.toNatClampNeg (x + 2))), .int (xs (Int32.toNatClampNeg (x + 3)))]) (rest := []) ⟨hx, hb, hml, hown, hg⟩ (c9_X9_slot l dC dI kc ws ad ga gc M n f T G K F (600 * k) (xs (Int32.toNatClampNeg (x + 1))) (xs (Int32.toNatClampNeg (x + 2))) (xs (Int32.toNatClampNeg (x + 3))) H.size (hpS H) hQ hI) (cwV 3 hg (gw_V gm_methodLink_RL_13_yX9_slot gm_instanceMethod_yX9_slot gm_selects_RX9_yX9_slot_yX9_slot gm_initialized_RX9 gm_code_yX9_slot_cX9_slot_4_some_boolean_) rfl rfl rfl (by decide +kernel) ⟨Nat.le_of_ble_eq_true rfl, Nat.le_of_ble_eq_true rfl⟩) ⟨fun a U g mk q => by obtain ⟨q0, q1, q2, qP, qK, qD, qN⟩ := q; exact ⟨q0, q1, q2, qP, va_K.moved (u := U) (U := U.calling g mk a) (Vm.Alike.refl U.vm) qK, qD, nx_same (u := U) (U := U.calling g mk a) rfl qN⟩, va_recv hKc hPc (ci := 9) (q0 := 0) rfl hQ.x0, fun U hU hW => ⟨rfl, by rw [hU], by rw [hU], by rw [hU]; exact hPc, va_K.moved hW.alike hKc, hDc.weaken (fun _ _ _ _ => trivial), nx_warm hW hN⟩⟩ rfl rfl hl.1 rfl (lv_room (Nat.le_of_ble_eq_true rfl)) dL_law_140 ⟨by show ce + 0 ≤ 600000; omega, by show se + 0 ≤ 7302250; omega⟩) hS (fun q _ h => hFc q h) hFc (fun r_1 u_2 t H1 locs ht hvm hw hB hz1 hk1 hS => ?_)
  obtain ⟨ad_3, ga_4, gc_5, M_6, n_7, f_8, T_9, G_10, K_11, F_12⟩ := u_2
  have hB : ∃ w : va_W, va_P (dC, dI) vwCl w t.heap ∧ va_D (va_A ws H.size) w ∧ Pic9 kc w ad ga gc M n f_8 T G K F ∧ I9 M n f_8 T gc G K F (600 * k) ∧ hpS t.heap + (260 * M + 2 * S9 M gc) ≤ hpS H + (260 * M + 2 * S9 M gc) ∧ 16 * t.heap.size + (256 * M + S9 M gc) ≤ 16 * H.size + (256 * M + S9 M gc) := hB
  rw [ht] at hB
  obtain ⟨ws_13, hP1, hD1, hQ, hI_14, hy1, hy2⟩ := hB
  obtain ⟨hP, hD⟩ := va_appL hP hD hk1 hFc hP1 hD1
  have q1_ := hI_14.1
  unfold i1 at q1_
  have hSl := S9_le hI_14.2.2.2.2.2.2.2.1 hI_14.2.2.2.2.2.2.2.2.1
  refine W_msr2 (fun hn1 hn2 hn3 => ?_)
  obtain ⟨ce2, se2, hk3, hk4, hr1, hr2⟩ : ∃ c2 s2 : Nat, H1.size ≤ s.heap.size + c2 ∧ hpS H1 ≤ hpS s.heap + s2 ∧ s2 ≤ 668085 + (260 * M + 2 * S9 M gc) ∧ 16 * c2 ≤ 16 * 103 + (256 * M + S9 M gc) := ⟨H1.size - s.heap.size, hpS H1 - hpS s.heap, by omega, by omega, by have := hS.1; omega, by have := hS.1; omega⟩
  refine W_tightP hk3 hk4 ?_
  clear hm1 hm2 hm3 hn1 hn2 hn3 hk3 hk4 hk1 hz1 hy1 hy2
  generalize ce2 = ce, se2 = se at hr1 hr2 ⊢
  generalize H1 = H at hP hS ⊢
  have e9 : ((C9.mk n f_8 T G K F), r_1) = k_slot (xs (Int32.toNatClampNeg (x + 1))) (xs (Int32.toNatClampNeg (x + 2))) (xs (Int32.toNatClampNeg (x + 3))) (C9.mk n f T G K F) := by rcases hw with ⟨_, hw⟩ | ⟨_, hw⟩ <;> first | exact hw | exact hw.1
  refine lv_pop hx hb dL_law_143 rfl ?_
  refine lv_aload_n hx hb dL_law_144 rfl (lv_at hl 1 rfl) ?_
  refine lv_aload_n hx hb dL_law_145 rfl (lv_at hl 3 rfl) ?_
  refine lv_iload_n hx hb dL_law_146 rfl (lv_at hl 0 rfl) ?_
  refine lv_iconst (v := 1) hx hb dL_law_147 (by decide) ?_
  refine lv_iadd hx hb dL_law_148 ?_
  refine va_sld hx hb hX hbl hbA hS (vp_in_iff.mpr ⟨by omega, by omega⟩) dL_law_149 ?_
  refine lv_aload_n hx hb dL_law_150 rfl (lv_at hl 3 rfl) ?_
  refine lv_iload_n hx hb dL_law_151 rfl (lv_at hl 0 rfl) ?_
  refine lv_iconst (v := 2) hx hb dL_law_152 (by decide) ?_
  refine lv_iadd hx hb dL_law_153 ?_
  refine va_sld hx hb hX hbl hbA hS (vp_in_iff.mpr ⟨by omega, by omega⟩) dL_law_154 ?_
  refine lv_aload_n hx hb dL_law_155 rfl (lv_at hl 3 rfl) ?_
  refine lv_iload_n hx hb dL_law_156 rfl (lv_at hl 0 rfl) ?_
  refine lv_iconst (v := 3) hx hb dL_law_157 (by decide) ?_
  refine lv_iadd hx hb dL_law_158 ?_
  refine va_sld hx hb hX hbl hbA hS (vp_in_iff.mpr ⟨by omega, by omega⟩) dL_law_159 ?_
  have hPc := pr_P hP
  have hDc := pr_D hD
  have hKc := hK.sub (tys' := t10 C) [4, 5, 6, 7, 8, 9, 10, 11, 12, 13, 14, 15, 16, 17, 18, 19, 20, 21, 22, 23, 24, 25, 26, 27, 28, 29, 30, 31, 32, 33, 34, 35, 36, 37, 38, 39, 40, 41, 42, 43, 44, 45, 46, 47, 48, 49, 50, 51, 52, 53, 54, 55] rfl
  have hFc := free_all hDc hS hA
  refine va_calli (va_runV (As := [.int (xs (Int32.toNatClampNeg (x + 1))), .int (xs (Int32.toNatClampNeg (x + 2))), .int (xs (Int32.toNatClampNeg (x + 3)))]) (rest := []) ⟨hx, hb, hml, hown, hg⟩ (c_X10_slot l dC dI (40000 * (k : Int)) hm X C Fm nm (xs (Int32.toNatClampNeg (x + 1))) (xs (Int32.toNatClampNeg (x + 2))) (xs (Int32.toNatClampNeg (x + 3))) H.size hI10) (cwV 3 hg (gw_V gm_methodLink_RL_17_yX10_slot gm_instanceMethod_yX10_slot gm_selects_RX10_yX10_slot_yX10_slot gm_initialized_RX10 gm_code_yX10_slot_cX10_slot_4_some_boolean_) rfl rfl rfl (by decide +kernel) ⟨Nat.le_of_ble_eq_true rfl, Nat.le_of_ble_eq_true rfl⟩) ⟨fun a U g mk q => by obtain ⟨q0, q1, qP, qK, qD, qN⟩ := q; exact ⟨q0, q1, qP, va_K.moved (u := U) (U := U.calling g mk a) (Vm.Alike.refl U.vm) qK, qD, nx_same (u := U) (U := U.calling g mk a) rfl qN⟩, va_recv hKc hPc (ci := 10) (q0 := 0) rfl rfl, fun U hU hW => ⟨rfl, by rw [hU], by rw [hU]; exact hPc, va_K.moved hW.alike hKc, hDc.weaken (fun _ _ _ _ => trivial), nx_warm hW hN⟩⟩ rfl rfl hl.1 rfl (lv_room (Nat.le_of_ble_eq_true rfl)) dL_law_160 ⟨by show ce + 0 ≤ 600000; omega, by show se + 0 ≤ 7302250; omega⟩) hS (fun q _ h => hFc q h) hFc (fun r_15 u_16 t H1 locs ht hvm hw hB hz1 hk1 hS => ?_)
  obtain ⟨Fm_17, nm_18⟩ := u_16
  obtain ⟨hP1, hD1, hJ_19⟩ := hB
  have hJ_19 : I10 (40000 * (k : Int)) Fm_17 nm_18 := hJ_19
  rw [ht] at hP1
  obtain ⟨hP, hD⟩ := va_appR hP hD hk1 hFc hP1 hD1
  have hP : va_P (dC, dI) vwCl (ws_13 ++ (w10 hm X C (Fm_17 0) (Fm_17 1) (Fm_17 2) (Fm_17 3) (Fm_17 4) (Fm_17 5) (Fm_17 6) (Fm_17 7) (Fm_17 8) (Fm_17 10) (Fm_17 13) (Fm_17 14) (Fm_17 15) (Fm_17 16) (Fm_17 17) (Fm_17 18) (Fm_17 19) (Fm_17 20) (Fm_17 21) (Fm_17 22) (Fm_17 23) (Fm_17 24) (Fm_17 25) (Fm_17 26) (Fm_17 27) (Fm_17 28) (Fm_17 29) (Fm_17 30) (Fm_17 31) (Fm_17 32) (Fm_17 33) (Fm_17 34) (Fm_17 35) (Fm_17 36) (Fm_17 37) (Fm_17 38) (Fm_17 39) (Fm_17 40) (Fm_17 41) (Fm_17 42) (Fm_17 43) (Fm_17 49) (Fm_17 50) (Fm_17 51) (Fm_17 52) (Fm_17 53) (Fm_17 54) (Fm_17 55) (Fm_17 56) (Fm_17 57) (Fm_17 58) (Fm_17 59) (nm_18 9) (nm_18 11) (nm_18 12) (nm_18 44) (nm_18 45) (nm_18 46) (nm_18 47) (nm_18 48))) H1 := hP
  have hD : va_D A (ws_13 ++ (w10 hm X C (Fm_17 0) (Fm_17 1) (Fm_17 2) (Fm_17 3) (Fm_17 4) (Fm_17 5) (Fm_17 6) (Fm_17 7) (Fm_17 8) (Fm_17 10) (Fm_17 13) (Fm_17 14) (Fm_17 15) (Fm_17 16) (Fm_17 17) (Fm_17 18) (Fm_17 19) (Fm_17 20) (Fm_17 21) (Fm_17 22) (Fm_17 23) (Fm_17 24) (Fm_17 25) (Fm_17 26) (Fm_17 27) (Fm_17 28) (Fm_17 29) (Fm_17 30) (Fm_17 31) (Fm_17 32) (Fm_17 33) (Fm_17 34) (Fm_17 35) (Fm_17 36) (Fm_17 37) (Fm_17 38) (Fm_17 39) (Fm_17 40) (Fm_17 41) (Fm_17 42) (Fm_17 43) (Fm_17 49) (Fm_17 50) (Fm_17 51) (Fm_17 52) (Fm_17 53) (Fm_17 54) (Fm_17 55) (Fm_17 56) (Fm_17 57) (Fm_17 58) (Fm_17 59) (nm_18 9) (nm_18 11) (nm_18 12) (nm_18 44) (nm_18 45) (nm_18 46) (nm_18 47) (nm_18 48))) := hD
  refine W.widen (k := ce) (n := se) (Nat.le_refl _) (Nat.le_refl _) ?_
  clear hk1 hz1
  generalize H1 = H at hP hS ⊢
  have e10 : ((Q10.mk Fm_17 nm_18), r_15) = r_slot (xs (Int32.toNatClampNeg (x + 1))) (xs (Int32.toNatClampNeg (x + 2))) (xs (Int32.toNatClampNeg (x + 3))) (Q10.mk Fm nm) := by rcases hw with ⟨_, hw⟩ | ⟨_, hw⟩ <;> first | exact hw | exact hw.1
  have hs := slot_sim hRel (xs (Int32.toNatClampNeg (x + 1))) (xs (Int32.toNatClampNeg (x + 2))) (xs (Int32.toNatClampNeg (x + 3)))
  rw [← e9, ← e10] at hs
  have hRel : Rl (600 * k) (1200 * (k : Int)) (C9.mk n f_8 T G K F) (Q10.mk Fm_17 nm_18) := hs.1
  refine lv_pop hx hb dL_law_163 rfl ?_
  refine lv_goto (tgt := 761) hx hb dL_law_164 (by decide) ?_
  obtain ⟨y, ey⟩ : ∃ q : Int32, q = x + 5 := ⟨_, rfl⟩
  refine lv_iinc (v := y) (lv' := [(3, .int y), (2, .ref hm), (1, .ref (ad 0)), (0, .ref b)]) hx hb dL_law_761 hl (k := 0) rfl (by rw [ey]; rfl) (by decide) rfl (fun ls hl => ?_)
  have ty : y.toInt = x.toInt + 5 := ar_add rfl ti_5 ey (by omega)
  refine lv_goto (tgt := 18) hx hb dL_law_764 (by decide) ?_
  exact ih y ws_13 ad ga gc M n f_8 T G K F Fm_17 nm_18 ce se H locs ls (by omega) ⟨hQ, I9.mono (R := (600 * k)) hI_14 (by omega), I10_mono (k := (40000 * (k : Int))) hJ_19 (by omega), hRel.more (by omega) (by omega), by omega, by omega⟩ hP hD hS (lv_sub hl [0, 1, 2, 3] rfl)

set_option maxHeartbeats 8000000 in
set_option maxRecDepth 100000 in
theorem law_c1 {p : Program} {e : Env} {s : State} {m : MethodId} {below : List Frame} {meth : Method} {c : Code} (l : Launch) {A : Nat → Prop} {b L : Nat} {xs : Nat → Int32} (hL : L ≤ 2560) (C0 : lw_At p s m meth c b L xs) (hA : ∀ q : Nat, s.heap.size ≤ q → A q) (hAf : ∀ q : Nat, A q → s.heap.size ≤ q) (hbA : ¬ A b) (hN : nx s) {dC : Nat → ClassId} {dI : Nat → Nat → Nat} (kc : Nat → ClassId) (hm : Nat) (X : Nat → Nat) (C : Nat → ClassId) (hK : va_K (dC, dI) vwCl (t9 kc ++ t10 C) s) {k : Nat} (hk5 : 5 * k + 5 ≤ L) (ih : LH p l e s m below meth c b A dC dI kc hm X C (k + 1)) (x : Int32) (ws : va_W) (ad : Nat → Nat) (ga : Nat → Nat) (gc : Nat → Nat) (M : Nat) (n : Nat → Int32) (f : Nat → Nat → Int32) (T : Nat → Option Nat) (G : Nat → Nat → Int32) (K : Nat → Nat → Option Nat) (F : Nat → Nat → Nat → Int32) (Fm : Nat → Nat → Int32) (nm : Nat → Int32) (ce se : Nat) (H : Heap) (locs : List Loc) (ls : Array Slot) (hxk : x.toInt = 5 * (k : Int)) (hLF : LF kc ws ad ga gc M n f T G K F Fm nm ce se k) (hP : va_P (dC, dI) vwCl (ws ++ (w10 hm X C (Fm 0) (Fm 1) (Fm 2) (Fm 3) (Fm 4) (Fm 5) (Fm 6) (Fm 7) (Fm 8) (Fm 10) (Fm 13) (Fm 14) (Fm 15) (Fm 16) (Fm 17) (Fm 18) (Fm 19) (Fm 20) (Fm 21) (Fm 22) (Fm 23) (Fm 24) (Fm 25) (Fm 26) (Fm 27) (Fm 28) (Fm 29) (Fm 30) (Fm 31) (Fm 32) (Fm 33) (Fm 34) (Fm 35) (Fm 36) (Fm 37) (Fm 38) (Fm 39) (Fm 40) (Fm 41) (Fm 42) (Fm 43) (Fm 49) (Fm 50) (Fm 51) (Fm 52) (Fm 53) (Fm 54) (Fm 55) (Fm 56) (Fm 57) (Fm 58) (Fm 59) (nm 9) (nm 11) (nm 12) (nm 44) (nm 45) (nm 46) (nm 47) (nm 48))) H) (hD : va_D A (ws ++ (w10 hm X C (Fm 0) (Fm 1) (Fm 2) (Fm 3) (Fm 4) (Fm 5) (Fm 6) (Fm 7) (Fm 8) (Fm 10) (Fm 13) (Fm 14) (Fm 15) (Fm 16) (Fm 17) (Fm 18) (Fm 19) (Fm 20) (Fm 21) (Fm 22) (Fm 23) (Fm 24) (Fm 25) (Fm 26) (Fm 27) (Fm 28) (Fm 29) (Fm 30) (Fm 31) (Fm 32) (Fm 33) (Fm 34) (Fm 35) (Fm 36) (Fm 37) (Fm 38) (Fm 39) (Fm 40) (Fm 41) (Fm 42) (Fm 43) (Fm 49) (Fm 50) (Fm 51) (Fm 52) (Fm 53) (Fm 54) (Fm 55) (Fm 56) (Fm 57) (Fm 58) (Fm 59) (nm 9) (nm 11) (nm 12) (nm 44) (nm 45) (nm 46) (nm 47) (nm 48)))) (hS : va_S A s.heap H locs) (hl : lv_has ls 4 [(3, .int x), (2, .ref hm), (1, .ref (ad 0)), (0, .ref b)]) : W p l e room_1 s m #[Value.ref b] below meth c H locs ce se (lw_Z below #[Value.ref b] s) (F0 m 167 ls []) := by
  obtain ⟨hx, hb, hr, hml, hown, hts, hX, hbl, hlocks, hgv⟩ := id C0
  have hg : ∀ w ∈ gw, w.before _ s = true := fun w h => hts w (gw_tbl w h)
  obtain ⟨hQ, hI, hI10, hRel, hr1, hr2⟩ := id hLF
  have qn_ := I10_n11 hI10
  have q1_ := hI.1
  unfold i1 at q1_
  have hSl := S9_le hI.2.2.2.2.2.2.2.1 hI.2.2.2.2.2.2.2.2.1
  have tx1 : (x + 1).toInt = x.toInt + 1 := ar_add rfl ti_1 rfl (by omega)
  have tx2 : (x + 2).toInt = x.toInt + 2 := ar_add rfl ti_2 rfl (by omega)
  have tx3 : (x + 3).toInt = x.toInt + 3 := ar_add rfl ti_3 rfl (by omega)
  have tx4 : (x + 4).toInt = x.toInt + 4 := ar_add rfl ti_4 rfl (by omega)
  refine lv_aload_n hx hb dL_law_167 rfl (lv_at hl 2 rfl) ?_
  refine lv_aload_n hx hb dL_law_168 rfl (lv_at hl 3 rfl) ?_
  refine lv_iload_n hx hb dL_law_169 rfl (lv_at hl 0 rfl) ?_
  refine lv_iconst (v := 1) hx hb dL_law_170 (by decide) ?_
  refine lv_iadd hx hb dL_law_171 ?_
  refine va_sld hx hb hX hbl hbA hS (vp_in_iff.mpr ⟨by omega, by omega⟩) dL_law_172 ?_
  refine lv_aload_n hx hb dL_law_173 rfl (lv_at hl 3 rfl) ?_
  refine lv_iload_n hx hb dL_law_174 rfl (lv_at hl 0 rfl) ?_
  refine lv_iconst (v := 2) hx hb dL_law_175 (by decide) ?_
  refine lv_iadd hx hb dL_law_176 ?_
  refine va_sld hx hb hX hbl hbA hS (vp_in_iff.mpr ⟨by omega, by omega⟩) dL_law_177 ?_
  have hPc := pl_P hP
  have hDc := pl_D hD
  have hKc := hK.sub (tys' := t9 kc) [0, 1, 2, 3] rfl
  have hFc := free_all hDc hS hA
  refine W_msr2 (fun hm1 hm2 hm3 => ?_)
  refine va_calli (va_runV (As := [.int (xs (Int32.toNatClampNeg (x + 1))), .int (xs (Int32.toNatClampNeg (x + 2)))]) (rest := []) ⟨hx, hb, hml, hown, hg⟩ (c9_X9_first l dC dI kc ws ad ga gc M n f T G K F (600 * k) (xs (Int32.toNatClampNeg (x + 1))) (xs (Int32.toNatClampNeg (x + 2))) H.size (hpS H) hQ hI) (cwV 2 hg (gw_V gm_methodLink_RL_18_yX9_first gm_instanceMethod_yX9_first gm_selects_RX9_yX9_first_yX9_first gm_initialized_RX9 gm_code_yX9_first_cX9_first_3_some_boolean_) rfl rfl rfl (by decide +kernel) ⟨Nat.le_of_ble_eq_true rfl, Nat.le_of_ble_eq_true rfl⟩) ⟨fun a U g mk q => by obtain ⟨q0, q1, q2, qP, qK, qD, qN⟩ := q; exact ⟨q0, q1, q2, qP, va_K.moved (u := U) (U := U.calling g mk a) (Vm.Alike.refl U.vm) qK, qD, nx_same (u := U) (U := U.calling g mk a) rfl qN⟩, va_recv hKc hPc (ci := 9) (q0 := 0) rfl hQ.x0, fun U hU hW => ⟨rfl, by rw [hU], by rw [hU], by rw [hU]; exact hPc, va_K.moved hW.alike hKc, hDc.weaken (fun _ _ _ _ => trivial), nx_warm hW hN⟩⟩ rfl rfl hl.1 rfl (lv_room (Nat.le_of_ble_eq_true rfl)) dL_law_178 ⟨by show ce + 0 ≤ 600000; omega, by show se + 0 ≤ 7302250; omega⟩) hS (fun q _ h => hFc q h) hFc (fun r_1 u_2 t H1 locs ht hvm hw hB hz1 hk1 hS => ?_)
  obtain ⟨ad_3, ga_4, gc_5, M_6, n_7, f_8, T_9, G_10, K_11, F_12⟩ := u_2
  have hB : ∃ w : va_W, va_P (dC, dI) vwCl w t.heap ∧ va_D (va_A ws H.size) w ∧ Pic9 kc w ad ga gc M n f_8 T G K F ∧ I9 M n f_8 T gc G K F (600 * k) ∧ hpS t.heap + (260 * M + 2 * S9 M gc) ≤ hpS H + (260 * M + 2 * S9 M gc) ∧ 16 * t.heap.size + (256 * M + S9 M gc) ≤ 16 * H.size + (256 * M + S9 M gc) := hB
  rw [ht] at hB
  obtain ⟨ws_13, hP1, hD1, hQ, hI_14, hy1, hy2⟩ := hB
  obtain ⟨hP, hD⟩ := va_appL hP hD hk1 hFc hP1 hD1
  have q1_ := hI_14.1
  unfold i1 at q1_
  have hSl := S9_le hI_14.2.2.2.2.2.2.2.1 hI_14.2.2.2.2.2.2.2.2.1
  refine W_msr2 (fun hn1 hn2 hn3 => ?_)
  obtain ⟨ce2, se2, hk3, hk4, hr1, hr2⟩ : ∃ c2 s2 : Nat, H1.size ≤ s.heap.size + c2 ∧ hpS H1 ≤ hpS s.heap + s2 ∧ s2 ≤ 668085 + (260 * M + 2 * S9 M gc) ∧ 16 * c2 ≤ 16 * 103 + (256 * M + S9 M gc) := ⟨H1.size - s.heap.size, hpS H1 - hpS s.heap, by omega, by omega, by have := hS.1; omega, by have := hS.1; omega⟩
  refine W_tightP hk3 hk4 ?_
  clear hm1 hm2 hm3 hn1 hn2 hn3 hk3 hk4 hk1 hz1 hy1 hy2
  generalize ce2 = ce, se2 = se at hr1 hr2 ⊢
  generalize H1 = H at hP hS ⊢
  have e9 : ((C9.mk n f_8 T G K F), r_1) = k_first (xs (Int32.toNatClampNeg (x + 1))) (xs (Int32.toNatClampNeg (x + 2))) (C9.mk n f T G K F) := by rcases hw with ⟨_, hw⟩ | ⟨_, hw⟩ <;> first | exact hw | exact hw.1
  refine lv_pop hx hb dL_law_181 rfl ?_
  refine lv_aload_n hx hb dL_law_182 rfl (lv_at hl 1 rfl) ?_
  refine lv_aload_n hx hb dL_law_183 rfl (lv_at hl 3 rfl) ?_
  refine lv_iload_n hx hb dL_law_184 rfl (lv_at hl 0 rfl) ?_
  refine lv_iconst (v := 1) hx hb dL_law_185 (by decide) ?_
  refine lv_iadd hx hb dL_law_186 ?_
  refine va_sld hx hb hX hbl hbA hS (vp_in_iff.mpr ⟨by omega, by omega⟩) dL_law_187 ?_
  refine lv_aload_n hx hb dL_law_188 rfl (lv_at hl 3 rfl) ?_
  refine lv_iload_n hx hb dL_law_189 rfl (lv_at hl 0 rfl) ?_
  refine lv_iconst (v := 2) hx hb dL_law_190 (by decide) ?_
  refine lv_iadd hx hb dL_law_191 ?_
  refine va_sld hx hb hX hbl hbA hS (vp_in_iff.mpr ⟨by omega, by omega⟩) dL_law_192 ?_
  have hPc := pr_P hP
  have hDc := pr_D hD
  have hKc := hK.sub (tys' := t10 C) [4, 5, 6, 7, 8, 9, 10, 11, 12, 13, 14, 15, 16, 17, 18, 19, 20, 21, 22, 23, 24, 25, 26, 27, 28, 29, 30, 31, 32, 33, 34, 35, 36, 37, 38, 39, 40, 41, 42, 43, 44, 45, 46, 47, 48, 49, 50, 51, 52, 53, 54, 55] rfl
  have hFc := free_all hDc hS hA
  refine va_calli (va_runV (As := [.int (xs (Int32.toNatClampNeg (x + 1))), .int (xs (Int32.toNatClampNeg (x + 2)))]) (rest := []) ⟨hx, hb, hml, hown, hg⟩ (c_X10_first l dC dI (40000 * (k : Int)) hm X C Fm nm (xs (Int32.toNatClampNeg (x + 1))) (xs (Int32.toNatClampNeg (x + 2))) H.size hI10) (cwV 2 hg (gw_V gm_methodLink_RL_22_yX10_first gm_instanceMethod_yX10_first gm_selects_RX10_yX10_first_yX10_first gm_initialized_RX10 gm_code_yX10_first_cX10_first_3_some_boolean_) rfl rfl rfl (by decide +kernel) ⟨Nat.le_of_ble_eq_true rfl, Nat.le_of_ble_eq_true rfl⟩) ⟨fun a U g mk q => by obtain ⟨q0, q1, qP, qK, qD, qN⟩ := q; exact ⟨q0, q1, qP, va_K.moved (u := U) (U := U.calling g mk a) (Vm.Alike.refl U.vm) qK, qD, nx_same (u := U) (U := U.calling g mk a) rfl qN⟩, va_recv hKc hPc (ci := 10) (q0 := 0) rfl rfl, fun U hU hW => ⟨rfl, by rw [hU], by rw [hU]; exact hPc, va_K.moved hW.alike hKc, hDc.weaken (fun _ _ _ _ => trivial), nx_warm hW hN⟩⟩ rfl rfl hl.1 rfl (lv_room (Nat.le_of_ble_eq_true rfl)) dL_law_193 ⟨by show ce + 0 ≤ 600000; omega, by show se + 0 ≤ 7302250; omega⟩) hS (fun q _ h => hFc q h) hFc (fun r_15 u_16 t H1 locs ht hvm hw hB hz1 hk1 hS => ?_)
  obtain ⟨Fm_17, nm_18⟩ := u_16
  obtain ⟨hP1, hD1, hJ_19⟩ := hB
  have hJ_19 : I10 (40000 * (k : Int)) Fm_17 nm_18 := hJ_19
  rw [ht] at hP1
  obtain ⟨hP, hD⟩ := va_appR hP hD hk1 hFc hP1 hD1
  have hP : va_P (dC, dI) vwCl (ws_13 ++ (w10 hm X C (Fm_17 0) (Fm_17 1) (Fm_17 2) (Fm_17 3) (Fm_17 4) (Fm_17 5) (Fm_17 6) (Fm_17 7) (Fm_17 8) (Fm_17 10) (Fm_17 13) (Fm_17 14) (Fm_17 15) (Fm_17 16) (Fm_17 17) (Fm_17 18) (Fm_17 19) (Fm_17 20) (Fm_17 21) (Fm_17 22) (Fm_17 23) (Fm_17 24) (Fm_17 25) (Fm_17 26) (Fm_17 27) (Fm_17 28) (Fm_17 29) (Fm_17 30) (Fm_17 31) (Fm_17 32) (Fm_17 33) (Fm_17 34) (Fm_17 35) (Fm_17 36) (Fm_17 37) (Fm_17 38) (Fm_17 39) (Fm_17 40) (Fm_17 41) (Fm_17 42) (Fm_17 43) (Fm_17 49) (Fm_17 50) (Fm_17 51) (Fm_17 52) (Fm_17 53) (Fm_17 54) (Fm_17 55) (Fm_17 56) (Fm_17 57) (Fm_17 58) (Fm_17 59) (nm_18 9) (nm_18 11) (nm_18 12) (nm_18 44) (nm_18 45) (nm_18 46) (nm_18 47) (nm_18 48))) H1 := hP
  have hD : va_D A (ws_13 ++ (w10 hm X C (Fm_17 0) (Fm_17 1) (Fm_17 2) (Fm_17 3) (Fm_17 4) (Fm_17 5) (Fm_17 6) (Fm_17 7) (Fm_17 8) (Fm_17 10) (Fm_17 13) (Fm_17 14) (Fm_17 15) (Fm_17 16) (Fm_17 17) (Fm_17 18) (Fm_17 19) (Fm_17 20) (Fm_17 21) (Fm_17 22) (Fm_17 23) (Fm_17 24) (Fm_17 25) (Fm_17 26) (Fm_17 27) (Fm_17 28) (Fm_17 29) (Fm_17 30) (Fm_17 31) (Fm_17 32) (Fm_17 33) (Fm_17 34) (Fm_17 35) (Fm_17 36) (Fm_17 37) (Fm_17 38) (Fm_17 39) (Fm_17 40) (Fm_17 41) (Fm_17 42) (Fm_17 43) (Fm_17 49) (Fm_17 50) (Fm_17 51) (Fm_17 52) (Fm_17 53) (Fm_17 54) (Fm_17 55) (Fm_17 56) (Fm_17 57) (Fm_17 58) (Fm_17 59) (nm_18 9) (nm_18 11) (nm_18 12) (nm_18 44) (nm_18 45) (nm_18 46) (nm_18 47) (nm_18 48))) := hD
  refine W.widen (k := ce) (n := se) (Nat.le_refl _) (Nat.le_refl _) ?_
  clear hk1 hz1
  generalize H1 = H at hP hS ⊢
  have e10 : ((Q10.mk Fm_17 nm_18), r_15) = r_first (xs (Int32.toNatClampNeg (x + 1))) (xs (Int32.toNatClampNeg (x + 2))) (Q10.mk Fm nm) := by rcases hw with ⟨_, hw⟩ | ⟨_, hw⟩ <;> first | exact hw | exact hw.1
  have hs := first_sim hRel (xs (Int32.toNatClampNeg (x + 1))) (xs (Int32.toNatClampNeg (x + 2)))
  rw [← e9, ← e10] at hs
  have hRel : Rl (600 * k) (1200 * (k : Int)) (C9.mk n f_8 T G K F) (Q10.mk Fm_17 nm_18) := hs.1
  refine lv_pop hx hb dL_law_196 rfl ?_
  refine lv_goto (tgt := 761) hx hb dL_law_197 (by decide) ?_
  obtain ⟨y, ey⟩ : ∃ q : Int32, q = x + 5 := ⟨_, rfl⟩
  refine lv_iinc (v := y) (lv' := [(3, .int y), (2, .ref hm), (1, .ref (ad 0)), (0, .ref b)]) hx hb dL_law_761 hl (k := 0) rfl (by rw [ey]; rfl) (by decide) rfl (fun ls hl => ?_)
  have ty : y.toInt = x.toInt + 5 := ar_add rfl ti_5 ey (by omega)
  refine lv_goto (tgt := 18) hx hb dL_law_764 (by decide) ?_
  exact ih y ws_13 ad ga gc M n f_8 T G K F Fm_17 nm_18 ce se H locs ls (by omega) ⟨hQ, I9.mono (R := (600 * k)) hI_14 (by omega), I10_mono (k := (40000 * (k : Int))) hJ_19 (by omega), hRel.more (by omega) (by omega), by omega, by omega⟩ hP hD hS (lv_sub hl [0, 1, 2, 3] rfl)

set_option maxHeartbeats 8000000 in
set_option maxRecDepth 100000 in
theorem law_c2 {p : Program} {e : Env} {s : State} {m : MethodId} {below : List Frame} {meth : Method} {c : Code} (l : Launch) {A : Nat → Prop} {b L : Nat} {xs : Nat → Int32} (hL : L ≤ 2560) (C0 : lw_At p s m meth c b L xs) (hA : ∀ q : Nat, s.heap.size ≤ q → A q) (hAf : ∀ q : Nat, A q → s.heap.size ≤ q) (hbA : ¬ A b) (hN : nx s) {dC : Nat → ClassId} {dI : Nat → Nat → Nat} (kc : Nat → ClassId) (hm : Nat) (X : Nat → Nat) (C : Nat → ClassId) (hK : va_K (dC, dI) vwCl (t9 kc ++ t10 C) s) {k : Nat} (hk5 : 5 * k + 5 ≤ L) (ih : LH p l e s m below meth c b A dC dI kc hm X C (k + 1)) (x : Int32) (ws : va_W) (ad : Nat → Nat) (ga : Nat → Nat) (gc : Nat → Nat) (M : Nat) (n : Nat → Int32) (f : Nat → Nat → Int32) (T : Nat → Option Nat) (G : Nat → Nat → Int32) (K : Nat → Nat → Option Nat) (F : Nat → Nat → Nat → Int32) (Fm : Nat → Nat → Int32) (nm : Nat → Int32) (ce se : Nat) (H : Heap) (locs : List Loc) (ls : Array Slot) (hxk : x.toInt = 5 * (k : Int)) (hLF : LF kc ws ad ga gc M n f T G K F Fm nm ce se k) (hP : va_P (dC, dI) vwCl (ws ++ (w10 hm X C (Fm 0) (Fm 1) (Fm 2) (Fm 3) (Fm 4) (Fm 5) (Fm 6) (Fm 7) (Fm 8) (Fm 10) (Fm 13) (Fm 14) (Fm 15) (Fm 16) (Fm 17) (Fm 18) (Fm 19) (Fm 20) (Fm 21) (Fm 22) (Fm 23) (Fm 24) (Fm 25) (Fm 26) (Fm 27) (Fm 28) (Fm 29) (Fm 30) (Fm 31) (Fm 32) (Fm 33) (Fm 34) (Fm 35) (Fm 36) (Fm 37) (Fm 38) (Fm 39) (Fm 40) (Fm 41) (Fm 42) (Fm 43) (Fm 49) (Fm 50) (Fm 51) (Fm 52) (Fm 53) (Fm 54) (Fm 55) (Fm 56) (Fm 57) (Fm 58) (Fm 59) (nm 9) (nm 11) (nm 12) (nm 44) (nm 45) (nm 46) (nm 47) (nm 48))) H) (hD : va_D A (ws ++ (w10 hm X C (Fm 0) (Fm 1) (Fm 2) (Fm 3) (Fm 4) (Fm 5) (Fm 6) (Fm 7) (Fm 8) (Fm 10) (Fm 13) (Fm 14) (Fm 15) (Fm 16) (Fm 17) (Fm 18) (Fm 19) (Fm 20) (Fm 21) (Fm 22) (Fm 23) (Fm 24) (Fm 25) (Fm 26) (Fm 27) (Fm 28) (Fm 29) (Fm 30) (Fm 31) (Fm 32) (Fm 33) (Fm 34) (Fm 35) (Fm 36) (Fm 37) (Fm 38) (Fm 39) (Fm 40) (Fm 41) (Fm 42) (Fm 43) (Fm 49) (Fm 50) (Fm 51) (Fm 52) (Fm 53) (Fm 54) (Fm 55) (Fm 56) (Fm 57) (Fm 58) (Fm 59) (nm 9) (nm 11) (nm 12) (nm 44) (nm 45) (nm 46) (nm 47) (nm 48)))) (hS : va_S A s.heap H locs) (hl : lv_has ls 4 [(3, .int x), (2, .ref hm), (1, .ref (ad 0)), (0, .ref b)]) : W p l e room_1 s m #[Value.ref b] below meth c H locs ce se (lw_Z below #[Value.ref b] s) (F0 m 200 ls []) := by
  obtain ⟨hx, hb, hr, hml, hown, hts, hX, hbl, hlocks, hgv⟩ := id C0
  have hg : ∀ w ∈ gw, w.before _ s = true := fun w h => hts w (gw_tbl w h)
  obtain ⟨hQ, hI, hI10, hRel, hr1, hr2⟩ := id hLF
  have qn_ := I10_n11 hI10
  have q1_ := hI.1
  unfold i1 at q1_
  have hSl := S9_le hI.2.2.2.2.2.2.2.1 hI.2.2.2.2.2.2.2.2.1
  have tx1 : (x + 1).toInt = x.toInt + 1 := ar_add rfl ti_1 rfl (by omega)
  have tx2 : (x + 2).toInt = x.toInt + 2 := ar_add rfl ti_2 rfl (by omega)
  have tx3 : (x + 3).toInt = x.toInt + 3 := ar_add rfl ti_3 rfl (by omega)
  have tx4 : (x + 4).toInt = x.toInt + 4 := ar_add rfl ti_4 rfl (by omega)
  refine lv_aload_n hx hb dL_law_200 rfl (lv_at hl 2 rfl) ?_
  refine lv_aload_n hx hb dL_law_201 rfl (lv_at hl 3 rfl) ?_
  refine lv_iload_n hx hb dL_law_202 rfl (lv_at hl 0 rfl) ?_
  refine lv_iconst (v := 1) hx hb dL_law_203 (by decide) ?_
  refine lv_iadd hx hb dL_law_204 ?_
  refine va_sld hx hb hX hbl hbA hS (vp_in_iff.mpr ⟨by omega, by omega⟩) dL_law_205 ?_
  refine lv_aload_n hx hb dL_law_206 rfl (lv_at hl 3 rfl) ?_
  refine lv_iload_n hx hb dL_law_207 rfl (lv_at hl 0 rfl) ?_
  refine lv_iconst (v := 2) hx hb dL_law_208 (by decide) ?_
  refine lv_iadd hx hb dL_law_209 ?_
  refine va_sld hx hb hX hbl hbA hS (vp_in_iff.mpr ⟨by omega, by omega⟩) dL_law_210 ?_
  refine lv_aload_n hx hb dL_law_211 rfl (lv_at hl 3 rfl) ?_
  refine lv_iload_n hx hb dL_law_212 rfl (lv_at hl 0 rfl) ?_
  refine lv_iconst (v := 3) hx hb dL_law_213 (by decide) ?_
  refine lv_iadd hx hb dL_law_214 ?_
  refine va_sld hx hb hX hbl hbA hS (vp_in_iff.mpr ⟨by omega, by omega⟩) dL_law_215 ?_
  refine lv_aload_n hx hb dL_law_216 rfl (lv_at hl 3 rfl) ?_
  refine lv_iload_n hx hb dL_law_217 rfl (lv_at hl 0 rfl) ?_
  refine lv_iconst (v := 4) hx hb dL_law_218 (by decide) ?_
  refine lv_iadd hx hb dL_law_219 ?_
  refine va_sld hx hb hX hbl hbA hS (vp_in_iff.mpr ⟨by omega, by omega⟩) dL_law_220 ?_
  have hPc := pl_P hP
  have hDc := pl_D hD
  have hKc := hK.sub (tys' := t9 kc) [0, 1, 2, 3] rfl
  have hFc := free_all hDc hS hA
  refine W_msr2 (fun hm1 hm2 hm3 => ?_)
  refine va_calli (va_runV (As := [.int (xs (Int32.toNatClampNeg (x + 1))), .int (xs (Int32.toNatClampNeg (x + 2))), .int (xs (Int32.toNatClampNeg (x + 3))), .int (xs (Int32.toNatClampNeg (x + 4)))]) (rest := []) ⟨hx, hb, hml, hown, hg⟩ (c9_X9_step l dC dI kc ws ad ga gc M n f T G K F (600 * k) (xs (Int32.toNatClampNeg (x + 1))) (xs (Int32.toNatClampNeg (x + 2))) (xs (Int32.toNatClampNeg (x + 3))) (xs (Int32.toNatClampNeg (x + 4))) H.size (hpS H) hQ hI) (cwV 4 hg (gw_V gm_methodLink_RL_23_yX9_step gm_instanceMethod_yX9_step gm_selects_RX9_yX9_step_yX9_step gm_initialized_RX9 gm_code_yX9_step_cX9_step_6_some_int_) rfl rfl rfl (by decide +kernel) ⟨Nat.le_of_ble_eq_true rfl, Nat.le_of_ble_eq_true rfl⟩) ⟨fun a U g mk q => by obtain ⟨q0, q1, q2, qP, qK, qD, qN⟩ := q; exact ⟨q0, q1, q2, qP, va_K.moved (u := U) (U := U.calling g mk a) (Vm.Alike.refl U.vm) qK, qD, nx_same (u := U) (U := U.calling g mk a) rfl qN⟩, va_recv hKc hPc (ci := 9) (q0 := 0) rfl hQ.x0, fun U hU hW => ⟨rfl, by rw [hU], by rw [hU], by rw [hU]; exact hPc, va_K.moved hW.alike hKc, hDc.weaken (fun _ _ _ _ => trivial), nx_warm hW hN⟩⟩ rfl rfl hl.1 rfl (lv_room (Nat.le_of_ble_eq_true rfl)) dL_law_221 ⟨by show ce + 0 ≤ 600000; omega, by show se + 0 ≤ 7302250; omega⟩) hS (fun q _ h => hFc q h) hFc (fun r_1 u_2 t H1 locs ht hvm hw hB hz1 hk1 hS => ?_)
  obtain ⟨ad_3, ga_4, gc_5, M_6, n_7, f_8, T_9, G_10, K_11, F_12⟩ := u_2
  have hB : ∃ w : va_W, va_P (dC, dI) vwCl w t.heap ∧ va_D (va_A ws H.size) w ∧ Pic9 kc w ad ga gc M n_7 f_8 T G K F ∧ I9 M n_7 f_8 T gc G K F (600 * k) ∧ hpS t.heap + (260 * M + 2 * S9 M gc) ≤ hpS H + (260 * M + 2 * S9 M gc) ∧ 16 * t.heap.size + (256 * M + S9 M gc) ≤ 16 * H.size + (256 * M + S9 M gc) ∧ (n 0).toInt ≤ (n_7 0).toInt := hB
  rw [ht] at hB
  obtain ⟨ws_13, hP1, hD1, hQ, hI_15, hy1, hy2, hn_14⟩ := hB
  obtain ⟨hP, hD⟩ := va_appL hP hD hk1 hFc hP1 hD1
  have q1_ := hI_15.1
  unfold i1 at q1_
  have hSl := S9_le hI_15.2.2.2.2.2.2.2.1 hI_15.2.2.2.2.2.2.2.2.1
  refine W_msr2 (fun hn1 hn2 hn3 => ?_)
  obtain ⟨ce2, se2, hk3, hk4, hr1, hr2⟩ : ∃ c2 s2 : Nat, H1.size ≤ s.heap.size + c2 ∧ hpS H1 ≤ hpS s.heap + s2 ∧ s2 ≤ 668085 + (260 * M + 2 * S9 M gc) ∧ 16 * c2 ≤ 16 * 103 + (256 * M + S9 M gc) := ⟨H1.size - s.heap.size, hpS H1 - hpS s.heap, by omega, by omega, by have := hS.1; omega, by have := hS.1; omega⟩
  refine W_tightP hk3 hk4 ?_
  clear hm1 hm2 hm3 hn1 hn2 hn3 hk3 hk4 hk1 hz1 hy1 hy2
  generalize ce2 = ce, se2 = se at hr1 hr2 ⊢
  generalize H1 = H at hP hS ⊢
  have e9 : ((C9.mk n_7 f_8 T G K F), r_1) = k_stepIn (xs (Int32.toNatClampNeg (x + 1))) (xs (Int32.toNatClampNeg (x + 2))) (xs (Int32.toNatClampNeg (x + 3))) (xs (Int32.toNatClampNeg (x + 4))) (C9.mk n f T G K F) := hw
  refine lv_pop hx hb dL_law_224 rfl ?_
  refine lv_aload_n hx hb dL_law_225 rfl (lv_at hl 1 rfl) ?_
  refine lv_aload_n hx hb dL_law_226 rfl (lv_at hl 3 rfl) ?_
  refine lv_iload_n hx hb dL_law_227 rfl (lv_at hl 0 rfl) ?_
  refine lv_iconst (v := 1) hx hb dL_law_228 (by decide) ?_
  refine lv_iadd hx hb dL_law_229 ?_
  refine va_sld hx hb hX hbl hbA hS (vp_in_iff.mpr ⟨by omega, by omega⟩) dL_law_230 ?_
  refine lv_aload_n hx hb dL_law_231 rfl (lv_at hl 3 rfl) ?_
  refine lv_iload_n hx hb dL_law_232 rfl (lv_at hl 0 rfl) ?_
  refine lv_iconst (v := 2) hx hb dL_law_233 (by decide) ?_
  refine lv_iadd hx hb dL_law_234 ?_
  refine va_sld hx hb hX hbl hbA hS (vp_in_iff.mpr ⟨by omega, by omega⟩) dL_law_235 ?_
  refine lv_aload_n hx hb dL_law_236 rfl (lv_at hl 3 rfl) ?_
  refine lv_iload_n hx hb dL_law_237 rfl (lv_at hl 0 rfl) ?_
  refine lv_iconst (v := 3) hx hb dL_law_238 (by decide) ?_
  refine lv_iadd hx hb dL_law_239 ?_
  refine va_sld hx hb hX hbl hbA hS (vp_in_iff.mpr ⟨by omega, by omega⟩) dL_law_240 ?_
  refine lv_aload_n hx hb dL_law_241 rfl (lv_at hl 3 rfl) ?_
  refine lv_iload_n hx hb dL_law_242 rfl (lv_at hl 0 rfl) ?_
  refine lv_iconst (v := 4) hx hb dL_law_243 (by decide) ?_
  refine lv_iadd hx hb dL_law_244 ?_
  refine va_sld hx hb hX hbl hbA hS (vp_in_iff.mpr ⟨by omega, by omega⟩) dL_law_245 ?_
  have hPc := pr_P hP
  have hDc := pr_D hD
  have hKc := hK.sub (tys' := t10 C) [4, 5, 6, 7, 8, 9, 10, 11, 12, 13, 14, 15, 16, 17, 18, 19, 20, 21, 22, 23, 24, 25, 26, 27, 28, 29, 30, 31, 32, 33, 34, 35, 36, 37, 38, 39, 40, 41, 42, 43, 44, 45, 46, 47, 48, 49, 50, 51, 52, 53, 54, 55] rfl
  have hFc := free_all hDc hS hA
  refine va_calli (va_runV (As := [.int (xs (Int32.toNatClampNeg (x + 1))), .int (xs (Int32.toNatClampNeg (x + 2))), .int (xs (Int32.toNatClampNeg (x + 3))), .int (xs (Int32.toNatClampNeg (x + 4)))]) (rest := []) ⟨hx, hb, hml, hown, hg⟩ (c_X10_step l dC dI (40000 * (k : Int)) hm X C Fm nm (xs (Int32.toNatClampNeg (x + 1))) (xs (Int32.toNatClampNeg (x + 2))) (xs (Int32.toNatClampNeg (x + 3))) (xs (Int32.toNatClampNeg (x + 4))) H.size hI10) (cwV 4 hg (gw_V gm_methodLink_RL_27_yX10_step gm_instanceMethod_yX10_step gm_selects_RX10_yX10_step_yX10_step gm_initialized_RX10 gm_code_yX10_step_cX10_step_6_some_int_) rfl rfl rfl (by decide +kernel) ⟨Nat.le_of_ble_eq_true rfl, Nat.le_of_ble_eq_true rfl⟩) ⟨fun a U g mk q => by obtain ⟨q0, q1, qP, qK, qD, qN⟩ := q; exact ⟨q0, q1, qP, va_K.moved (u := U) (U := U.calling g mk a) (Vm.Alike.refl U.vm) qK, qD, nx_same (u := U) (U := U.calling g mk a) rfl qN⟩, va_recv hKc hPc (ci := 10) (q0 := 0) rfl rfl, fun U hU hW => ⟨rfl, by rw [hU], by rw [hU]; exact hPc, va_K.moved hW.alike hKc, hDc.weaken (fun _ _ _ _ => trivial), nx_warm hW hN⟩⟩ rfl rfl hl.1 rfl (lv_room (Nat.le_of_ble_eq_true rfl)) dL_law_246 ⟨by show ce + 0 ≤ 600000; omega, by show se + 0 ≤ 7302250; omega⟩) hS (fun q _ h => hFc q h) hFc (fun r_16 u_17 t H1 locs ht hvm hw hB hz1 hk1 hS => ?_)
  obtain ⟨Fm_18, nm_19⟩ := u_17
  obtain ⟨hP1, hD1, hJ_20⟩ := hB
  have hJ_20 : I10 (40000 * (k : Int)) Fm_18 nm_19 := hJ_20
  rw [ht] at hP1
  obtain ⟨hP, hD⟩ := va_appR hP hD hk1 hFc hP1 hD1
  have hP : va_P (dC, dI) vwCl (ws_13 ++ (w10 hm X C (Fm_18 0) (Fm_18 1) (Fm_18 2) (Fm_18 3) (Fm_18 4) (Fm_18 5) (Fm_18 6) (Fm_18 7) (Fm_18 8) (Fm_18 10) (Fm_18 13) (Fm_18 14) (Fm_18 15) (Fm_18 16) (Fm_18 17) (Fm_18 18) (Fm_18 19) (Fm_18 20) (Fm_18 21) (Fm_18 22) (Fm_18 23) (Fm_18 24) (Fm_18 25) (Fm_18 26) (Fm_18 27) (Fm_18 28) (Fm_18 29) (Fm_18 30) (Fm_18 31) (Fm_18 32) (Fm_18 33) (Fm_18 34) (Fm_18 35) (Fm_18 36) (Fm_18 37) (Fm_18 38) (Fm_18 39) (Fm_18 40) (Fm_18 41) (Fm_18 42) (Fm_18 43) (Fm_18 49) (Fm_18 50) (Fm_18 51) (Fm_18 52) (Fm_18 53) (Fm_18 54) (Fm_18 55) (Fm_18 56) (Fm_18 57) (Fm_18 58) (Fm_18 59) (nm_19 9) (nm_19 11) (nm_19 12) (nm_19 44) (nm_19 45) (nm_19 46) (nm_19 47) (nm_19 48))) H1 := hP
  have hD : va_D A (ws_13 ++ (w10 hm X C (Fm_18 0) (Fm_18 1) (Fm_18 2) (Fm_18 3) (Fm_18 4) (Fm_18 5) (Fm_18 6) (Fm_18 7) (Fm_18 8) (Fm_18 10) (Fm_18 13) (Fm_18 14) (Fm_18 15) (Fm_18 16) (Fm_18 17) (Fm_18 18) (Fm_18 19) (Fm_18 20) (Fm_18 21) (Fm_18 22) (Fm_18 23) (Fm_18 24) (Fm_18 25) (Fm_18 26) (Fm_18 27) (Fm_18 28) (Fm_18 29) (Fm_18 30) (Fm_18 31) (Fm_18 32) (Fm_18 33) (Fm_18 34) (Fm_18 35) (Fm_18 36) (Fm_18 37) (Fm_18 38) (Fm_18 39) (Fm_18 40) (Fm_18 41) (Fm_18 42) (Fm_18 43) (Fm_18 49) (Fm_18 50) (Fm_18 51) (Fm_18 52) (Fm_18 53) (Fm_18 54) (Fm_18 55) (Fm_18 56) (Fm_18 57) (Fm_18 58) (Fm_18 59) (nm_19 9) (nm_19 11) (nm_19 12) (nm_19 44) (nm_19 45) (nm_19 46) (nm_19 47) (nm_19 48))) := hD
  refine W.widen (k := ce) (n := se) (Nat.le_refl _) (Nat.le_refl _) ?_
  clear hk1 hz1
  generalize H1 = H at hP hS ⊢
  have e10 : ((Q10.mk Fm_18 nm_19), r_16) = r_step (xs (Int32.toNatClampNeg (x + 1))) (xs (Int32.toNatClampNeg (x + 2))) (xs (Int32.toNatClampNeg (x + 3))) (xs (Int32.toNatClampNeg (x + 4))) (Q10.mk Fm nm) := hw.1
  have hs := stepIn_sim hRel (xs (Int32.toNatClampNeg (x + 1))) (xs (Int32.toNatClampNeg (x + 2))) (xs (Int32.toNatClampNeg (x + 3))) (xs (Int32.toNatClampNeg (x + 4)))
  rw [← e9, ← e10] at hs
  have hRel : Rl (600 * k) (1200 * (k : Int)) (C9.mk n_7 f_8 T G K F) (Q10.mk Fm_18 nm_19) := hs.1
  refine lv_pop hx hb dL_law_249 rfl ?_
  refine lv_goto (tgt := 761) hx hb dL_law_250 (by decide) ?_
  obtain ⟨y, ey⟩ : ∃ q : Int32, q = x + 5 := ⟨_, rfl⟩
  refine lv_iinc (v := y) (lv' := [(3, .int y), (2, .ref hm), (1, .ref (ad 0)), (0, .ref b)]) hx hb dL_law_761 hl (k := 0) rfl (by rw [ey]; rfl) (by decide) rfl (fun ls hl => ?_)
  have ty : y.toInt = x.toInt + 5 := ar_add rfl ti_5 ey (by omega)
  refine lv_goto (tgt := 18) hx hb dL_law_764 (by decide) ?_
  exact ih y ws_13 ad ga gc M n_7 f_8 T G K F Fm_18 nm_19 ce se H locs ls (by omega) ⟨hQ, I9.mono (R := (600 * k)) hI_15 (by omega), I10_mono (k := (40000 * (k : Int))) hJ_20 (by omega), hRel.more (by omega) (by omega), by omega, by omega⟩ hP hD hS (lv_sub hl [0, 1, 2, 3] rfl)

set_option maxHeartbeats 8000000 in
set_option maxRecDepth 100000 in
theorem law_c3 {p : Program} {e : Env} {s : State} {m : MethodId} {below : List Frame} {meth : Method} {c : Code} (l : Launch) {A : Nat → Prop} {b L : Nat} {xs : Nat → Int32} (hL : L ≤ 2560) (C0 : lw_At p s m meth c b L xs) (hA : ∀ q : Nat, s.heap.size ≤ q → A q) (hAf : ∀ q : Nat, A q → s.heap.size ≤ q) (hbA : ¬ A b) (hN : nx s) {dC : Nat → ClassId} {dI : Nat → Nat → Nat} (kc : Nat → ClassId) (hm : Nat) (X : Nat → Nat) (C : Nat → ClassId) (hK : va_K (dC, dI) vwCl (t9 kc ++ t10 C) s) {k : Nat} (hk5 : 5 * k + 5 ≤ L) (ih : LH p l e s m below meth c b A dC dI kc hm X C (k + 1)) (x : Int32) (ws : va_W) (ad : Nat → Nat) (ga : Nat → Nat) (gc : Nat → Nat) (M : Nat) (n : Nat → Int32) (f : Nat → Nat → Int32) (T : Nat → Option Nat) (G : Nat → Nat → Int32) (K : Nat → Nat → Option Nat) (F : Nat → Nat → Nat → Int32) (Fm : Nat → Nat → Int32) (nm : Nat → Int32) (ce se : Nat) (H : Heap) (locs : List Loc) (ls : Array Slot) (hxk : x.toInt = 5 * (k : Int)) (hLF : LF kc ws ad ga gc M n f T G K F Fm nm ce se k) (hP : va_P (dC, dI) vwCl (ws ++ (w10 hm X C (Fm 0) (Fm 1) (Fm 2) (Fm 3) (Fm 4) (Fm 5) (Fm 6) (Fm 7) (Fm 8) (Fm 10) (Fm 13) (Fm 14) (Fm 15) (Fm 16) (Fm 17) (Fm 18) (Fm 19) (Fm 20) (Fm 21) (Fm 22) (Fm 23) (Fm 24) (Fm 25) (Fm 26) (Fm 27) (Fm 28) (Fm 29) (Fm 30) (Fm 31) (Fm 32) (Fm 33) (Fm 34) (Fm 35) (Fm 36) (Fm 37) (Fm 38) (Fm 39) (Fm 40) (Fm 41) (Fm 42) (Fm 43) (Fm 49) (Fm 50) (Fm 51) (Fm 52) (Fm 53) (Fm 54) (Fm 55) (Fm 56) (Fm 57) (Fm 58) (Fm 59) (nm 9) (nm 11) (nm 12) (nm 44) (nm 45) (nm 46) (nm 47) (nm 48))) H) (hD : va_D A (ws ++ (w10 hm X C (Fm 0) (Fm 1) (Fm 2) (Fm 3) (Fm 4) (Fm 5) (Fm 6) (Fm 7) (Fm 8) (Fm 10) (Fm 13) (Fm 14) (Fm 15) (Fm 16) (Fm 17) (Fm 18) (Fm 19) (Fm 20) (Fm 21) (Fm 22) (Fm 23) (Fm 24) (Fm 25) (Fm 26) (Fm 27) (Fm 28) (Fm 29) (Fm 30) (Fm 31) (Fm 32) (Fm 33) (Fm 34) (Fm 35) (Fm 36) (Fm 37) (Fm 38) (Fm 39) (Fm 40) (Fm 41) (Fm 42) (Fm 43) (Fm 49) (Fm 50) (Fm 51) (Fm 52) (Fm 53) (Fm 54) (Fm 55) (Fm 56) (Fm 57) (Fm 58) (Fm 59) (nm 9) (nm 11) (nm 12) (nm 44) (nm 45) (nm 46) (nm 47) (nm 48)))) (hS : va_S A s.heap H locs) (hl : lv_has ls 4 [(3, .int x), (2, .ref hm), (1, .ref (ad 0)), (0, .ref b)]) : W p l e room_1 s m #[Value.ref b] below meth c H locs ce se (lw_Z below #[Value.ref b] s) (F0 m 253 ls []) := by
  obtain ⟨hx, hb, hr, hml, hown, hts, hX, hbl, hlocks, hgv⟩ := id C0
  have hg : ∀ w ∈ gw, w.before _ s = true := fun w h => hts w (gw_tbl w h)
  obtain ⟨hQ, hI, hI10, hRel, hr1, hr2⟩ := id hLF
  have qn_ := I10_n11 hI10
  have q1_ := hI.1
  unfold i1 at q1_
  have hSl := S9_le hI.2.2.2.2.2.2.2.1 hI.2.2.2.2.2.2.2.2.1
  have tx1 : (x + 1).toInt = x.toInt + 1 := ar_add rfl ti_1 rfl (by omega)
  have tx2 : (x + 2).toInt = x.toInt + 2 := ar_add rfl ti_2 rfl (by omega)
  have tx3 : (x + 3).toInt = x.toInt + 3 := ar_add rfl ti_3 rfl (by omega)
  have tx4 : (x + 4).toInt = x.toInt + 4 := ar_add rfl ti_4 rfl (by omega)
  refine lv_aload_n hx hb dL_law_253 rfl (lv_at hl 2 rfl) ?_
  refine lv_aload_n hx hb dL_law_254 rfl (lv_at hl 3 rfl) ?_
  refine lv_iload_n hx hb dL_law_255 rfl (lv_at hl 0 rfl) ?_
  refine lv_iconst (v := 1) hx hb dL_law_256 (by decide) ?_
  refine lv_iadd hx hb dL_law_257 ?_
  refine va_sld hx hb hX hbl hbA hS (vp_in_iff.mpr ⟨by omega, by omega⟩) dL_law_258 ?_
  refine lv_if_eq (tgt := 266) hx hb dL_law_259 (by decide) (fun c_1 => ?_) (fun c_1 => ?_)
  · simp only [i_lt, i_le, i_eq, ti_0] at c_1
    refine lv_iconst (v := 0) hx hb dL_law_266 (by decide) ?_
    have hPc := pl_P hP
    have hDc := pl_D hD
    have hKc := hK.sub (tys' := t9 kc) [0, 1, 2, 3] rfl
    have hFc := free_all hDc hS hA
    refine W_msr2 (fun hm1 hm2 hm3 => ?_)
    refine va_callv (va_runV (As := [.int 0]) (rest := []) ⟨hx, hb, hml, hown, hg⟩ (c_X9_anew l dC dI kc ws ad ga gc M n f T G K F (600 * k) 0 H.size (hpS H) hQ hI) (cwV 1 hg (gw_V gm_methodLink_RL_28_yX9_anew gm_instanceMethod_yX9_anew gm_selects_RX9_yX9_anew_yX9_anew gm_initialized_RX9 gm_code_yX9_anew_cX9_anew_3_none) rfl rfl rfl (by decide +kernel) ⟨Nat.le_of_ble_eq_true rfl, Nat.le_of_ble_eq_true rfl⟩) ⟨fun a U g mk q => by obtain ⟨q0, q1, q2, qP, qK, qD, qN⟩ := q; exact ⟨q0, q1, q2, qP, va_K.moved (u := U) (U := U.calling g mk a) (Vm.Alike.refl U.vm) qK, qD, nx_same (u := U) (U := U.calling g mk a) rfl qN⟩, va_recv hKc hPc (ci := 9) (q0 := 0) rfl hQ.x0, fun U hU hW => ⟨rfl, by rw [hU], by rw [hU], by rw [hU]; exact hPc, va_K.moved hW.alike hKc, hDc.weaken (fun _ _ _ _ => trivial), nx_warm hW hN⟩⟩ rfl rfl hl.1 rfl (lv_room (Nat.le_of_ble_eq_true rfl)) dL_law_267 ⟨by show ce + 0 ≤ 600000; omega, by show se + 0 ≤ 7302250; omega⟩) hS (fun q _ h => hFc q h) hFc (fun u_3 t H1 locs ht hvm hw hB hz1 hk1 hS => ?_)
    obtain ⟨ad_4, ga_5, gc_6, M_7, n_8, f_9, T_10, G_11, K_12, F_13⟩ := u_3
    have hB : ∃ w : va_W, va_P (dC, dI) vwCl w t.heap ∧ va_D (va_A ws H.size) w ∧ Pic9 kc w ad ga gc M n_8 f T_10 G K F ∧ I9 M n_8 f T_10 gc G K F (600 * k) ∧ hpS t.heap + (260 * M + 2 * S9 M gc) ≤ hpS H + (260 * M + 2 * S9 M gc) ∧ 16 * t.heap.size + (256 * M + S9 M gc) ≤ 16 * H.size + (256 * M + S9 M gc) := hB
    rw [ht] at hB
    obtain ⟨ws_14, hP1, hD1, hQ, hI_15, hy1, hy2⟩ := hB
    obtain ⟨hP, hD⟩ := va_appL hP hD hk1 hFc hP1 hD1
    have q1_ := hI_15.1
    unfold i1 at q1_
    have hSl := S9_le hI_15.2.2.2.2.2.2.2.1 hI_15.2.2.2.2.2.2.2.2.1
    refine W_msr2 (fun hn1 hn2 hn3 => ?_)
    obtain ⟨ce2, se2, hk3, hk4, hr1, hr2⟩ : ∃ c2 s2 : Nat, H1.size ≤ s.heap.size + c2 ∧ hpS H1 ≤ hpS s.heap + s2 ∧ s2 ≤ 668085 + (260 * M + 2 * S9 M gc) ∧ 16 * c2 ≤ 16 * 103 + (256 * M + S9 M gc) := ⟨H1.size - s.heap.size, hpS H1 - hpS s.heap, by omega, by omega, by have := hS.1; omega, by have := hS.1; omega⟩
    refine W_tightP hk3 hk4 ?_
    clear hm1 hm2 hm3 hn1 hn2 hn3 hk3 hk4 hk1 hz1 hy1 hy2
    generalize ce2 = ce, se2 = se at hr1 hr2 ⊢
    generalize H1 = H at hP hS ⊢
    have e9 : (C9.mk n_8 f T_10 G K F) = k_anew (0 : Int32) (C9.mk n f T G K F) := hw.1
    refine lv_aload_n hx hb dL_law_270 rfl (lv_at hl 1 rfl) ?_
    refine lv_aload_n hx hb dL_law_271 rfl (lv_at hl 3 rfl) ?_
    refine lv_iload_n hx hb dL_law_272 rfl (lv_at hl 0 rfl) ?_
    refine lv_iconst (v := 1) hx hb dL_law_273 (by decide) ?_
    refine lv_iadd hx hb dL_law_274 ?_
    refine va_sld hx hb hX hbl hbA hS (vp_in_iff.mpr ⟨by omega, by omega⟩) dL_law_275 ?_
    refine lv_if_eq (tgt := 283) hx hb dL_law_276 (by decide) (fun c_16 => ?_) (fun c_16 => ?_)
    · simp only [i_lt, i_le, i_eq, ti_0] at c_16
      refine lv_iconst (v := 0) hx hb dL_law_283 (by decide) ?_
      have hPc := pr_P hP
      have hDc := pr_D hD
      have hKc := hK.sub (tys' := t10 C) [4, 5, 6, 7, 8, 9, 10, 11, 12, 13, 14, 15, 16, 17, 18, 19, 20, 21, 22, 23, 24, 25, 26, 27, 28, 29, 30, 31, 32, 33, 34, 35, 36, 37, 38, 39, 40, 41, 42, 43, 44, 45, 46, 47, 48, 49, 50, 51, 52, 53, 54, 55] rfl
      have hFc := free_all hDc hS hA
      refine va_callv (va_runV (As := [.int 0]) (rest := []) ⟨hx, hb, hml, hown, hg⟩ (c_X10_anew l dC dI (40000 * (k : Int)) hm X C Fm nm 0 H.size hI10) (cwV 1 hg (gw_V gm_methodLink_RL_32_yX10_anew gm_instanceMethod_yX10_anew gm_selects_RX10_yX10_anew_yX10_anew gm_initialized_RX10 gm_code_yX10_anew_cX10_anew_3_none) rfl rfl rfl (by decide +kernel) ⟨Nat.le_of_ble_eq_true rfl, Nat.le_of_ble_eq_true rfl⟩) ⟨fun a U g mk q => by obtain ⟨q0, q1, qP, qK, qD, qN⟩ := q; exact ⟨q0, q1, qP, va_K.moved (u := U) (U := U.calling g mk a) (Vm.Alike.refl U.vm) qK, qD, nx_same (u := U) (U := U.calling g mk a) rfl qN⟩, va_recv hKc hPc (ci := 10) (q0 := 0) rfl rfl, fun U hU hW => ⟨rfl, by rw [hU], by rw [hU]; exact hPc, va_K.moved hW.alike hKc, hDc.weaken (fun _ _ _ _ => trivial), nx_warm hW hN⟩⟩ rfl rfl hl.1 rfl (lv_room (Nat.le_of_ble_eq_true rfl)) dL_law_284 ⟨by show ce + 0 ≤ 600000; omega, by show se + 0 ≤ 7302250; omega⟩) hS (fun q _ h => hFc q h) hFc (fun u_18 t H1 locs ht hvm hw hB hz1 hk1 hS => ?_)
      obtain ⟨Fm_19, nm_20⟩ := u_18
      obtain ⟨hP1, hD1, hJ_21⟩ := hB
      have hJ_21 : I10 (40000 * (k : Int)) Fm_19 nm_20 := hJ_21
      rw [ht] at hP1
      obtain ⟨hP, hD⟩ := va_appR hP hD hk1 hFc hP1 hD1
      have hP : va_P (dC, dI) vwCl (ws_14 ++ (w10 hm X C (Fm_19 0) (Fm_19 1) (Fm_19 2) (Fm_19 3) (Fm_19 4) (Fm_19 5) (Fm_19 6) (Fm_19 7) (Fm_19 8) (Fm_19 10) (Fm_19 13) (Fm_19 14) (Fm_19 15) (Fm_19 16) (Fm_19 17) (Fm_19 18) (Fm_19 19) (Fm_19 20) (Fm_19 21) (Fm_19 22) (Fm_19 23) (Fm_19 24) (Fm_19 25) (Fm_19 26) (Fm_19 27) (Fm_19 28) (Fm_19 29) (Fm_19 30) (Fm_19 31) (Fm_19 32) (Fm_19 33) (Fm_19 34) (Fm_19 35) (Fm_19 36) (Fm_19 37) (Fm_19 38) (Fm_19 39) (Fm_19 40) (Fm_19 41) (Fm_19 42) (Fm_19 43) (Fm_19 49) (Fm_19 50) (Fm_19 51) (Fm_19 52) (Fm_19 53) (Fm_19 54) (Fm_19 55) (Fm_19 56) (Fm_19 57) (Fm_19 58) (Fm_19 59) (nm_20 9) (nm_20 11) (nm_20 12) (nm_20 44) (nm_20 45) (nm_20 46) (nm_20 47) (nm_20 48))) H1 := hP
      have hD : va_D A (ws_14 ++ (w10 hm X C (Fm_19 0) (Fm_19 1) (Fm_19 2) (Fm_19 3) (Fm_19 4) (Fm_19 5) (Fm_19 6) (Fm_19 7) (Fm_19 8) (Fm_19 10) (Fm_19 13) (Fm_19 14) (Fm_19 15) (Fm_19 16) (Fm_19 17) (Fm_19 18) (Fm_19 19) (Fm_19 20) (Fm_19 21) (Fm_19 22) (Fm_19 23) (Fm_19 24) (Fm_19 25) (Fm_19 26) (Fm_19 27) (Fm_19 28) (Fm_19 29) (Fm_19 30) (Fm_19 31) (Fm_19 32) (Fm_19 33) (Fm_19 34) (Fm_19 35) (Fm_19 36) (Fm_19 37) (Fm_19 38) (Fm_19 39) (Fm_19 40) (Fm_19 41) (Fm_19 42) (Fm_19 43) (Fm_19 49) (Fm_19 50) (Fm_19 51) (Fm_19 52) (Fm_19 53) (Fm_19 54) (Fm_19 55) (Fm_19 56) (Fm_19 57) (Fm_19 58) (Fm_19 59) (nm_20 9) (nm_20 11) (nm_20 12) (nm_20 44) (nm_20 45) (nm_20 46) (nm_20 47) (nm_20 48))) := hD
      refine W.widen (k := ce) (n := se) (Nat.le_refl _) (Nat.le_refl _) ?_
      clear hk1 hz1
      generalize H1 = H at hP hS ⊢
      have e10 : (Q10.mk Fm_19 nm_20) = r_anew (0 : Int32) (Q10.mk Fm nm) := hw.1
      have hs := anew_sim hRel (by omega) (0 : Int32)
      rw [← e9, ← e10] at hs
      have hRel : Rl (600 * k) (1200 * (k : Int)) (C9.mk n_8 f T_10 G K F) (Q10.mk Fm_19 nm_20) := hs
      refine lv_goto (tgt := 761) hx hb dL_law_287 (by decide) ?_
      obtain ⟨y, ey⟩ : ∃ q : Int32, q = x + 5 := ⟨_, rfl⟩
      refine lv_iinc (v := y) (lv' := [(3, .int y), (2, .ref hm), (1, .ref (ad 0)), (0, .ref b)]) hx hb dL_law_761 hl (k := 0) rfl (by rw [ey]; rfl) (by decide) rfl (fun ls hl => ?_)
      have ty : y.toInt = x.toInt + 5 := ar_add rfl ti_5 ey (by omega)
      refine lv_goto (tgt := 18) hx hb dL_law_764 (by decide) ?_
      exact ih y ws_14 ad ga gc M n_8 f T_10 G K F Fm_19 nm_20 ce se H locs ls (by omega) ⟨hQ, I9.mono (R := (600 * k)) hI_15 (by omega), I10_mono (k := (40000 * (k : Int))) hJ_21 (by omega), hRel.more (by omega) (by omega), by omega, by omega⟩ hP hD hS (lv_sub hl [0, 1, 2, 3] rfl)
    · simp only [i_lt, i_le, i_eq, ti_0] at c_16
      exfalso
      omega
  · simp only [i_lt, i_le, i_eq, ti_0] at c_1
    refine lv_iconst (v := 1) hx hb dL_law_262 (by decide) ?_
    refine lv_goto (tgt := 267) hx hb dL_law_263 (by decide) ?_
    have hPc := pl_P hP
    have hDc := pl_D hD
    have hKc := hK.sub (tys' := t9 kc) [0, 1, 2, 3] rfl
    have hFc := free_all hDc hS hA
    refine W_msr2 (fun hm1 hm2 hm3 => ?_)
    refine va_callv (va_runV (As := [.int 1]) (rest := []) ⟨hx, hb, hml, hown, hg⟩ (c_X9_anew l dC dI kc ws ad ga gc M n f T G K F (600 * k) 1 H.size (hpS H) hQ hI) (cwV 1 hg (gw_V gm_methodLink_RL_28_yX9_anew gm_instanceMethod_yX9_anew gm_selects_RX9_yX9_anew_yX9_anew gm_initialized_RX9 gm_code_yX9_anew_cX9_anew_3_none) rfl rfl rfl (by decide +kernel) ⟨Nat.le_of_ble_eq_true rfl, Nat.le_of_ble_eq_true rfl⟩) ⟨fun a U g mk q => by obtain ⟨q0, q1, q2, qP, qK, qD, qN⟩ := q; exact ⟨q0, q1, q2, qP, va_K.moved (u := U) (U := U.calling g mk a) (Vm.Alike.refl U.vm) qK, qD, nx_same (u := U) (U := U.calling g mk a) rfl qN⟩, va_recv hKc hPc (ci := 9) (q0 := 0) rfl hQ.x0, fun U hU hW => ⟨rfl, by rw [hU], by rw [hU], by rw [hU]; exact hPc, va_K.moved hW.alike hKc, hDc.weaken (fun _ _ _ _ => trivial), nx_warm hW hN⟩⟩ rfl rfl hl.1 rfl (lv_room (Nat.le_of_ble_eq_true rfl)) dL_law_267 ⟨by show ce + 0 ≤ 600000; omega, by show se + 0 ≤ 7302250; omega⟩) hS (fun q _ h => hFc q h) hFc (fun u_23 t H1 locs ht hvm hw hB hz1 hk1 hS => ?_)
    obtain ⟨ad_24, ga_25, gc_26, M_27, n_28, f_29, T_30, G_31, K_32, F_33⟩ := u_23
    have hB : ∃ w : va_W, va_P (dC, dI) vwCl w t.heap ∧ va_D (va_A ws H.size) w ∧ Pic9 kc w ad ga gc M n_28 f T_30 G K F ∧ I9 M n_28 f T_30 gc G K F (600 * k) ∧ hpS t.heap + (260 * M + 2 * S9 M gc) ≤ hpS H + (260 * M + 2 * S9 M gc) ∧ 16 * t.heap.size + (256 * M + S9 M gc) ≤ 16 * H.size + (256 * M + S9 M gc) := hB
    rw [ht] at hB
    obtain ⟨ws_34, hP1, hD1, hQ, hI_35, hy1, hy2⟩ := hB
    obtain ⟨hP, hD⟩ := va_appL hP hD hk1 hFc hP1 hD1
    have q1_ := hI_35.1
    unfold i1 at q1_
    have hSl := S9_le hI_35.2.2.2.2.2.2.2.1 hI_35.2.2.2.2.2.2.2.2.1
    refine W_msr2 (fun hn1 hn2 hn3 => ?_)
    obtain ⟨ce2, se2, hk3, hk4, hr1, hr2⟩ : ∃ c2 s2 : Nat, H1.size ≤ s.heap.size + c2 ∧ hpS H1 ≤ hpS s.heap + s2 ∧ s2 ≤ 668085 + (260 * M + 2 * S9 M gc) ∧ 16 * c2 ≤ 16 * 103 + (256 * M + S9 M gc) := ⟨H1.size - s.heap.size, hpS H1 - hpS s.heap, by omega, by omega, by have := hS.1; omega, by have := hS.1; omega⟩
    refine W_tightP hk3 hk4 ?_
    clear hm1 hm2 hm3 hn1 hn2 hn3 hk3 hk4 hk1 hz1 hy1 hy2
    generalize ce2 = ce, se2 = se at hr1 hr2 ⊢
    generalize H1 = H at hP hS ⊢
    have e9 : (C9.mk n_28 f T_30 G K F) = k_anew (1 : Int32) (C9.mk n f T G K F) := hw.1
    refine lv_aload_n hx hb dL_law_270 rfl (lv_at hl 1 rfl) ?_
    refine lv_aload_n hx hb dL_law_271 rfl (lv_at hl 3 rfl) ?_
    refine lv_iload_n hx hb dL_law_272 rfl (lv_at hl 0 rfl) ?_
    refine lv_iconst (v := 1) hx hb dL_law_273 (by decide) ?_
    refine lv_iadd hx hb dL_law_274 ?_
    refine va_sld hx hb hX hbl hbA hS (vp_in_iff.mpr ⟨by omega, by omega⟩) dL_law_275 ?_
    refine lv_if_eq (tgt := 283) hx hb dL_law_276 (by decide) (fun c_36 => ?_) (fun c_36 => ?_)
    · simp only [i_lt, i_le, i_eq, ti_0] at c_36
      refine lv_iconst (v := 0) hx hb dL_law_283 (by decide) ?_
      exfalso
      omega
    · simp only [i_lt, i_le, i_eq, ti_0] at c_36
      refine lv_iconst (v := 1) hx hb dL_law_279 (by decide) ?_
      refine lv_goto (tgt := 284) hx hb dL_law_280 (by decide) ?_
      have hPc := pr_P hP
      have hDc := pr_D hD
      have hKc := hK.sub (tys' := t10 C) [4, 5, 6, 7, 8, 9, 10, 11, 12, 13, 14, 15, 16, 17, 18, 19, 20, 21, 22, 23, 24, 25, 26, 27, 28, 29, 30, 31, 32, 33, 34, 35, 36, 37, 38, 39, 40, 41, 42, 43, 44, 45, 46, 47, 48, 49, 50, 51, 52, 53, 54, 55] rfl
      have hFc := free_all hDc hS hA
      refine va_callv (va_runV (As := [.int 1]) (rest := []) ⟨hx, hb, hml, hown, hg⟩ (c_X10_anew l dC dI (40000 * (k : Int)) hm X C Fm nm 1 H.size hI10) (cwV 1 hg (gw_V gm_methodLink_RL_32_yX10_anew gm_instanceMethod_yX10_anew gm_selects_RX10_yX10_anew_yX10_anew gm_initialized_RX10 gm_code_yX10_anew_cX10_anew_3_none) rfl rfl rfl (by decide +kernel) ⟨Nat.le_of_ble_eq_true rfl, Nat.le_of_ble_eq_true rfl⟩) ⟨fun a U g mk q => by obtain ⟨q0, q1, qP, qK, qD, qN⟩ := q; exact ⟨q0, q1, qP, va_K.moved (u := U) (U := U.calling g mk a) (Vm.Alike.refl U.vm) qK, qD, nx_same (u := U) (U := U.calling g mk a) rfl qN⟩, va_recv hKc hPc (ci := 10) (q0 := 0) rfl rfl, fun U hU hW => ⟨rfl, by rw [hU], by rw [hU]; exact hPc, va_K.moved hW.alike hKc, hDc.weaken (fun _ _ _ _ => trivial), nx_warm hW hN⟩⟩ rfl rfl hl.1 rfl (lv_room (Nat.le_of_ble_eq_true rfl)) dL_law_284 ⟨by show ce + 0 ≤ 600000; omega, by show se + 0 ≤ 7302250; omega⟩) hS (fun q _ h => hFc q h) hFc (fun u_40 t H1 locs ht hvm hw hB hz1 hk1 hS => ?_)
      obtain ⟨Fm_41, nm_42⟩ := u_40
      obtain ⟨hP1, hD1, hJ_43⟩ := hB
      have hJ_43 : I10 (40000 * (k : Int)) Fm_41 nm_42 := hJ_43
      rw [ht] at hP1
      obtain ⟨hP, hD⟩ := va_appR hP hD hk1 hFc hP1 hD1
      have hP : va_P (dC, dI) vwCl (ws_34 ++ (w10 hm X C (Fm_41 0) (Fm_41 1) (Fm_41 2) (Fm_41 3) (Fm_41 4) (Fm_41 5) (Fm_41 6) (Fm_41 7) (Fm_41 8) (Fm_41 10) (Fm_41 13) (Fm_41 14) (Fm_41 15) (Fm_41 16) (Fm_41 17) (Fm_41 18) (Fm_41 19) (Fm_41 20) (Fm_41 21) (Fm_41 22) (Fm_41 23) (Fm_41 24) (Fm_41 25) (Fm_41 26) (Fm_41 27) (Fm_41 28) (Fm_41 29) (Fm_41 30) (Fm_41 31) (Fm_41 32) (Fm_41 33) (Fm_41 34) (Fm_41 35) (Fm_41 36) (Fm_41 37) (Fm_41 38) (Fm_41 39) (Fm_41 40) (Fm_41 41) (Fm_41 42) (Fm_41 43) (Fm_41 49) (Fm_41 50) (Fm_41 51) (Fm_41 52) (Fm_41 53) (Fm_41 54) (Fm_41 55) (Fm_41 56) (Fm_41 57) (Fm_41 58) (Fm_41 59) (nm_42 9) (nm_42 11) (nm_42 12) (nm_42 44) (nm_42 45) (nm_42 46) (nm_42 47) (nm_42 48))) H1 := hP
      have hD : va_D A (ws_34 ++ (w10 hm X C (Fm_41 0) (Fm_41 1) (Fm_41 2) (Fm_41 3) (Fm_41 4) (Fm_41 5) (Fm_41 6) (Fm_41 7) (Fm_41 8) (Fm_41 10) (Fm_41 13) (Fm_41 14) (Fm_41 15) (Fm_41 16) (Fm_41 17) (Fm_41 18) (Fm_41 19) (Fm_41 20) (Fm_41 21) (Fm_41 22) (Fm_41 23) (Fm_41 24) (Fm_41 25) (Fm_41 26) (Fm_41 27) (Fm_41 28) (Fm_41 29) (Fm_41 30) (Fm_41 31) (Fm_41 32) (Fm_41 33) (Fm_41 34) (Fm_41 35) (Fm_41 36) (Fm_41 37) (Fm_41 38) (Fm_41 39) (Fm_41 40) (Fm_41 41) (Fm_41 42) (Fm_41 43) (Fm_41 49) (Fm_41 50) (Fm_41 51) (Fm_41 52) (Fm_41 53) (Fm_41 54) (Fm_41 55) (Fm_41 56) (Fm_41 57) (Fm_41 58) (Fm_41 59) (nm_42 9) (nm_42 11) (nm_42 12) (nm_42 44) (nm_42 45) (nm_42 46) (nm_42 47) (nm_42 48))) := hD
      refine W.widen (k := ce) (n := se) (Nat.le_refl _) (Nat.le_refl _) ?_
      clear hk1 hz1
      generalize H1 = H at hP hS ⊢
      have e10 : (Q10.mk Fm_41 nm_42) = r_anew (1 : Int32) (Q10.mk Fm nm) := hw.1
      have hs := anew_sim hRel (by omega) (1 : Int32)
      rw [← e9, ← e10] at hs
      have hRel : Rl (600 * k) (1200 * (k : Int)) (C9.mk n_28 f T_30 G K F) (Q10.mk Fm_41 nm_42) := hs
      refine lv_goto (tgt := 761) hx hb dL_law_287 (by decide) ?_
      obtain ⟨y, ey⟩ : ∃ q : Int32, q = x + 5 := ⟨_, rfl⟩
      refine lv_iinc (v := y) (lv' := [(3, .int y), (2, .ref hm), (1, .ref (ad 0)), (0, .ref b)]) hx hb dL_law_761 hl (k := 0) rfl (by rw [ey]; rfl) (by decide) rfl (fun ls hl => ?_)
      have ty : y.toInt = x.toInt + 5 := ar_add rfl ti_5 ey (by omega)
      refine lv_goto (tgt := 18) hx hb dL_law_764 (by decide) ?_
      exact ih y ws_34 ad ga gc M n_28 f T_30 G K F Fm_41 nm_42 ce se H locs ls (by omega) ⟨hQ, I9.mono (R := (600 * k)) hI_35 (by omega), I10_mono (k := (40000 * (k : Int))) hJ_43 (by omega), hRel.more (by omega) (by omega), by omega, by omega⟩ hP hD hS (lv_sub hl [0, 1, 2, 3] rfl)

set_option maxHeartbeats 8000000 in
set_option maxRecDepth 100000 in
theorem law_c4 {p : Program} {e : Env} {s : State} {m : MethodId} {below : List Frame} {meth : Method} {c : Code} (l : Launch) {A : Nat → Prop} {b L : Nat} {xs : Nat → Int32} (hL : L ≤ 2560) (C0 : lw_At p s m meth c b L xs) (hA : ∀ q : Nat, s.heap.size ≤ q → A q) (hAf : ∀ q : Nat, A q → s.heap.size ≤ q) (hbA : ¬ A b) (hN : nx s) {dC : Nat → ClassId} {dI : Nat → Nat → Nat} (kc : Nat → ClassId) (hm : Nat) (X : Nat → Nat) (C : Nat → ClassId) (hK : va_K (dC, dI) vwCl (t9 kc ++ t10 C) s) {k : Nat} (hk5 : 5 * k + 5 ≤ L) (ih : LH p l e s m below meth c b A dC dI kc hm X C (k + 1)) (x : Int32) (ws : va_W) (ad : Nat → Nat) (ga : Nat → Nat) (gc : Nat → Nat) (M : Nat) (n : Nat → Int32) (f : Nat → Nat → Int32) (T : Nat → Option Nat) (G : Nat → Nat → Int32) (K : Nat → Nat → Option Nat) (F : Nat → Nat → Nat → Int32) (Fm : Nat → Nat → Int32) (nm : Nat → Int32) (ce se : Nat) (H : Heap) (locs : List Loc) (ls : Array Slot) (hxk : x.toInt = 5 * (k : Int)) (hLF : LF kc ws ad ga gc M n f T G K F Fm nm ce se k) (hP : va_P (dC, dI) vwCl (ws ++ (w10 hm X C (Fm 0) (Fm 1) (Fm 2) (Fm 3) (Fm 4) (Fm 5) (Fm 6) (Fm 7) (Fm 8) (Fm 10) (Fm 13) (Fm 14) (Fm 15) (Fm 16) (Fm 17) (Fm 18) (Fm 19) (Fm 20) (Fm 21) (Fm 22) (Fm 23) (Fm 24) (Fm 25) (Fm 26) (Fm 27) (Fm 28) (Fm 29) (Fm 30) (Fm 31) (Fm 32) (Fm 33) (Fm 34) (Fm 35) (Fm 36) (Fm 37) (Fm 38) (Fm 39) (Fm 40) (Fm 41) (Fm 42) (Fm 43) (Fm 49) (Fm 50) (Fm 51) (Fm 52) (Fm 53) (Fm 54) (Fm 55) (Fm 56) (Fm 57) (Fm 58) (Fm 59) (nm 9) (nm 11) (nm 12) (nm 44) (nm 45) (nm 46) (nm 47) (nm 48))) H) (hD : va_D A (ws ++ (w10 hm X C (Fm 0) (Fm 1) (Fm 2) (Fm 3) (Fm 4) (Fm 5) (Fm 6) (Fm 7) (Fm 8) (Fm 10) (Fm 13) (Fm 14) (Fm 15) (Fm 16) (Fm 17) (Fm 18) (Fm 19) (Fm 20) (Fm 21) (Fm 22) (Fm 23) (Fm 24) (Fm 25) (Fm 26) (Fm 27) (Fm 28) (Fm 29) (Fm 30) (Fm 31) (Fm 32) (Fm 33) (Fm 34) (Fm 35) (Fm 36) (Fm 37) (Fm 38) (Fm 39) (Fm 40) (Fm 41) (Fm 42) (Fm 43) (Fm 49) (Fm 50) (Fm 51) (Fm 52) (Fm 53) (Fm 54) (Fm 55) (Fm 56) (Fm 57) (Fm 58) (Fm 59) (nm 9) (nm 11) (nm 12) (nm 44) (nm 45) (nm 46) (nm 47) (nm 48)))) (hS : va_S A s.heap H locs) (hl : lv_has ls 4 [(3, .int x), (2, .ref hm), (1, .ref (ad 0)), (0, .ref b)]) : W p l e room_1 s m #[Value.ref b] below meth c H locs ce se (lw_Z below #[Value.ref b] s) (F0 m 290 ls []) := by
  obtain ⟨hx, hb, hr, hml, hown, hts, hX, hbl, hlocks, hgv⟩ := id C0
  have hg : ∀ w ∈ gw, w.before _ s = true := fun w h => hts w (gw_tbl w h)
  obtain ⟨hQ, hI, hI10, hRel, hr1, hr2⟩ := id hLF
  have qn_ := I10_n11 hI10
  have q1_ := hI.1
  unfold i1 at q1_
  have hSl := S9_le hI.2.2.2.2.2.2.2.1 hI.2.2.2.2.2.2.2.2.1
  have tx1 : (x + 1).toInt = x.toInt + 1 := ar_add rfl ti_1 rfl (by omega)
  have tx2 : (x + 2).toInt = x.toInt + 2 := ar_add rfl ti_2 rfl (by omega)
  have tx3 : (x + 3).toInt = x.toInt + 3 := ar_add rfl ti_3 rfl (by omega)
  have tx4 : (x + 4).toInt = x.toInt + 4 := ar_add rfl ti_4 rfl (by omega)
  refine lv_aload_n hx hb dL_law_290 rfl (lv_at hl 2 rfl) ?_
  refine lv_aload_n hx hb dL_law_291 rfl (lv_at hl 3 rfl) ?_
  refine lv_iload_n hx hb dL_law_292 rfl (lv_at hl 0 rfl) ?_
  refine lv_iconst (v := 1) hx hb dL_law_293 (by decide) ?_
  refine lv_iadd hx hb dL_law_294 ?_
  refine va_sld hx hb hX hbl hbA hS (vp_in_iff.mpr ⟨by omega, by omega⟩) dL_law_295 ?_
  have hPc := pl_P hP
  have hDc := pl_D hD
  have hKc := hK.sub (tys' := t9 kc) [0, 1, 2, 3] rfl
  have hFc := free_all hDc hS hA
  refine W_msr2 (fun hm1 hm2 hm3 => ?_)
  refine va_calli (va_runV (As := [.int (xs (Int32.toNatClampNeg (x + 1)))]) (rest := []) ⟨hx, hb, hml, hown, hg⟩ (c9_X9_threads l dC dI kc ws ad ga gc M n f T G K F (600 * k) (xs (Int32.toNatClampNeg (x + 1))) H.size (hpS H) hQ hI) (cwV 1 hg (gw_V gm_methodLink_RL_33_yX9_threads gm_instanceMethod_yX9_threads gm_selects_RX9_yX9_threads_yX9_threads gm_initialized_RX9 gm_code_yX9_threads_cX9_threads_2_some_boolean_) rfl rfl rfl (by decide +kernel) ⟨Nat.le_of_ble_eq_true rfl, Nat.le_of_ble_eq_true rfl⟩) ⟨fun a U g mk q => by obtain ⟨q0, q1, q2, qP, qK, qD, qN⟩ := q; exact ⟨q0, q1, q2, qP, va_K.moved (u := U) (U := U.calling g mk a) (Vm.Alike.refl U.vm) qK, qD, nx_same (u := U) (U := U.calling g mk a) rfl qN⟩, va_recv hKc hPc (ci := 9) (q0 := 0) rfl hQ.x0, fun U hU hW => ⟨rfl, by rw [hU], by rw [hU], by rw [hU]; exact hPc, va_K.moved hW.alike hKc, hDc.weaken (fun _ _ _ _ => trivial), nx_warm hW hN⟩⟩ rfl rfl hl.1 rfl (lv_room (Nat.le_of_ble_eq_true rfl)) dL_law_296 ⟨by show ce + 0 ≤ 600000; omega, by show se + 0 ≤ 7302250; omega⟩) hS (fun q _ h => hFc q h) hFc (fun r_1 u_2 t H1 locs ht hvm hw hB hz1 hk1 hS => ?_)
  obtain ⟨ad_3, ga_4, gc_5, M_6, n_7, f_8, T_9, G_10, K_11, F_12⟩ := u_2
  have hB : ∃ w : va_W, va_P (dC, dI) vwCl w t.heap ∧ va_D (va_A ws H.size) w ∧ Pic9 kc w ad ga gc M n_7 f T G K F ∧ I9 M n_7 f T gc G K F (600 * k) ∧ hpS t.heap + (260 * M + 2 * S9 M gc) ≤ hpS H + (260 * M + 2 * S9 M gc) ∧ 16 * t.heap.size + (256 * M + S9 M gc) ≤ 16 * H.size + (256 * M + S9 M gc) ∧ (n 0).toInt ≤ (n_7 0).toInt := hB
  rw [ht] at hB
  obtain ⟨ws_13, hP1, hD1, hQ, hI_15, hy1, hy2, hn_14⟩ := hB
  obtain ⟨hP, hD⟩ := va_appL hP hD hk1 hFc hP1 hD1
  have q1_ := hI_15.1
  unfold i1 at q1_
  have hSl := S9_le hI_15.2.2.2.2.2.2.2.1 hI_15.2.2.2.2.2.2.2.2.1
  refine W_msr2 (fun hn1 hn2 hn3 => ?_)
  obtain ⟨ce2, se2, hk3, hk4, hr1, hr2⟩ : ∃ c2 s2 : Nat, H1.size ≤ s.heap.size + c2 ∧ hpS H1 ≤ hpS s.heap + s2 ∧ s2 ≤ 668085 + (260 * M + 2 * S9 M gc) ∧ 16 * c2 ≤ 16 * 103 + (256 * M + S9 M gc) := ⟨H1.size - s.heap.size, hpS H1 - hpS s.heap, by omega, by omega, by have := hS.1; omega, by have := hS.1; omega⟩
  refine W_tightP hk3 hk4 ?_
  clear hm1 hm2 hm3 hn1 hn2 hn3 hk3 hk4 hk1 hz1 hy1 hy2
  generalize ce2 = ce, se2 = se at hr1 hr2 ⊢
  generalize H1 = H at hP hS ⊢
  have e9 : ((C9.mk n_7 f T G K F), r_1) = k_threads (xs (Int32.toNatClampNeg (x + 1))) (C9.mk n f T G K F) := by rcases hw with ⟨_, hw⟩ | ⟨_, hw⟩ <;> first | exact hw | exact hw.1
  refine lv_pop hx hb dL_law_299 rfl ?_
  refine lv_aload_n hx hb dL_law_300 rfl (lv_at hl 1 rfl) ?_
  refine lv_aload_n hx hb dL_law_301 rfl (lv_at hl 3 rfl) ?_
  refine lv_iload_n hx hb dL_law_302 rfl (lv_at hl 0 rfl) ?_
  refine lv_iconst (v := 1) hx hb dL_law_303 (by decide) ?_
  refine lv_iadd hx hb dL_law_304 ?_
  refine va_sld hx hb hX hbl hbA hS (vp_in_iff.mpr ⟨by omega, by omega⟩) dL_law_305 ?_
  have hPc := pr_P hP
  have hDc := pr_D hD
  have hKc := hK.sub (tys' := t10 C) [4, 5, 6, 7, 8, 9, 10, 11, 12, 13, 14, 15, 16, 17, 18, 19, 20, 21, 22, 23, 24, 25, 26, 27, 28, 29, 30, 31, 32, 33, 34, 35, 36, 37, 38, 39, 40, 41, 42, 43, 44, 45, 46, 47, 48, 49, 50, 51, 52, 53, 54, 55] rfl
  have hFc := free_all hDc hS hA
  refine va_calli (va_runV (As := [.int (xs (Int32.toNatClampNeg (x + 1)))]) (rest := []) ⟨hx, hb, hml, hown, hg⟩ (c_X10_threads l dC dI (40000 * (k : Int)) hm X C Fm nm (xs (Int32.toNatClampNeg (x + 1))) H.size hI10) (cwV 1 hg (gw_V gm_methodLink_RL_37_yX10_threads gm_instanceMethod_yX10_threads gm_selects_RX10_yX10_threads_yX10_threads gm_initialized_RX10 gm_code_yX10_threads_cX10_threads_2_some_boolean_) rfl rfl rfl (by decide +kernel) ⟨Nat.le_of_ble_eq_true rfl, Nat.le_of_ble_eq_true rfl⟩) ⟨fun a U g mk q => by obtain ⟨q0, q1, qP, qK, qD, qN⟩ := q; exact ⟨q0, q1, qP, va_K.moved (u := U) (U := U.calling g mk a) (Vm.Alike.refl U.vm) qK, qD, nx_same (u := U) (U := U.calling g mk a) rfl qN⟩, va_recv hKc hPc (ci := 10) (q0 := 0) rfl rfl, fun U hU hW => ⟨rfl, by rw [hU], by rw [hU]; exact hPc, va_K.moved hW.alike hKc, hDc.weaken (fun _ _ _ _ => trivial), nx_warm hW hN⟩⟩ rfl rfl hl.1 rfl (lv_room (Nat.le_of_ble_eq_true rfl)) dL_law_306 ⟨by show ce + 0 ≤ 600000; omega, by show se + 0 ≤ 7302250; omega⟩) hS (fun q _ h => hFc q h) hFc (fun r_16 u_17 t H1 locs ht hvm hw hB hz1 hk1 hS => ?_)
  obtain ⟨Fm_18, nm_19⟩ := u_17
  obtain ⟨hP1, hD1, hJ_20⟩ := hB
  have hJ_20 : I10 (40000 * (k : Int)) Fm_18 nm_19 := hJ_20
  rw [ht] at hP1
  obtain ⟨hP, hD⟩ := va_appR hP hD hk1 hFc hP1 hD1
  have hP : va_P (dC, dI) vwCl (ws_13 ++ (w10 hm X C (Fm_18 0) (Fm_18 1) (Fm_18 2) (Fm_18 3) (Fm_18 4) (Fm_18 5) (Fm_18 6) (Fm_18 7) (Fm_18 8) (Fm_18 10) (Fm_18 13) (Fm_18 14) (Fm_18 15) (Fm_18 16) (Fm_18 17) (Fm_18 18) (Fm_18 19) (Fm_18 20) (Fm_18 21) (Fm_18 22) (Fm_18 23) (Fm_18 24) (Fm_18 25) (Fm_18 26) (Fm_18 27) (Fm_18 28) (Fm_18 29) (Fm_18 30) (Fm_18 31) (Fm_18 32) (Fm_18 33) (Fm_18 34) (Fm_18 35) (Fm_18 36) (Fm_18 37) (Fm_18 38) (Fm_18 39) (Fm_18 40) (Fm_18 41) (Fm_18 42) (Fm_18 43) (Fm_18 49) (Fm_18 50) (Fm_18 51) (Fm_18 52) (Fm_18 53) (Fm_18 54) (Fm_18 55) (Fm_18 56) (Fm_18 57) (Fm_18 58) (Fm_18 59) (nm_19 9) (nm_19 11) (nm_19 12) (nm_19 44) (nm_19 45) (nm_19 46) (nm_19 47) (nm_19 48))) H1 := hP
  have hD : va_D A (ws_13 ++ (w10 hm X C (Fm_18 0) (Fm_18 1) (Fm_18 2) (Fm_18 3) (Fm_18 4) (Fm_18 5) (Fm_18 6) (Fm_18 7) (Fm_18 8) (Fm_18 10) (Fm_18 13) (Fm_18 14) (Fm_18 15) (Fm_18 16) (Fm_18 17) (Fm_18 18) (Fm_18 19) (Fm_18 20) (Fm_18 21) (Fm_18 22) (Fm_18 23) (Fm_18 24) (Fm_18 25) (Fm_18 26) (Fm_18 27) (Fm_18 28) (Fm_18 29) (Fm_18 30) (Fm_18 31) (Fm_18 32) (Fm_18 33) (Fm_18 34) (Fm_18 35) (Fm_18 36) (Fm_18 37) (Fm_18 38) (Fm_18 39) (Fm_18 40) (Fm_18 41) (Fm_18 42) (Fm_18 43) (Fm_18 49) (Fm_18 50) (Fm_18 51) (Fm_18 52) (Fm_18 53) (Fm_18 54) (Fm_18 55) (Fm_18 56) (Fm_18 57) (Fm_18 58) (Fm_18 59) (nm_19 9) (nm_19 11) (nm_19 12) (nm_19 44) (nm_19 45) (nm_19 46) (nm_19 47) (nm_19 48))) := hD
  refine W.widen (k := ce) (n := se) (Nat.le_refl _) (Nat.le_refl _) ?_
  clear hk1 hz1
  generalize H1 = H at hP hS ⊢
  have e10 : ((Q10.mk Fm_18 nm_19), r_16) = r_threads (xs (Int32.toNatClampNeg (x + 1))) (Q10.mk Fm nm) := by rcases hw with ⟨_, hw⟩ | ⟨_, hw⟩ <;> first | exact hw | exact hw.1
  have hs := threads_sim hRel (xs (Int32.toNatClampNeg (x + 1)))
  rw [← e9, ← e10] at hs
  have hRel : Rl (600 * k) (1200 * (k : Int)) (C9.mk n_7 f T G K F) (Q10.mk Fm_18 nm_19) := hs.1
  refine lv_pop hx hb dL_law_309 rfl ?_
  refine lv_goto (tgt := 761) hx hb dL_law_310 (by decide) ?_
  obtain ⟨y, ey⟩ : ∃ q : Int32, q = x + 5 := ⟨_, rfl⟩
  refine lv_iinc (v := y) (lv' := [(3, .int y), (2, .ref hm), (1, .ref (ad 0)), (0, .ref b)]) hx hb dL_law_761 hl (k := 0) rfl (by rw [ey]; rfl) (by decide) rfl (fun ls hl => ?_)
  have ty : y.toInt = x.toInt + 5 := ar_add rfl ti_5 ey (by omega)
  refine lv_goto (tgt := 18) hx hb dL_law_764 (by decide) ?_
  exact ih y ws_13 ad ga gc M n_7 f T G K F Fm_18 nm_19 ce se H locs ls (by omega) ⟨hQ, I9.mono (R := (600 * k)) hI_15 (by omega), I10_mono (k := (40000 * (k : Int))) hJ_20 (by omega), hRel.more (by omega) (by omega), by omega, by omega⟩ hP hD hS (lv_sub hl [0, 1, 2, 3] rfl)

set_option maxHeartbeats 8000000 in
set_option maxRecDepth 100000 in
theorem law_c5 {p : Program} {e : Env} {s : State} {m : MethodId} {below : List Frame} {meth : Method} {c : Code} (l : Launch) {A : Nat → Prop} {b L : Nat} {xs : Nat → Int32} (hL : L ≤ 2560) (C0 : lw_At p s m meth c b L xs) (hA : ∀ q : Nat, s.heap.size ≤ q → A q) (hAf : ∀ q : Nat, A q → s.heap.size ≤ q) (hbA : ¬ A b) (hN : nx s) {dC : Nat → ClassId} {dI : Nat → Nat → Nat} (kc : Nat → ClassId) (hm : Nat) (X : Nat → Nat) (C : Nat → ClassId) (hK : va_K (dC, dI) vwCl (t9 kc ++ t10 C) s) {k : Nat} (hk5 : 5 * k + 5 ≤ L) (ih : LH p l e s m below meth c b A dC dI kc hm X C (k + 1)) (x : Int32) (ws : va_W) (ad : Nat → Nat) (ga : Nat → Nat) (gc : Nat → Nat) (M : Nat) (n : Nat → Int32) (f : Nat → Nat → Int32) (T : Nat → Option Nat) (G : Nat → Nat → Int32) (K : Nat → Nat → Option Nat) (F : Nat → Nat → Nat → Int32) (Fm : Nat → Nat → Int32) (nm : Nat → Int32) (ce se : Nat) (H : Heap) (locs : List Loc) (ls : Array Slot) (hxk : x.toInt = 5 * (k : Int)) (hLF : LF kc ws ad ga gc M n f T G K F Fm nm ce se k) (hP : va_P (dC, dI) vwCl (ws ++ (w10 hm X C (Fm 0) (Fm 1) (Fm 2) (Fm 3) (Fm 4) (Fm 5) (Fm 6) (Fm 7) (Fm 8) (Fm 10) (Fm 13) (Fm 14) (Fm 15) (Fm 16) (Fm 17) (Fm 18) (Fm 19) (Fm 20) (Fm 21) (Fm 22) (Fm 23) (Fm 24) (Fm 25) (Fm 26) (Fm 27) (Fm 28) (Fm 29) (Fm 30) (Fm 31) (Fm 32) (Fm 33) (Fm 34) (Fm 35) (Fm 36) (Fm 37) (Fm 38) (Fm 39) (Fm 40) (Fm 41) (Fm 42) (Fm 43) (Fm 49) (Fm 50) (Fm 51) (Fm 52) (Fm 53) (Fm 54) (Fm 55) (Fm 56) (Fm 57) (Fm 58) (Fm 59) (nm 9) (nm 11) (nm 12) (nm 44) (nm 45) (nm 46) (nm 47) (nm 48))) H) (hD : va_D A (ws ++ (w10 hm X C (Fm 0) (Fm 1) (Fm 2) (Fm 3) (Fm 4) (Fm 5) (Fm 6) (Fm 7) (Fm 8) (Fm 10) (Fm 13) (Fm 14) (Fm 15) (Fm 16) (Fm 17) (Fm 18) (Fm 19) (Fm 20) (Fm 21) (Fm 22) (Fm 23) (Fm 24) (Fm 25) (Fm 26) (Fm 27) (Fm 28) (Fm 29) (Fm 30) (Fm 31) (Fm 32) (Fm 33) (Fm 34) (Fm 35) (Fm 36) (Fm 37) (Fm 38) (Fm 39) (Fm 40) (Fm 41) (Fm 42) (Fm 43) (Fm 49) (Fm 50) (Fm 51) (Fm 52) (Fm 53) (Fm 54) (Fm 55) (Fm 56) (Fm 57) (Fm 58) (Fm 59) (nm 9) (nm 11) (nm 12) (nm 44) (nm 45) (nm 46) (nm 47) (nm 48)))) (hS : va_S A s.heap H locs) (hl : lv_has ls 4 [(3, .int x), (2, .ref hm), (1, .ref (ad 0)), (0, .ref b)]) : W p l e room_1 s m #[Value.ref b] below meth c H locs ce se (lw_Z below #[Value.ref b] s) (F0 m 313 ls []) := by
  obtain ⟨hx, hb, hr, hml, hown, hts, hX, hbl, hlocks, hgv⟩ := id C0
  have hg : ∀ w ∈ gw, w.before _ s = true := fun w h => hts w (gw_tbl w h)
  obtain ⟨hQ, hI, hI10, hRel, hr1, hr2⟩ := id hLF
  have qn_ := I10_n11 hI10
  have q1_ := hI.1
  unfold i1 at q1_
  have hSl := S9_le hI.2.2.2.2.2.2.2.1 hI.2.2.2.2.2.2.2.2.1
  have tx1 : (x + 1).toInt = x.toInt + 1 := ar_add rfl ti_1 rfl (by omega)
  have tx2 : (x + 2).toInt = x.toInt + 2 := ar_add rfl ti_2 rfl (by omega)
  have tx3 : (x + 3).toInt = x.toInt + 3 := ar_add rfl ti_3 rfl (by omega)
  have tx4 : (x + 4).toInt = x.toInt + 4 := ar_add rfl ti_4 rfl (by omega)
  refine lv_aload_n hx hb dL_law_313 rfl (lv_at hl 2 rfl) ?_
  refine lv_aload_n hx hb dL_law_314 rfl (lv_at hl 3 rfl) ?_
  refine lv_iload_n hx hb dL_law_315 rfl (lv_at hl 0 rfl) ?_
  refine lv_iconst (v := 1) hx hb dL_law_316 (by decide) ?_
  refine lv_iadd hx hb dL_law_317 ?_
  refine va_sld hx hb hX hbl hbA hS (vp_in_iff.mpr ⟨by omega, by omega⟩) dL_law_318 ?_
  refine lv_aload_n hx hb dL_law_319 rfl (lv_at hl 3 rfl) ?_
  refine lv_iload_n hx hb dL_law_320 rfl (lv_at hl 0 rfl) ?_
  refine lv_iconst (v := 2) hx hb dL_law_321 (by decide) ?_
  refine lv_iadd hx hb dL_law_322 ?_
  refine va_sld hx hb hX hbl hbA hS (vp_in_iff.mpr ⟨by omega, by omega⟩) dL_law_323 ?_
  refine lv_aload_n hx hb dL_law_324 rfl (lv_at hl 3 rfl) ?_
  refine lv_iload_n hx hb dL_law_325 rfl (lv_at hl 0 rfl) ?_
  refine lv_iconst (v := 3) hx hb dL_law_326 (by decide) ?_
  refine lv_iadd hx hb dL_law_327 ?_
  refine va_sld hx hb hX hbl hbA hS (vp_in_iff.mpr ⟨by omega, by omega⟩) dL_law_328 ?_
  refine lv_aload_n hx hb dL_law_329 rfl (lv_at hl 3 rfl) ?_
  refine lv_iload_n hx hb dL_law_330 rfl (lv_at hl 0 rfl) ?_
  refine lv_iconst (v := 4) hx hb dL_law_331 (by decide) ?_
  refine lv_iadd hx hb dL_law_332 ?_
  refine va_sld hx hb hX hbl hbA hS (vp_in_iff.mpr ⟨by omega, by omega⟩) dL_law_333 ?_
  refine lv_if_eq (tgt := 341) hx hb dL_law_334 (by decide) (fun c_1 => ?_) (fun c_1 => ?_)
  · simp only [i_lt, i_le, i_eq, ti_0] at c_1
    refine lv_iconst (v := 0) hx hb dL_law_341 (by decide) ?_
    have hPc := pl_P hP
    have hDc := pl_D hD
    have hKc := hK.sub (tys' := t9 kc) [0, 1, 2, 3] rfl
    have hFc := free_all hDc hS hA
    refine W_msr2 (fun hm1 hm2 hm3 => ?_)
    refine va_calli (va_runV (As := [.int (xs (Int32.toNatClampNeg (x + 1))), .int (xs (Int32.toNatClampNeg (x + 2))), .int (xs (Int32.toNatClampNeg (x + 3))), .int 0]) (rest := []) ⟨hx, hb, hml, hown, hg⟩ (c9_X9_handler l dC dI kc ws ad ga gc M n f T G K F (600 * k) (xs (Int32.toNatClampNeg (x + 1))) (xs (Int32.toNatClampNeg (x + 2))) (xs (Int32.toNatClampNeg (x + 3))) 0 H.size (hpS H) hQ hI (by decide)) (cwV 4 hg (gw_V gm_methodLink_RL_38_yX9_handler gm_instanceMethod_yX9_handler gm_selects_RX9_yX9_handler_yX9_handler gm_initialized_RX9 gm_code_yX9_handler_cX9_handler_6_some_boolean_) rfl rfl rfl (by decide +kernel) ⟨Nat.le_of_ble_eq_true rfl, Nat.le_of_ble_eq_true rfl⟩) ⟨fun a U g mk q => by obtain ⟨q0, q1, q2, qP, qK, qD, qN⟩ := q; exact ⟨q0, q1, q2, qP, va_K.moved (u := U) (U := U.calling g mk a) (Vm.Alike.refl U.vm) qK, qD, nx_same (u := U) (U := U.calling g mk a) rfl qN⟩, va_recv hKc hPc (ci := 9) (q0 := 0) rfl hQ.x0, fun U hU hW => ⟨rfl, by rw [hU], by rw [hU], by rw [hU]; exact hPc, va_K.moved hW.alike hKc, hDc.weaken (fun _ _ _ _ => trivial), nx_warm hW hN⟩⟩ rfl rfl hl.1 rfl (lv_room (Nat.le_of_ble_eq_true rfl)) dL_law_342 ⟨by show ce + 0 ≤ 600000; omega, by show se + 0 ≤ 7302250; omega⟩) hS (fun q _ h => hFc q h) hFc (fun r_2 u_3 t H1 locs ht hvm hw hB hz1 hk1 hS => ?_)
    obtain ⟨ad_4, ga_5, gc_6, M_7, n_8, f_9, T_10, G_11, K_12, F_13⟩ := u_3
    have hB : ∃ w : va_W, va_P (dC, dI) vwCl w t.heap ∧ va_D (va_A ws H.size) w ∧ Pic9 kc w ad ga gc M n f_9 T G K F ∧ I9 M n f_9 T gc G K F (600 * k) ∧ hpS t.heap + (260 * M + 2 * S9 M gc) ≤ hpS H + (260 * M + 2 * S9 M gc) ∧ 16 * t.heap.size + (256 * M + S9 M gc) ≤ 16 * H.size + (256 * M + S9 M gc) := hB
    rw [ht] at hB
    obtain ⟨ws_14, hP1, hD1, hQ, hI_15, hy1, hy2⟩ := hB
    obtain ⟨hP, hD⟩ := va_appL hP hD hk1 hFc hP1 hD1
    have q1_ := hI_15.1
    unfold i1 at q1_
    have hSl := S9_le hI_15.2.2.2.2.2.2.2.1 hI_15.2.2.2.2.2.2.2.2.1
    refine W_msr2 (fun hn1 hn2 hn3 => ?_)
    obtain ⟨ce2, se2, hk3, hk4, hr1, hr2⟩ : ∃ c2 s2 : Nat, H1.size ≤ s.heap.size + c2 ∧ hpS H1 ≤ hpS s.heap + s2 ∧ s2 ≤ 668085 + (260 * M + 2 * S9 M gc) ∧ 16 * c2 ≤ 16 * 103 + (256 * M + S9 M gc) := ⟨H1.size - s.heap.size, hpS H1 - hpS s.heap, by omega, by omega, by have := hS.1; omega, by have := hS.1; omega⟩
    refine W_tightP hk3 hk4 ?_
    clear hm1 hm2 hm3 hn1 hn2 hn3 hk3 hk4 hk1 hz1 hy1 hy2
    generalize ce2 = ce, se2 = se at hr1 hr2 ⊢
    generalize H1 = H at hP hS ⊢
    have e9 : ((C9.mk n f_9 T G K F), r_2) = k_handler (xs (Int32.toNatClampNeg (x + 1))) (xs (Int32.toNatClampNeg (x + 2))) (xs (Int32.toNatClampNeg (x + 3))) (0 : Int32) (C9.mk n f T G K F) := by rcases hw with ⟨_, hw⟩ | ⟨_, hw⟩ <;> first | exact hw | exact hw.1
    refine lv_pop hx hb dL_law_345 rfl ?_
    refine lv_aload_n hx hb dL_law_346 rfl (lv_at hl 1 rfl) ?_
    refine lv_aload_n hx hb dL_law_347 rfl (lv_at hl 3 rfl) ?_
    refine lv_iload_n hx hb dL_law_348 rfl (lv_at hl 0 rfl) ?_
    refine lv_iconst (v := 1) hx hb dL_law_349 (by decide) ?_
    refine lv_iadd hx hb dL_law_350 ?_
    refine va_sld hx hb hX hbl hbA hS (vp_in_iff.mpr ⟨by omega, by omega⟩) dL_law_351 ?_
    refine lv_aload_n hx hb dL_law_352 rfl (lv_at hl 3 rfl) ?_
    refine lv_iload_n hx hb dL_law_353 rfl (lv_at hl 0 rfl) ?_
    refine lv_iconst (v := 2) hx hb dL_law_354 (by decide) ?_
    refine lv_iadd hx hb dL_law_355 ?_
    refine va_sld hx hb hX hbl hbA hS (vp_in_iff.mpr ⟨by omega, by omega⟩) dL_law_356 ?_
    refine lv_aload_n hx hb dL_law_357 rfl (lv_at hl 3 rfl) ?_
    refine lv_iload_n hx hb dL_law_358 rfl (lv_at hl 0 rfl) ?_
    refine lv_iconst (v := 3) hx hb dL_law_359 (by decide) ?_
    refine lv_iadd hx hb dL_law_360 ?_
    refine va_sld hx hb hX hbl hbA hS (vp_in_iff.mpr ⟨by omega, by omega⟩) dL_law_361 ?_
    refine lv_aload_n hx hb dL_law_362 rfl (lv_at hl 3 rfl) ?_
    refine lv_iload_n hx hb dL_law_363 rfl (lv_at hl 0 rfl) ?_
    refine lv_iconst (v := 4) hx hb dL_law_364 (by decide) ?_
    refine lv_iadd hx hb dL_law_365 ?_
    refine va_sld hx hb hX hbl hbA hS (vp_in_iff.mpr ⟨by omega, by omega⟩) dL_law_366 ?_
    refine lv_if_eq (tgt := 374) hx hb dL_law_367 (by decide) (fun c_16 => ?_) (fun c_16 => ?_)
    · simp only [i_lt, i_le, i_eq, ti_0] at c_16
      refine lv_iconst (v := 0) hx hb dL_law_374 (by decide) ?_
      have hPc := pr_P hP
      have hDc := pr_D hD
      have hKc := hK.sub (tys' := t10 C) [4, 5, 6, 7, 8, 9, 10, 11, 12, 13, 14, 15, 16, 17, 18, 19, 20, 21, 22, 23, 24, 25, 26, 27, 28, 29, 30, 31, 32, 33, 34, 35, 36, 37, 38, 39, 40, 41, 42, 43, 44, 45, 46, 47, 48, 49, 50, 51, 52, 53, 54, 55] rfl
      have hFc := free_all hDc hS hA
      refine va_calli (va_runV (As := [.int (xs (Int32.toNatClampNeg (x + 1))), .int (xs (Int32.toNatClampNeg (x + 2))), .int (xs (Int32.toNatClampNeg (x + 3))), .int 0]) (rest := []) ⟨hx, hb, hml, hown, hg⟩ (c_X10_handler l dC dI (40000 * (k : Int)) hm X C Fm nm (xs (Int32.toNatClampNeg (x + 1))) (xs (Int32.toNatClampNeg (x + 2))) (xs (Int32.toNatClampNeg (x + 3))) 0 H.size hI10) (cwV 4 hg (gw_V gm_methodLink_RL_42_yX10_handler gm_instanceMethod_yX10_handler gm_selects_RX10_yX10_handler_yX10_handler gm_initialized_RX10 gm_code_yX10_handler_cX10_handler_6_some_boolean_) rfl rfl rfl (by decide +kernel) ⟨Nat.le_of_ble_eq_true rfl, Nat.le_of_ble_eq_true rfl⟩) ⟨fun a U g mk q => by obtain ⟨q0, q1, qP, qK, qD, qN⟩ := q; exact ⟨q0, q1, qP, va_K.moved (u := U) (U := U.calling g mk a) (Vm.Alike.refl U.vm) qK, qD, nx_same (u := U) (U := U.calling g mk a) rfl qN⟩, va_recv hKc hPc (ci := 10) (q0 := 0) rfl rfl, fun U hU hW => ⟨rfl, by rw [hU], by rw [hU]; exact hPc, va_K.moved hW.alike hKc, hDc.weaken (fun _ _ _ _ => trivial), nx_warm hW hN⟩⟩ rfl rfl hl.1 rfl (lv_room (Nat.le_of_ble_eq_true rfl)) dL_law_375 ⟨by show ce + 0 ≤ 600000; omega, by show se + 0 ≤ 7302250; omega⟩) hS (fun q _ h => hFc q h) hFc (fun r_17 u_18 t H1 locs ht hvm hw hB hz1 hk1 hS => ?_)
      obtain ⟨Fm_19, nm_20⟩ := u_18
      obtain ⟨hP1, hD1, hJ_21⟩ := hB
      have hJ_21 : I10 (40000 * (k : Int)) Fm_19 nm_20 := hJ_21
      rw [ht] at hP1
      obtain ⟨hP, hD⟩ := va_appR hP hD hk1 hFc hP1 hD1
      have hP : va_P (dC, dI) vwCl (ws_14 ++ (w10 hm X C (Fm_19 0) (Fm_19 1) (Fm_19 2) (Fm_19 3) (Fm_19 4) (Fm_19 5) (Fm_19 6) (Fm_19 7) (Fm_19 8) (Fm_19 10) (Fm_19 13) (Fm_19 14) (Fm_19 15) (Fm_19 16) (Fm_19 17) (Fm_19 18) (Fm_19 19) (Fm_19 20) (Fm_19 21) (Fm_19 22) (Fm_19 23) (Fm_19 24) (Fm_19 25) (Fm_19 26) (Fm_19 27) (Fm_19 28) (Fm_19 29) (Fm_19 30) (Fm_19 31) (Fm_19 32) (Fm_19 33) (Fm_19 34) (Fm_19 35) (Fm_19 36) (Fm_19 37) (Fm_19 38) (Fm_19 39) (Fm_19 40) (Fm_19 41) (Fm_19 42) (Fm_19 43) (Fm_19 49) (Fm_19 50) (Fm_19 51) (Fm_19 52) (Fm_19 53) (Fm_19 54) (Fm_19 55) (Fm_19 56) (Fm_19 57) (Fm_19 58) (Fm_19 59) (nm_20 9) (nm_20 11) (nm_20 12) (nm_20 44) (nm_20 45) (nm_20 46) (nm_20 47) (nm_20 48))) H1 := hP
      have hD : va_D A (ws_14 ++ (w10 hm X C (Fm_19 0) (Fm_19 1) (Fm_19 2) (Fm_19 3) (Fm_19 4) (Fm_19 5) (Fm_19 6) (Fm_19 7) (Fm_19 8) (Fm_19 10) (Fm_19 13) (Fm_19 14) (Fm_19 15) (Fm_19 16) (Fm_19 17) (Fm_19 18) (Fm_19 19) (Fm_19 20) (Fm_19 21) (Fm_19 22) (Fm_19 23) (Fm_19 24) (Fm_19 25) (Fm_19 26) (Fm_19 27) (Fm_19 28) (Fm_19 29) (Fm_19 30) (Fm_19 31) (Fm_19 32) (Fm_19 33) (Fm_19 34) (Fm_19 35) (Fm_19 36) (Fm_19 37) (Fm_19 38) (Fm_19 39) (Fm_19 40) (Fm_19 41) (Fm_19 42) (Fm_19 43) (Fm_19 49) (Fm_19 50) (Fm_19 51) (Fm_19 52) (Fm_19 53) (Fm_19 54) (Fm_19 55) (Fm_19 56) (Fm_19 57) (Fm_19 58) (Fm_19 59) (nm_20 9) (nm_20 11) (nm_20 12) (nm_20 44) (nm_20 45) (nm_20 46) (nm_20 47) (nm_20 48))) := hD
      refine W.widen (k := ce) (n := se) (Nat.le_refl _) (Nat.le_refl _) ?_
      clear hk1 hz1
      generalize H1 = H at hP hS ⊢
      have e10 : ((Q10.mk Fm_19 nm_20), r_17) = r_handler (xs (Int32.toNatClampNeg (x + 1))) (xs (Int32.toNatClampNeg (x + 2))) (xs (Int32.toNatClampNeg (x + 3))) (0 : Int32) (Q10.mk Fm nm) := by rcases hw with ⟨_, hw⟩ | ⟨_, hw⟩ <;> first | exact hw | exact hw.1
      have hs := handler_sim hRel (xs (Int32.toNatClampNeg (x + 1))) (xs (Int32.toNatClampNeg (x + 2))) (xs (Int32.toNatClampNeg (x + 3))) (0 : Int32) (by decide)
      rw [← e9, ← e10] at hs
      have hRel : Rl (600 * k) (1200 * (k : Int)) (C9.mk n f_9 T G K F) (Q10.mk Fm_19 nm_20) := hs.1
      refine lv_pop hx hb dL_law_378 rfl ?_
      refine lv_goto (tgt := 761) hx hb dL_law_379 (by decide) ?_
      obtain ⟨y, ey⟩ : ∃ q : Int32, q = x + 5 := ⟨_, rfl⟩
      refine lv_iinc (v := y) (lv' := [(3, .int y), (2, .ref hm), (1, .ref (ad 0)), (0, .ref b)]) hx hb dL_law_761 hl (k := 0) rfl (by rw [ey]; rfl) (by decide) rfl (fun ls hl => ?_)
      have ty : y.toInt = x.toInt + 5 := ar_add rfl ti_5 ey (by omega)
      refine lv_goto (tgt := 18) hx hb dL_law_764 (by decide) ?_
      exact ih y ws_14 ad ga gc M n f_9 T G K F Fm_19 nm_20 ce se H locs ls (by omega) ⟨hQ, I9.mono (R := (600 * k)) hI_15 (by omega), I10_mono (k := (40000 * (k : Int))) hJ_21 (by omega), hRel.more (by omega) (by omega), by omega, by omega⟩ hP hD hS (lv_sub hl [0, 1, 2, 3] rfl)
    · simp only [i_lt, i_le, i_eq, ti_0] at c_16
      exfalso
      omega
  · simp only [i_lt, i_le, i_eq, ti_0] at c_1
    refine lv_iconst (v := 1) hx hb dL_law_337 (by decide) ?_
    refine lv_goto (tgt := 342) hx hb dL_law_338 (by decide) ?_
    have hPc := pl_P hP
    have hDc := pl_D hD
    have hKc := hK.sub (tys' := t9 kc) [0, 1, 2, 3] rfl
    have hFc := free_all hDc hS hA
    refine W_msr2 (fun hm1 hm2 hm3 => ?_)
    refine va_calli (va_runV (As := [.int (xs (Int32.toNatClampNeg (x + 1))), .int (xs (Int32.toNatClampNeg (x + 2))), .int (xs (Int32.toNatClampNeg (x + 3))), .int 1]) (rest := []) ⟨hx, hb, hml, hown, hg⟩ (c9_X9_handler l dC dI kc ws ad ga gc M n f T G K F (600 * k) (xs (Int32.toNatClampNeg (x + 1))) (xs (Int32.toNatClampNeg (x + 2))) (xs (Int32.toNatClampNeg (x + 3))) 1 H.size (hpS H) hQ hI (by decide)) (cwV 4 hg (gw_V gm_methodLink_RL_38_yX9_handler gm_instanceMethod_yX9_handler gm_selects_RX9_yX9_handler_yX9_handler gm_initialized_RX9 gm_code_yX9_handler_cX9_handler_6_some_boolean_) rfl rfl rfl (by decide +kernel) ⟨Nat.le_of_ble_eq_true rfl, Nat.le_of_ble_eq_true rfl⟩) ⟨fun a U g mk q => by obtain ⟨q0, q1, q2, qP, qK, qD, qN⟩ := q; exact ⟨q0, q1, q2, qP, va_K.moved (u := U) (U := U.calling g mk a) (Vm.Alike.refl U.vm) qK, qD, nx_same (u := U) (U := U.calling g mk a) rfl qN⟩, va_recv hKc hPc (ci := 9) (q0 := 0) rfl hQ.x0, fun U hU hW => ⟨rfl, by rw [hU], by rw [hU], by rw [hU]; exact hPc, va_K.moved hW.alike hKc, hDc.weaken (fun _ _ _ _ => trivial), nx_warm hW hN⟩⟩ rfl rfl hl.1 rfl (lv_room (Nat.le_of_ble_eq_true rfl)) dL_law_342 ⟨by show ce + 0 ≤ 600000; omega, by show se + 0 ≤ 7302250; omega⟩) hS (fun q _ h => hFc q h) hFc (fun r_22 u_23 t H1 locs ht hvm hw hB hz1 hk1 hS => ?_)
    obtain ⟨ad_24, ga_25, gc_26, M_27, n_28, f_29, T_30, G_31, K_32, F_33⟩ := u_23
    have hB : ∃ w : va_W, va_P (dC, dI) vwCl w t.heap ∧ va_D (va_A ws H.size) w ∧ Pic9 kc w ad ga gc M n f_29 T G K F ∧ I9 M n f_29 T gc G K F (600 * k) ∧ hpS t.heap + (260 * M + 2 * S9 M gc) ≤ hpS H + (260 * M + 2 * S9 M gc) ∧ 16 * t.heap.size + (256 * M + S9 M gc) ≤ 16 * H.size + (256 * M + S9 M gc) := hB
    rw [ht] at hB
    obtain ⟨ws_34, hP1, hD1, hQ, hI_35, hy1, hy2⟩ := hB
    obtain ⟨hP, hD⟩ := va_appL hP hD hk1 hFc hP1 hD1
    have q1_ := hI_35.1
    unfold i1 at q1_
    have hSl := S9_le hI_35.2.2.2.2.2.2.2.1 hI_35.2.2.2.2.2.2.2.2.1
    refine W_msr2 (fun hn1 hn2 hn3 => ?_)
    obtain ⟨ce2, se2, hk3, hk4, hr1, hr2⟩ : ∃ c2 s2 : Nat, H1.size ≤ s.heap.size + c2 ∧ hpS H1 ≤ hpS s.heap + s2 ∧ s2 ≤ 668085 + (260 * M + 2 * S9 M gc) ∧ 16 * c2 ≤ 16 * 103 + (256 * M + S9 M gc) := ⟨H1.size - s.heap.size, hpS H1 - hpS s.heap, by omega, by omega, by have := hS.1; omega, by have := hS.1; omega⟩
    refine W_tightP hk3 hk4 ?_
    clear hm1 hm2 hm3 hn1 hn2 hn3 hk3 hk4 hk1 hz1 hy1 hy2
    generalize ce2 = ce, se2 = se at hr1 hr2 ⊢
    generalize H1 = H at hP hS ⊢
    have e9 : ((C9.mk n f_29 T G K F), r_22) = k_handler (xs (Int32.toNatClampNeg (x + 1))) (xs (Int32.toNatClampNeg (x + 2))) (xs (Int32.toNatClampNeg (x + 3))) (1 : Int32) (C9.mk n f T G K F) := by rcases hw with ⟨_, hw⟩ | ⟨_, hw⟩ <;> first | exact hw | exact hw.1
    refine lv_pop hx hb dL_law_345 rfl ?_
    refine lv_aload_n hx hb dL_law_346 rfl (lv_at hl 1 rfl) ?_
    refine lv_aload_n hx hb dL_law_347 rfl (lv_at hl 3 rfl) ?_
    refine lv_iload_n hx hb dL_law_348 rfl (lv_at hl 0 rfl) ?_
    refine lv_iconst (v := 1) hx hb dL_law_349 (by decide) ?_
    refine lv_iadd hx hb dL_law_350 ?_
    refine va_sld hx hb hX hbl hbA hS (vp_in_iff.mpr ⟨by omega, by omega⟩) dL_law_351 ?_
    refine lv_aload_n hx hb dL_law_352 rfl (lv_at hl 3 rfl) ?_
    refine lv_iload_n hx hb dL_law_353 rfl (lv_at hl 0 rfl) ?_
    refine lv_iconst (v := 2) hx hb dL_law_354 (by decide) ?_
    refine lv_iadd hx hb dL_law_355 ?_
    refine va_sld hx hb hX hbl hbA hS (vp_in_iff.mpr ⟨by omega, by omega⟩) dL_law_356 ?_
    refine lv_aload_n hx hb dL_law_357 rfl (lv_at hl 3 rfl) ?_
    refine lv_iload_n hx hb dL_law_358 rfl (lv_at hl 0 rfl) ?_
    refine lv_iconst (v := 3) hx hb dL_law_359 (by decide) ?_
    refine lv_iadd hx hb dL_law_360 ?_
    refine va_sld hx hb hX hbl hbA hS (vp_in_iff.mpr ⟨by omega, by omega⟩) dL_law_361 ?_
    refine lv_aload_n hx hb dL_law_362 rfl (lv_at hl 3 rfl) ?_
    refine lv_iload_n hx hb dL_law_363 rfl (lv_at hl 0 rfl) ?_
    refine lv_iconst (v := 4) hx hb dL_law_364 (by decide) ?_
    refine lv_iadd hx hb dL_law_365 ?_
    refine va_sld hx hb hX hbl hbA hS (vp_in_iff.mpr ⟨by omega, by omega⟩) dL_law_366 ?_
    refine lv_if_eq (tgt := 374) hx hb dL_law_367 (by decide) (fun c_36 => ?_) (fun c_36 => ?_)
    · simp only [i_lt, i_le, i_eq, ti_0] at c_36
      refine lv_iconst (v := 0) hx hb dL_law_374 (by decide) ?_
      exfalso
      omega
    · simp only [i_lt, i_le, i_eq, ti_0] at c_36
      refine lv_iconst (v := 1) hx hb dL_law_370 (by decide) ?_
      refine lv_goto (tgt := 375) hx hb dL_law_371 (by decide) ?_
      have hPc := pr_P hP
      have hDc := pr_D hD
      have hKc := hK.sub (tys' := t10 C) [4, 5, 6, 7, 8, 9, 10, 11, 12, 13, 14, 15, 16, 17, 18, 19, 20, 21, 22, 23, 24, 25, 26, 27, 28, 29, 30, 31, 32, 33, 34, 35, 36, 37, 38, 39, 40, 41, 42, 43, 44, 45, 46, 47, 48, 49, 50, 51, 52, 53, 54, 55] rfl
      have hFc := free_all hDc hS hA
      refine va_calli (va_runV (As := [.int (xs (Int32.toNatClampNeg (x + 1))), .int (xs (Int32.toNatClampNeg (x + 2))), .int (xs (Int32.toNatClampNeg (x + 3))), .int 1]) (rest := []) ⟨hx, hb, hml, hown, hg⟩ (c_X10_handler l dC dI (40000 * (k : Int)) hm X C Fm nm (xs (Int32.toNatClampNeg (x + 1))) (xs (Int32.toNatClampNeg (x + 2))) (xs (Int32.toNatClampNeg (x + 3))) 1 H.size hI10) (cwV 4 hg (gw_V gm_methodLink_RL_42_yX10_handler gm_instanceMethod_yX10_handler gm_selects_RX10_yX10_handler_yX10_handler gm_initialized_RX10 gm_code_yX10_handler_cX10_handler_6_some_boolean_) rfl rfl rfl (by decide +kernel) ⟨Nat.le_of_ble_eq_true rfl, Nat.le_of_ble_eq_true rfl⟩) ⟨fun a U g mk q => by obtain ⟨q0, q1, qP, qK, qD, qN⟩ := q; exact ⟨q0, q1, qP, va_K.moved (u := U) (U := U.calling g mk a) (Vm.Alike.refl U.vm) qK, qD, nx_same (u := U) (U := U.calling g mk a) rfl qN⟩, va_recv hKc hPc (ci := 10) (q0 := 0) rfl rfl, fun U hU hW => ⟨rfl, by rw [hU], by rw [hU]; exact hPc, va_K.moved hW.alike hKc, hDc.weaken (fun _ _ _ _ => trivial), nx_warm hW hN⟩⟩ rfl rfl hl.1 rfl (lv_room (Nat.le_of_ble_eq_true rfl)) dL_law_375 ⟨by show ce + 0 ≤ 600000; omega, by show se + 0 ≤ 7302250; omega⟩) hS (fun q _ h => hFc q h) hFc (fun r_39 u_40 t H1 locs ht hvm hw hB hz1 hk1 hS => ?_)
      obtain ⟨Fm_41, nm_42⟩ := u_40
      obtain ⟨hP1, hD1, hJ_43⟩ := hB
      have hJ_43 : I10 (40000 * (k : Int)) Fm_41 nm_42 := hJ_43
      rw [ht] at hP1
      obtain ⟨hP, hD⟩ := va_appR hP hD hk1 hFc hP1 hD1
      have hP : va_P (dC, dI) vwCl (ws_34 ++ (w10 hm X C (Fm_41 0) (Fm_41 1) (Fm_41 2) (Fm_41 3) (Fm_41 4) (Fm_41 5) (Fm_41 6) (Fm_41 7) (Fm_41 8) (Fm_41 10) (Fm_41 13) (Fm_41 14) (Fm_41 15) (Fm_41 16) (Fm_41 17) (Fm_41 18) (Fm_41 19) (Fm_41 20) (Fm_41 21) (Fm_41 22) (Fm_41 23) (Fm_41 24) (Fm_41 25) (Fm_41 26) (Fm_41 27) (Fm_41 28) (Fm_41 29) (Fm_41 30) (Fm_41 31) (Fm_41 32) (Fm_41 33) (Fm_41 34) (Fm_41 35) (Fm_41 36) (Fm_41 37) (Fm_41 38) (Fm_41 39) (Fm_41 40) (Fm_41 41) (Fm_41 42) (Fm_41 43) (Fm_41 49) (Fm_41 50) (Fm_41 51) (Fm_41 52) (Fm_41 53) (Fm_41 54) (Fm_41 55) (Fm_41 56) (Fm_41 57) (Fm_41 58) (Fm_41 59) (nm_42 9) (nm_42 11) (nm_42 12) (nm_42 44) (nm_42 45) (nm_42 46) (nm_42 47) (nm_42 48))) H1 := hP
      have hD : va_D A (ws_34 ++ (w10 hm X C (Fm_41 0) (Fm_41 1) (Fm_41 2) (Fm_41 3) (Fm_41 4) (Fm_41 5) (Fm_41 6) (Fm_41 7) (Fm_41 8) (Fm_41 10) (Fm_41 13) (Fm_41 14) (Fm_41 15) (Fm_41 16) (Fm_41 17) (Fm_41 18) (Fm_41 19) (Fm_41 20) (Fm_41 21) (Fm_41 22) (Fm_41 23) (Fm_41 24) (Fm_41 25) (Fm_41 26) (Fm_41 27) (Fm_41 28) (Fm_41 29) (Fm_41 30) (Fm_41 31) (Fm_41 32) (Fm_41 33) (Fm_41 34) (Fm_41 35) (Fm_41 36) (Fm_41 37) (Fm_41 38) (Fm_41 39) (Fm_41 40) (Fm_41 41) (Fm_41 42) (Fm_41 43) (Fm_41 49) (Fm_41 50) (Fm_41 51) (Fm_41 52) (Fm_41 53) (Fm_41 54) (Fm_41 55) (Fm_41 56) (Fm_41 57) (Fm_41 58) (Fm_41 59) (nm_42 9) (nm_42 11) (nm_42 12) (nm_42 44) (nm_42 45) (nm_42 46) (nm_42 47) (nm_42 48))) := hD
      refine W.widen (k := ce) (n := se) (Nat.le_refl _) (Nat.le_refl _) ?_
      clear hk1 hz1
      generalize H1 = H at hP hS ⊢
      have e10 : ((Q10.mk Fm_41 nm_42), r_39) = r_handler (xs (Int32.toNatClampNeg (x + 1))) (xs (Int32.toNatClampNeg (x + 2))) (xs (Int32.toNatClampNeg (x + 3))) (1 : Int32) (Q10.mk Fm nm) := by rcases hw with ⟨_, hw⟩ | ⟨_, hw⟩ <;> first | exact hw | exact hw.1
      have hs := handler_sim hRel (xs (Int32.toNatClampNeg (x + 1))) (xs (Int32.toNatClampNeg (x + 2))) (xs (Int32.toNatClampNeg (x + 3))) (1 : Int32) (by decide)
      rw [← e9, ← e10] at hs
      have hRel : Rl (600 * k) (1200 * (k : Int)) (C9.mk n f_29 T G K F) (Q10.mk Fm_41 nm_42) := hs.1
      refine lv_pop hx hb dL_law_378 rfl ?_
      refine lv_goto (tgt := 761) hx hb dL_law_379 (by decide) ?_
      obtain ⟨y, ey⟩ : ∃ q : Int32, q = x + 5 := ⟨_, rfl⟩
      refine lv_iinc (v := y) (lv' := [(3, .int y), (2, .ref hm), (1, .ref (ad 0)), (0, .ref b)]) hx hb dL_law_761 hl (k := 0) rfl (by rw [ey]; rfl) (by decide) rfl (fun ls hl => ?_)
      have ty : y.toInt = x.toInt + 5 := ar_add rfl ti_5 ey (by omega)
      refine lv_goto (tgt := 18) hx hb dL_law_764 (by decide) ?_
      exact ih y ws_34 ad ga gc M n f_29 T G K F Fm_41 nm_42 ce se H locs ls (by omega) ⟨hQ, I9.mono (R := (600 * k)) hI_35 (by omega), I10_mono (k := (40000 * (k : Int))) hJ_43 (by omega), hRel.more (by omega) (by omega), by omega, by omega⟩ hP hD hS (lv_sub hl [0, 1, 2, 3] rfl)

set_option maxHeartbeats 8000000 in
set_option maxRecDepth 100000 in
theorem law_c6 {p : Program} {e : Env} {s : State} {m : MethodId} {below : List Frame} {meth : Method} {c : Code} (l : Launch) {A : Nat → Prop} {b L : Nat} {xs : Nat → Int32} (hL : L ≤ 2560) (C0 : lw_At p s m meth c b L xs) (hA : ∀ q : Nat, s.heap.size ≤ q → A q) (hAf : ∀ q : Nat, A q → s.heap.size ≤ q) (hbA : ¬ A b) (hN : nx s) {dC : Nat → ClassId} {dI : Nat → Nat → Nat} (kc : Nat → ClassId) (hm : Nat) (X : Nat → Nat) (C : Nat → ClassId) (hK : va_K (dC, dI) vwCl (t9 kc ++ t10 C) s) {k : Nat} (hk5 : 5 * k + 5 ≤ L) (ih : LH p l e s m below meth c b A dC dI kc hm X C (k + 1)) (x : Int32) (ws : va_W) (ad : Nat → Nat) (ga : Nat → Nat) (gc : Nat → Nat) (M : Nat) (n : Nat → Int32) (f : Nat → Nat → Int32) (T : Nat → Option Nat) (G : Nat → Nat → Int32) (K : Nat → Nat → Option Nat) (F : Nat → Nat → Nat → Int32) (Fm : Nat → Nat → Int32) (nm : Nat → Int32) (ce se : Nat) (H : Heap) (locs : List Loc) (ls : Array Slot) (hxk : x.toInt = 5 * (k : Int)) (hLF : LF kc ws ad ga gc M n f T G K F Fm nm ce se k) (hP : va_P (dC, dI) vwCl (ws ++ (w10 hm X C (Fm 0) (Fm 1) (Fm 2) (Fm 3) (Fm 4) (Fm 5) (Fm 6) (Fm 7) (Fm 8) (Fm 10) (Fm 13) (Fm 14) (Fm 15) (Fm 16) (Fm 17) (Fm 18) (Fm 19) (Fm 20) (Fm 21) (Fm 22) (Fm 23) (Fm 24) (Fm 25) (Fm 26) (Fm 27) (Fm 28) (Fm 29) (Fm 30) (Fm 31) (Fm 32) (Fm 33) (Fm 34) (Fm 35) (Fm 36) (Fm 37) (Fm 38) (Fm 39) (Fm 40) (Fm 41) (Fm 42) (Fm 43) (Fm 49) (Fm 50) (Fm 51) (Fm 52) (Fm 53) (Fm 54) (Fm 55) (Fm 56) (Fm 57) (Fm 58) (Fm 59) (nm 9) (nm 11) (nm 12) (nm 44) (nm 45) (nm 46) (nm 47) (nm 48))) H) (hD : va_D A (ws ++ (w10 hm X C (Fm 0) (Fm 1) (Fm 2) (Fm 3) (Fm 4) (Fm 5) (Fm 6) (Fm 7) (Fm 8) (Fm 10) (Fm 13) (Fm 14) (Fm 15) (Fm 16) (Fm 17) (Fm 18) (Fm 19) (Fm 20) (Fm 21) (Fm 22) (Fm 23) (Fm 24) (Fm 25) (Fm 26) (Fm 27) (Fm 28) (Fm 29) (Fm 30) (Fm 31) (Fm 32) (Fm 33) (Fm 34) (Fm 35) (Fm 36) (Fm 37) (Fm 38) (Fm 39) (Fm 40) (Fm 41) (Fm 42) (Fm 43) (Fm 49) (Fm 50) (Fm 51) (Fm 52) (Fm 53) (Fm 54) (Fm 55) (Fm 56) (Fm 57) (Fm 58) (Fm 59) (nm 9) (nm 11) (nm 12) (nm 44) (nm 45) (nm 46) (nm 47) (nm 48)))) (hS : va_S A s.heap H locs) (hl : lv_has ls 4 [(3, .int x), (2, .ref hm), (1, .ref (ad 0)), (0, .ref b)]) : W p l e room_1 s m #[Value.ref b] below meth c H locs ce se (lw_Z below #[Value.ref b] s) (F0 m 382 ls []) := by
  obtain ⟨hx, hb, hr, hml, hown, hts, hX, hbl, hlocks, hgv⟩ := id C0
  have hg : ∀ w ∈ gw, w.before _ s = true := fun w h => hts w (gw_tbl w h)
  obtain ⟨hQ, hI, hI10, hRel, hr1, hr2⟩ := id hLF
  have qn_ := I10_n11 hI10
  have q1_ := hI.1
  unfold i1 at q1_
  have hSl := S9_le hI.2.2.2.2.2.2.2.1 hI.2.2.2.2.2.2.2.2.1
  have tx1 : (x + 1).toInt = x.toInt + 1 := ar_add rfl ti_1 rfl (by omega)
  have tx2 : (x + 2).toInt = x.toInt + 2 := ar_add rfl ti_2 rfl (by omega)
  have tx3 : (x + 3).toInt = x.toInt + 3 := ar_add rfl ti_3 rfl (by omega)
  have tx4 : (x + 4).toInt = x.toInt + 4 := ar_add rfl ti_4 rfl (by omega)
  refine lv_aload_n hx hb dL_law_382 rfl (lv_at hl 2 rfl) ?_
  refine lv_aload_n hx hb dL_law_383 rfl (lv_at hl 3 rfl) ?_
  refine lv_iload_n hx hb dL_law_384 rfl (lv_at hl 0 rfl) ?_
  refine lv_iconst (v := 1) hx hb dL_law_385 (by decide) ?_
  refine lv_iadd hx hb dL_law_386 ?_
  refine va_sld hx hb hX hbl hbA hS (vp_in_iff.mpr ⟨by omega, by omega⟩) dL_law_387 ?_
  have hPc := pl_P hP
  have hDc := pl_D hD
  have hKc := hK.sub (tys' := t9 kc) [0, 1, 2, 3] rfl
  have hFc := free_all hDc hS hA
  refine W_msr2 (fun hm1 hm2 hm3 => ?_)
  refine va_calli (va_runV (As := [.int (xs (Int32.toNatClampNeg (x + 1)))]) (rest := []) ⟨hx, hb, hml, hown, hg⟩ (c_X9_submit l dC dI kc ws ad ga gc M n f T G K F (600 * k) (xs (Int32.toNatClampNeg (x + 1))) H.size (hpS H) hQ hI (by show (600 * k) ≤ 310000; omega)) (cwV 1 hg (gw_V gm_methodLink_RL_43_yX9_submit gm_instanceMethod_yX9_submit gm_selects_RX9_yX9_submit_yX9_submit gm_initialized_RX9 gm_code_yX9_submit_cX9_submit_3_some_int_) rfl rfl rfl (by decide +kernel) ⟨Nat.le_of_ble_eq_true rfl, Nat.le_of_ble_eq_true rfl⟩) ⟨fun a U g mk q => by obtain ⟨q0, q1, q2, qP, qK, qD, qN⟩ := q; exact ⟨q0, q1, q2, qP, va_K.moved (u := U) (U := U.calling g mk a) (Vm.Alike.refl U.vm) qK, qD, nx_same (u := U) (U := U.calling g mk a) rfl qN⟩, va_recv hKc hPc (ci := 9) (q0 := 0) rfl hQ.x0, fun U hU hW => ⟨rfl, by rw [hU], by rw [hU], by rw [hU]; exact hPc, va_K.moved hW.alike hKc, hDc.weaken (fun _ _ _ _ => trivial), nx_warm hW hN⟩⟩ rfl rfl hl.1 rfl (lv_room (Nat.le_of_ble_eq_true rfl)) dL_law_388 ⟨by show ce + 3500 ≤ 600000; omega, by show se + 59000 ≤ 7302250; omega⟩) hS (fun q _ h => hFc q h) hFc (fun r_1 u_2 t H1 locs ht hvm hw hB hz1 hk1 hS => ?_)
  obtain ⟨ad_3, ga_4, gc_5, M_6, n_7, f_8, T_9, G_10, K_11, F_12⟩ := u_2
  have hB : ∃ w : va_W, va_P (dC, dI) vwCl w t.heap ∧ va_D (va_A ws H.size) w ∧ Pic9 kc w ad_3 ga_4 gc_5 M_6 n_7 f T G_10 K_11 F_12 ∧ I9 M_6 n_7 f T gc_5 G_10 K_11 F_12 (600 * k) ∧ hpS t.heap + (260 * M + 2 * S9 M gc) ≤ hpS H + (260 * M_6 + 2 * S9 M_6 gc_5) ∧ 16 * t.heap.size + (256 * M + S9 M gc) ≤ 16 * H.size + (256 * M_6 + S9 M_6 gc_5) ∧ (n 0).toInt ≤ (n_7 0).toInt ∧ (∀ q : Nat, q < 50 + 16 * M → ad_3 q = ad q) ∧ M ≤ M_6 := hB
  rw [ht] at hB
  obtain ⟨ws_13, hP1, hD1, hQ, hI_17, hy1, hy2, hn_14, hE_15, hM_16⟩ := hB
  obtain ⟨hP, hD⟩ := va_appL hP hD hk1 hFc hP1 hD1
  have q1_ := hI_17.1
  unfold i1 at q1_
  have hSl := S9_le hI_17.2.2.2.2.2.2.2.1 hI_17.2.2.2.2.2.2.2.2.1
  refine W_msr2 (fun hn1 hn2 hn3 => ?_)
  obtain ⟨ce2, se2, hk3, hk4, hr1, hr2⟩ : ∃ c2 s2 : Nat, H1.size ≤ s.heap.size + c2 ∧ hpS H1 ≤ hpS s.heap + s2 ∧ s2 ≤ 668085 + (260 * M_6 + 2 * S9 M_6 gc_5) ∧ 16 * c2 ≤ 16 * 103 + (256 * M_6 + S9 M_6 gc_5) := ⟨H1.size - s.heap.size, hpS H1 - hpS s.heap, by omega, by omega, by have := hS.1; omega, by have := hS.1; omega⟩
  refine W_tightP hk3 hk4 ?_
  clear hm1 hm2 hm3 hn1 hn2 hn3 hk3 hk4 hk1 hz1 hy1 hy2
  generalize ce2 = ce, se2 = se at hr1 hr2 ⊢
  generalize H1 = H at hP hS ⊢
  have hl : lv_has ls 4 [(3, .int x), (2, .ref hm), (1, .ref (ad_3 0)), (0, .ref b)] := by rw [hE_15 0 (by omega)]; exact hl
  have e9 : ((C9.mk n_7 f T G_10 K_11 F_12), r_1) = k_submit (xs (Int32.toNatClampNeg (x + 1))) (C9.mk n f T G K F) := hw.1
  refine lv_pop hx hb dL_law_391 rfl ?_
  refine lv_aload_n hx hb dL_law_392 rfl (lv_at hl 1 rfl) ?_
  refine lv_aload_n hx hb dL_law_393 rfl (lv_at hl 3 rfl) ?_
  refine lv_iload_n hx hb dL_law_394 rfl (lv_at hl 0 rfl) ?_
  refine lv_iconst (v := 1) hx hb dL_law_395 (by decide) ?_
  refine lv_iadd hx hb dL_law_396 ?_
  refine va_sld hx hb hX hbl hbA hS (vp_in_iff.mpr ⟨by omega, by omega⟩) dL_law_397 ?_
  have hPc := pr_P hP
  have hDc := pr_D hD
  have hKc := hK.sub (tys' := t10 C) [4, 5, 6, 7, 8, 9, 10, 11, 12, 13, 14, 15, 16, 17, 18, 19, 20, 21, 22, 23, 24, 25, 26, 27, 28, 29, 30, 31, 32, 33, 34, 35, 36, 37, 38, 39, 40, 41, 42, 43, 44, 45, 46, 47, 48, 49, 50, 51, 52, 53, 54, 55] rfl
  have hFc := free_all hDc hS hA
  refine va_calli (va_runV (As := [.int (xs (Int32.toNatClampNeg (x + 1)))]) (rest := []) ⟨hx, hb, hml, hown, hg⟩ (c_X10_submit l dC dI (40000 * (k : Int)) hm X C Fm nm (xs (Int32.toNatClampNeg (x + 1))) H.size hI10) (cwV 1 hg (gw_V gm_methodLink_RL_47_yX10_submit gm_instanceMethod_yX10_submit gm_selects_RX10_yX10_submit_yX10_submit gm_initialized_RX10 gm_code_yX10_submit_cX10_submit_2_some_int_) rfl rfl rfl (by decide +kernel) ⟨Nat.le_of_ble_eq_true rfl, Nat.le_of_ble_eq_true rfl⟩) ⟨fun a U g mk q => by obtain ⟨q0, q1, qP, qK, qD, qN⟩ := q; exact ⟨q0, q1, qP, va_K.moved (u := U) (U := U.calling g mk a) (Vm.Alike.refl U.vm) qK, qD, nx_same (u := U) (U := U.calling g mk a) rfl qN⟩, va_recv hKc hPc (ci := 10) (q0 := 0) rfl rfl, fun U hU hW => ⟨rfl, by rw [hU], by rw [hU]; exact hPc, va_K.moved hW.alike hKc, hDc.weaken (fun _ _ _ _ => trivial), nx_warm hW hN⟩⟩ rfl rfl hl.1 rfl (lv_room (Nat.le_of_ble_eq_true rfl)) dL_law_398 ⟨by show ce + 0 ≤ 600000; omega, by show se + 0 ≤ 7302250; omega⟩) hS (fun q _ h => hFc q h) hFc (fun r_18 u_19 t H1 locs ht hvm hw hB hz1 hk1 hS => ?_)
  obtain ⟨Fm_20, nm_21⟩ := u_19
  obtain ⟨hP1, hD1, hJ_22⟩ := hB
  have hJ_22 : I10 (40000 * (k : Int)) Fm_20 nm_21 := hJ_22
  rw [ht] at hP1
  obtain ⟨hP, hD⟩ := va_appR hP hD hk1 hFc hP1 hD1
  have hP : va_P (dC, dI) vwCl (ws_13 ++ (w10 hm X C (Fm_20 0) (Fm_20 1) (Fm_20 2) (Fm_20 3) (Fm_20 4) (Fm_20 5) (Fm_20 6) (Fm_20 7) (Fm_20 8) (Fm_20 10) (Fm_20 13) (Fm_20 14) (Fm_20 15) (Fm_20 16) (Fm_20 17) (Fm_20 18) (Fm_20 19) (Fm_20 20) (Fm_20 21) (Fm_20 22) (Fm_20 23) (Fm_20 24) (Fm_20 25) (Fm_20 26) (Fm_20 27) (Fm_20 28) (Fm_20 29) (Fm_20 30) (Fm_20 31) (Fm_20 32) (Fm_20 33) (Fm_20 34) (Fm_20 35) (Fm_20 36) (Fm_20 37) (Fm_20 38) (Fm_20 39) (Fm_20 40) (Fm_20 41) (Fm_20 42) (Fm_20 43) (Fm_20 49) (Fm_20 50) (Fm_20 51) (Fm_20 52) (Fm_20 53) (Fm_20 54) (Fm_20 55) (Fm_20 56) (Fm_20 57) (Fm_20 58) (Fm_20 59) (nm_21 9) (nm_21 11) (nm_21 12) (nm_21 44) (nm_21 45) (nm_21 46) (nm_21 47) (nm_21 48))) H1 := hP
  have hD : va_D A (ws_13 ++ (w10 hm X C (Fm_20 0) (Fm_20 1) (Fm_20 2) (Fm_20 3) (Fm_20 4) (Fm_20 5) (Fm_20 6) (Fm_20 7) (Fm_20 8) (Fm_20 10) (Fm_20 13) (Fm_20 14) (Fm_20 15) (Fm_20 16) (Fm_20 17) (Fm_20 18) (Fm_20 19) (Fm_20 20) (Fm_20 21) (Fm_20 22) (Fm_20 23) (Fm_20 24) (Fm_20 25) (Fm_20 26) (Fm_20 27) (Fm_20 28) (Fm_20 29) (Fm_20 30) (Fm_20 31) (Fm_20 32) (Fm_20 33) (Fm_20 34) (Fm_20 35) (Fm_20 36) (Fm_20 37) (Fm_20 38) (Fm_20 39) (Fm_20 40) (Fm_20 41) (Fm_20 42) (Fm_20 43) (Fm_20 49) (Fm_20 50) (Fm_20 51) (Fm_20 52) (Fm_20 53) (Fm_20 54) (Fm_20 55) (Fm_20 56) (Fm_20 57) (Fm_20 58) (Fm_20 59) (nm_21 9) (nm_21 11) (nm_21 12) (nm_21 44) (nm_21 45) (nm_21 46) (nm_21 47) (nm_21 48))) := hD
  refine W.widen (k := ce) (n := se) (Nat.le_refl _) (Nat.le_refl _) ?_
  clear hk1 hz1
  generalize H1 = H at hP hS ⊢
  have e10 : ((Q10.mk Fm_20 nm_21), r_18) = r_submit (xs (Int32.toNatClampNeg (x + 1))) (Q10.mk Fm nm) := hw.1
  have hs := submit_sim hRel (xs (Int32.toNatClampNeg (x + 1)))
  rw [← e9, ← e10] at hs
  have hRel : Rl (600 * k) (1200 * (k : Int)) (C9.mk n_7 f T G_10 K_11 F_12) (Q10.mk Fm_20 nm_21) := hs.1
  refine lv_pop hx hb dL_law_401 rfl ?_
  refine lv_goto (tgt := 761) hx hb dL_law_402 (by decide) ?_
  obtain ⟨y, ey⟩ : ∃ q : Int32, q = x + 5 := ⟨_, rfl⟩
  refine lv_iinc (v := y) (lv' := [(3, .int y), (2, .ref hm), (1, .ref (ad_3 0)), (0, .ref b)]) hx hb dL_law_761 hl (k := 0) rfl (by rw [ey]; rfl) (by decide) rfl (fun ls hl => ?_)
  have ty : y.toInt = x.toInt + 5 := ar_add rfl ti_5 ey (by omega)
  refine lv_goto (tgt := 18) hx hb dL_law_764 (by decide) ?_
  exact ih y ws_13 ad_3 ga_4 gc_5 M_6 n_7 f T G_10 K_11 F_12 Fm_20 nm_21 ce se H locs ls (by omega) ⟨hQ, I9.mono (R := (600 * k)) hI_17 (by omega), I10_mono (k := (40000 * (k : Int))) hJ_22 (by omega), hRel.more (by omega) (by omega), by omega, by omega⟩ hP hD hS (lv_sub hl [0, 1, 2, 3] rfl)

set_option maxHeartbeats 8000000 in
set_option maxRecDepth 100000 in
theorem law_c7 {p : Program} {e : Env} {s : State} {m : MethodId} {below : List Frame} {meth : Method} {c : Code} (l : Launch) {A : Nat → Prop} {b L : Nat} {xs : Nat → Int32} (hL : L ≤ 2560) (C0 : lw_At p s m meth c b L xs) (hA : ∀ q : Nat, s.heap.size ≤ q → A q) (hAf : ∀ q : Nat, A q → s.heap.size ≤ q) (hbA : ¬ A b) (hN : nx s) {dC : Nat → ClassId} {dI : Nat → Nat → Nat} (kc : Nat → ClassId) (hm : Nat) (X : Nat → Nat) (C : Nat → ClassId) (hK : va_K (dC, dI) vwCl (t9 kc ++ t10 C) s) {k : Nat} (hk5 : 5 * k + 5 ≤ L) (ih : LH p l e s m below meth c b A dC dI kc hm X C (k + 1)) (x : Int32) (ws : va_W) (ad : Nat → Nat) (ga : Nat → Nat) (gc : Nat → Nat) (M : Nat) (n : Nat → Int32) (f : Nat → Nat → Int32) (T : Nat → Option Nat) (G : Nat → Nat → Int32) (K : Nat → Nat → Option Nat) (F : Nat → Nat → Nat → Int32) (Fm : Nat → Nat → Int32) (nm : Nat → Int32) (ce se : Nat) (H : Heap) (locs : List Loc) (ls : Array Slot) (hxk : x.toInt = 5 * (k : Int)) (hLF : LF kc ws ad ga gc M n f T G K F Fm nm ce se k) (hP : va_P (dC, dI) vwCl (ws ++ (w10 hm X C (Fm 0) (Fm 1) (Fm 2) (Fm 3) (Fm 4) (Fm 5) (Fm 6) (Fm 7) (Fm 8) (Fm 10) (Fm 13) (Fm 14) (Fm 15) (Fm 16) (Fm 17) (Fm 18) (Fm 19) (Fm 20) (Fm 21) (Fm 22) (Fm 23) (Fm 24) (Fm 25) (Fm 26) (Fm 27) (Fm 28) (Fm 29) (Fm 30) (Fm 31) (Fm 32) (Fm 33) (Fm 34) (Fm 35) (Fm 36) (Fm 37) (Fm 38) (Fm 39) (Fm 40) (Fm 41) (Fm 42) (Fm 43) (Fm 49) (Fm 50) (Fm 51) (Fm 52) (Fm 53) (Fm 54) (Fm 55) (Fm 56) (Fm 57) (Fm 58) (Fm 59) (nm 9) (nm 11) (nm 12) (nm 44) (nm 45) (nm 46) (nm 47) (nm 48))) H) (hD : va_D A (ws ++ (w10 hm X C (Fm 0) (Fm 1) (Fm 2) (Fm 3) (Fm 4) (Fm 5) (Fm 6) (Fm 7) (Fm 8) (Fm 10) (Fm 13) (Fm 14) (Fm 15) (Fm 16) (Fm 17) (Fm 18) (Fm 19) (Fm 20) (Fm 21) (Fm 22) (Fm 23) (Fm 24) (Fm 25) (Fm 26) (Fm 27) (Fm 28) (Fm 29) (Fm 30) (Fm 31) (Fm 32) (Fm 33) (Fm 34) (Fm 35) (Fm 36) (Fm 37) (Fm 38) (Fm 39) (Fm 40) (Fm 41) (Fm 42) (Fm 43) (Fm 49) (Fm 50) (Fm 51) (Fm 52) (Fm 53) (Fm 54) (Fm 55) (Fm 56) (Fm 57) (Fm 58) (Fm 59) (nm 9) (nm 11) (nm 12) (nm 44) (nm 45) (nm 46) (nm 47) (nm 48)))) (hS : va_S A s.heap H locs) (hl : lv_has ls 4 [(3, .int x), (2, .ref hm), (1, .ref (ad 0)), (0, .ref b)]) : W p l e room_1 s m #[Value.ref b] below meth c H locs ce se (lw_Z below #[Value.ref b] s) (F0 m 405 ls []) := by
  obtain ⟨hx, hb, hr, hml, hown, hts, hX, hbl, hlocks, hgv⟩ := id C0
  have hg : ∀ w ∈ gw, w.before _ s = true := fun w h => hts w (gw_tbl w h)
  obtain ⟨hQ, hI, hI10, hRel, hr1, hr2⟩ := id hLF
  have qn_ := I10_n11 hI10
  have q1_ := hI.1
  unfold i1 at q1_
  have hSl := S9_le hI.2.2.2.2.2.2.2.1 hI.2.2.2.2.2.2.2.2.1
  have tx1 : (x + 1).toInt = x.toInt + 1 := ar_add rfl ti_1 rfl (by omega)
  have tx2 : (x + 2).toInt = x.toInt + 2 := ar_add rfl ti_2 rfl (by omega)
  have tx3 : (x + 3).toInt = x.toInt + 3 := ar_add rfl ti_3 rfl (by omega)
  have tx4 : (x + 4).toInt = x.toInt + 4 := ar_add rfl ti_4 rfl (by omega)
  refine lv_aload_n hx hb dL_law_405 rfl (lv_at hl 2 rfl) ?_
  refine lv_aload_n hx hb dL_law_406 rfl (lv_at hl 3 rfl) ?_
  refine lv_iload_n hx hb dL_law_407 rfl (lv_at hl 0 rfl) ?_
  refine lv_iconst (v := 1) hx hb dL_law_408 (by decide) ?_
  refine lv_iadd hx hb dL_law_409 ?_
  refine va_sld hx hb hX hbl hbA hS (vp_in_iff.mpr ⟨by omega, by omega⟩) dL_law_410 ?_
  have hPc := pl_P hP
  have hDc := pl_D hD
  have hKc := hK.sub (tys' := t9 kc) [0, 1, 2, 3] rfl
  have hFc := free_all hDc hS hA
  refine W_msr2 (fun hm1 hm2 hm3 => ?_)
  refine va_calli (va_runV (As := [.int (xs (Int32.toNatClampNeg (x + 1)))]) (rest := []) ⟨hx, hb, hml, hown, hg⟩ (c_X9_beat l dC dI kc ws ad ga gc M n f T G K F (600 * k) (xs (Int32.toNatClampNeg (x + 1))) H.size (hpS H) hQ hI (by show (600 * k) + 600 ≤ 310000; omega)) (cwV 1 hg (gw_V gm_methodLink_RL_48_yX9_beat gm_instanceMethod_yX9_beat gm_selects_RX9_yX9_beat_yX9_beat gm_initialized_RX9 gm_code_yX9_beat_cX9_beat_3_some_int_) rfl rfl rfl (by decide +kernel) ⟨Nat.le_of_ble_eq_true rfl, Nat.le_of_ble_eq_true rfl⟩) ⟨fun a U g mk q => by obtain ⟨q0, q1, q2, qP, qK, qD, qN⟩ := q; exact ⟨q0, q1, q2, qP, va_K.moved (u := U) (U := U.calling g mk a) (Vm.Alike.refl U.vm) qK, qD, nx_same (u := U) (U := U.calling g mk a) rfl qN⟩, va_recv hKc hPc (ci := 9) (q0 := 0) rfl hQ.x0, fun U hU hW => ⟨rfl, by rw [hU], by rw [hU], by rw [hU]; exact hPc, va_K.moved hW.alike hKc, hDc.weaken (fun _ _ _ _ => trivial), nx_warm hW hN⟩⟩ rfl rfl hl.1 rfl (lv_room (Nat.le_of_ble_eq_true rfl)) dL_law_411 ⟨by show ce + 128000 ≤ 600000; omega, by show se + 3990000 ≤ 7302250; omega⟩) hS (fun q _ h => hFc q h) hFc (fun r_1 u_2 t H1 locs ht hvm hw hB hz1 hk1 hS => ?_)
  obtain ⟨ad_3, ga_4, gc_5, M_6, n_7, f_8, T_9, G_10, K_11, F_12⟩ := u_2
  have hB : ∃ w : va_W, va_P (dC, dI) vwCl w t.heap ∧ va_D (va_A ws H.size) w ∧ Pic9 kc w ad_3 ga_4 gc_5 M_6 n_7 f_8 T_9 G_10 K_11 F_12 ∧ I9 M_6 n_7 f_8 T_9 gc_5 G_10 K_11 F_12 ((600 * k) + 600) ∧ hpS t.heap + (260 * M + 2 * S9 M gc) ≤ hpS H + (260 * M_6 + 2 * S9 M_6 gc_5) ∧ 16 * t.heap.size + (256 * M + S9 M gc) ≤ 16 * H.size + (256 * M_6 + S9 M_6 gc_5) ∧ (n 0).toInt ≤ (n_7 0).toInt ∧ (∀ q : Nat, q < 50 + 16 * M → ad_3 q = ad q) ∧ M ≤ M_6 := hB
  rw [ht] at hB
  obtain ⟨ws_13, hP1, hD1, hQ, hI_17, hy1, hy2, hn_14, hE_15, hM_16⟩ := hB
  obtain ⟨hP, hD⟩ := va_appL hP hD hk1 hFc hP1 hD1
  have q1_ := hI_17.1
  unfold i1 at q1_
  have hSl := S9_le hI_17.2.2.2.2.2.2.2.1 hI_17.2.2.2.2.2.2.2.2.1
  refine W_msr2 (fun hn1 hn2 hn3 => ?_)
  obtain ⟨ce2, se2, hk3, hk4, hr1, hr2⟩ : ∃ c2 s2 : Nat, H1.size ≤ s.heap.size + c2 ∧ hpS H1 ≤ hpS s.heap + s2 ∧ s2 ≤ 668085 + (260 * M_6 + 2 * S9 M_6 gc_5) ∧ 16 * c2 ≤ 16 * 103 + (256 * M_6 + S9 M_6 gc_5) := ⟨H1.size - s.heap.size, hpS H1 - hpS s.heap, by omega, by omega, by have := hS.1; omega, by have := hS.1; omega⟩
  refine W_tightP hk3 hk4 ?_
  clear hm1 hm2 hm3 hn1 hn2 hn3 hk3 hk4 hk1 hz1 hy1 hy2
  generalize ce2 = ce, se2 = se at hr1 hr2 ⊢
  generalize H1 = H at hP hS ⊢
  have hl : lv_has ls 4 [(3, .int x), (2, .ref hm), (1, .ref (ad_3 0)), (0, .ref b)] := by rw [hE_15 0 (by omega)]; exact hl
  have e9 : ((C9.mk n_7 f_8 T_9 G_10 K_11 F_12), r_1) = kh_beat (xs (Int32.toNatClampNeg (x + 1))) (C9.mk n f T G K F) := hw.1
  refine lv_pop hx hb dL_law_414 rfl ?_
  refine lv_aload_n hx hb dL_law_415 rfl (lv_at hl 1 rfl) ?_
  refine lv_aload_n hx hb dL_law_416 rfl (lv_at hl 3 rfl) ?_
  refine lv_iload_n hx hb dL_law_417 rfl (lv_at hl 0 rfl) ?_
  refine lv_iconst (v := 1) hx hb dL_law_418 (by decide) ?_
  refine lv_iadd hx hb dL_law_419 ?_
  refine va_sld hx hb hX hbl hbA hS (vp_in_iff.mpr ⟨by omega, by omega⟩) dL_law_420 ?_
  have hPc := pr_P hP
  have hDc := pr_D hD
  have hKc := hK.sub (tys' := t10 C) [4, 5, 6, 7, 8, 9, 10, 11, 12, 13, 14, 15, 16, 17, 18, 19, 20, 21, 22, 23, 24, 25, 26, 27, 28, 29, 30, 31, 32, 33, 34, 35, 36, 37, 38, 39, 40, 41, 42, 43, 44, 45, 46, 47, 48, 49, 50, 51, 52, 53, 54, 55] rfl
  have hFc := free_all hDc hS hA
  refine va_calli (va_runV (As := [.int (xs (Int32.toNatClampNeg (x + 1)))]) (rest := []) ⟨hx, hb, hml, hown, hg⟩ (c_X10_beat l dC dI (40000 * (k : Int)) hm X C Fm nm (xs (Int32.toNatClampNeg (x + 1))) H.size hI10 (by show (40000 * (k : Int)) ≤ 1800000000; omega)) (cwV 1 hg (gw_V gm_methodLink_RL_51_yX10_beat gm_instanceMethod_yX10_beat gm_selects_RX10_yX10_beat_yX10_beat gm_initialized_RX10 gm_code_yX10_beat_cX10_beat_3_some_int_) rfl rfl rfl (by decide +kernel) ⟨Nat.le_of_ble_eq_true rfl, Nat.le_of_ble_eq_true rfl⟩) ⟨fun a U g mk q => by obtain ⟨q0, q1, qP, qK, qD, qN⟩ := q; exact ⟨q0, q1, qP, va_K.moved (u := U) (U := U.calling g mk a) (Vm.Alike.refl U.vm) qK, qD, nx_same (u := U) (U := U.calling g mk a) rfl qN⟩, va_recv hKc hPc (ci := 10) (q0 := 0) rfl rfl, fun U hU hW => ⟨rfl, by rw [hU], by rw [hU]; exact hPc, va_K.moved hW.alike hKc, hDc.weaken (fun _ _ _ _ => trivial), nx_warm hW hN⟩⟩ rfl rfl hl.1 rfl (lv_room (Nat.le_of_ble_eq_true rfl)) dL_law_421 ⟨by show ce + 0 ≤ 600000; omega, by show se + 0 ≤ 7302250; omega⟩) hS (fun q _ h => hFc q h) hFc (fun r_18 u_19 t H1 locs ht hvm hw hB hz1 hk1 hS => ?_)
  obtain ⟨Fm_20, nm_21⟩ := u_19
  obtain ⟨hP1, hD1, hJ_22⟩ := hB
  have hJ_22 : I10 ((40000 * (k : Int)) + 40000) Fm_20 nm_21 := hJ_22
  rw [ht] at hP1
  obtain ⟨hP, hD⟩ := va_appR hP hD hk1 hFc hP1 hD1
  have hP : va_P (dC, dI) vwCl (ws_13 ++ (w10 hm X C (Fm_20 0) (Fm_20 1) (Fm_20 2) (Fm_20 3) (Fm_20 4) (Fm_20 5) (Fm_20 6) (Fm_20 7) (Fm_20 8) (Fm_20 10) (Fm_20 13) (Fm_20 14) (Fm_20 15) (Fm_20 16) (Fm_20 17) (Fm_20 18) (Fm_20 19) (Fm_20 20) (Fm_20 21) (Fm_20 22) (Fm_20 23) (Fm_20 24) (Fm_20 25) (Fm_20 26) (Fm_20 27) (Fm_20 28) (Fm_20 29) (Fm_20 30) (Fm_20 31) (Fm_20 32) (Fm_20 33) (Fm_20 34) (Fm_20 35) (Fm_20 36) (Fm_20 37) (Fm_20 38) (Fm_20 39) (Fm_20 40) (Fm_20 41) (Fm_20 42) (Fm_20 43) (Fm_20 49) (Fm_20 50) (Fm_20 51) (Fm_20 52) (Fm_20 53) (Fm_20 54) (Fm_20 55) (Fm_20 56) (Fm_20 57) (Fm_20 58) (Fm_20 59) (nm_21 9) (nm_21 11) (nm_21 12) (nm_21 44) (nm_21 45) (nm_21 46) (nm_21 47) (nm_21 48))) H1 := hP
  have hD : va_D A (ws_13 ++ (w10 hm X C (Fm_20 0) (Fm_20 1) (Fm_20 2) (Fm_20 3) (Fm_20 4) (Fm_20 5) (Fm_20 6) (Fm_20 7) (Fm_20 8) (Fm_20 10) (Fm_20 13) (Fm_20 14) (Fm_20 15) (Fm_20 16) (Fm_20 17) (Fm_20 18) (Fm_20 19) (Fm_20 20) (Fm_20 21) (Fm_20 22) (Fm_20 23) (Fm_20 24) (Fm_20 25) (Fm_20 26) (Fm_20 27) (Fm_20 28) (Fm_20 29) (Fm_20 30) (Fm_20 31) (Fm_20 32) (Fm_20 33) (Fm_20 34) (Fm_20 35) (Fm_20 36) (Fm_20 37) (Fm_20 38) (Fm_20 39) (Fm_20 40) (Fm_20 41) (Fm_20 42) (Fm_20 43) (Fm_20 49) (Fm_20 50) (Fm_20 51) (Fm_20 52) (Fm_20 53) (Fm_20 54) (Fm_20 55) (Fm_20 56) (Fm_20 57) (Fm_20 58) (Fm_20 59) (nm_21 9) (nm_21 11) (nm_21 12) (nm_21 44) (nm_21 45) (nm_21 46) (nm_21 47) (nm_21 48))) := hD
  refine W.widen (k := ce) (n := se) (Nat.le_refl _) (Nat.le_refl _) ?_
  clear hk1 hz1
  generalize H1 = H at hP hS ⊢
  have e10 : ((Q10.mk Fm_20 nm_21), r_18) = r_beat (xs (Int32.toNatClampNeg (x + 1))) (Q10.mk Fm nm) := hw.1
  have hs := beat_sim hRel (by omega) (by omega) (xs (Int32.toNatClampNeg (x + 1)))
  rw [← e9, ← e10] at hs
  have hRel : Rl (600 * k + 600) (1200 * (k : Int) + 1200) (C9.mk n_7 f_8 T_9 G_10 K_11 F_12) (Q10.mk Fm_20 nm_21) := hs.1
  refine lv_pop hx hb dL_law_424 rfl ?_
  refine lv_goto (tgt := 761) hx hb dL_law_425 (by decide) ?_
  obtain ⟨y, ey⟩ : ∃ q : Int32, q = x + 5 := ⟨_, rfl⟩
  refine lv_iinc (v := y) (lv' := [(3, .int y), (2, .ref hm), (1, .ref (ad_3 0)), (0, .ref b)]) hx hb dL_law_761 hl (k := 0) rfl (by rw [ey]; rfl) (by decide) rfl (fun ls hl => ?_)
  have ty : y.toInt = x.toInt + 5 := ar_add rfl ti_5 ey (by omega)
  refine lv_goto (tgt := 18) hx hb dL_law_764 (by decide) ?_
  exact ih y ws_13 ad_3 ga_4 gc_5 M_6 n_7 f_8 T_9 G_10 K_11 F_12 Fm_20 nm_21 ce se H locs ls (by omega) ⟨hQ, I9.mono (R := (600 * k) + 600) hI_17 (by omega), I10_mono (k := ((40000 * (k : Int)) + 40000)) hJ_22 (by omega), hRel.more (by omega) (by omega), by omega, by omega⟩ hP hD hS (lv_sub hl [0, 1, 2, 3] rfl)

set_option maxHeartbeats 8000000 in
set_option maxRecDepth 100000 in
theorem law_c8 {p : Program} {e : Env} {s : State} {m : MethodId} {below : List Frame} {meth : Method} {c : Code} (l : Launch) {A : Nat → Prop} {b L : Nat} {xs : Nat → Int32} (hL : L ≤ 2560) (C0 : lw_At p s m meth c b L xs) (hA : ∀ q : Nat, s.heap.size ≤ q → A q) (hAf : ∀ q : Nat, A q → s.heap.size ≤ q) (hbA : ¬ A b) (hN : nx s) {dC : Nat → ClassId} {dI : Nat → Nat → Nat} (kc : Nat → ClassId) (hm : Nat) (X : Nat → Nat) (C : Nat → ClassId) (hK : va_K (dC, dI) vwCl (t9 kc ++ t10 C) s) {k : Nat} (hk5 : 5 * k + 5 ≤ L) (ih : LH p l e s m below meth c b A dC dI kc hm X C (k + 1)) (x : Int32) (ws : va_W) (ad : Nat → Nat) (ga : Nat → Nat) (gc : Nat → Nat) (M : Nat) (n : Nat → Int32) (f : Nat → Nat → Int32) (T : Nat → Option Nat) (G : Nat → Nat → Int32) (K : Nat → Nat → Option Nat) (F : Nat → Nat → Nat → Int32) (Fm : Nat → Nat → Int32) (nm : Nat → Int32) (ce se : Nat) (H : Heap) (locs : List Loc) (ls : Array Slot) (hxk : x.toInt = 5 * (k : Int)) (hLF : LF kc ws ad ga gc M n f T G K F Fm nm ce se k) (hP : va_P (dC, dI) vwCl (ws ++ (w10 hm X C (Fm 0) (Fm 1) (Fm 2) (Fm 3) (Fm 4) (Fm 5) (Fm 6) (Fm 7) (Fm 8) (Fm 10) (Fm 13) (Fm 14) (Fm 15) (Fm 16) (Fm 17) (Fm 18) (Fm 19) (Fm 20) (Fm 21) (Fm 22) (Fm 23) (Fm 24) (Fm 25) (Fm 26) (Fm 27) (Fm 28) (Fm 29) (Fm 30) (Fm 31) (Fm 32) (Fm 33) (Fm 34) (Fm 35) (Fm 36) (Fm 37) (Fm 38) (Fm 39) (Fm 40) (Fm 41) (Fm 42) (Fm 43) (Fm 49) (Fm 50) (Fm 51) (Fm 52) (Fm 53) (Fm 54) (Fm 55) (Fm 56) (Fm 57) (Fm 58) (Fm 59) (nm 9) (nm 11) (nm 12) (nm 44) (nm 45) (nm 46) (nm 47) (nm 48))) H) (hD : va_D A (ws ++ (w10 hm X C (Fm 0) (Fm 1) (Fm 2) (Fm 3) (Fm 4) (Fm 5) (Fm 6) (Fm 7) (Fm 8) (Fm 10) (Fm 13) (Fm 14) (Fm 15) (Fm 16) (Fm 17) (Fm 18) (Fm 19) (Fm 20) (Fm 21) (Fm 22) (Fm 23) (Fm 24) (Fm 25) (Fm 26) (Fm 27) (Fm 28) (Fm 29) (Fm 30) (Fm 31) (Fm 32) (Fm 33) (Fm 34) (Fm 35) (Fm 36) (Fm 37) (Fm 38) (Fm 39) (Fm 40) (Fm 41) (Fm 42) (Fm 43) (Fm 49) (Fm 50) (Fm 51) (Fm 52) (Fm 53) (Fm 54) (Fm 55) (Fm 56) (Fm 57) (Fm 58) (Fm 59) (nm 9) (nm 11) (nm 12) (nm 44) (nm 45) (nm 46) (nm 47) (nm 48)))) (hS : va_S A s.heap H locs) (hl : lv_has ls 4 [(3, .int x), (2, .ref hm), (1, .ref (ad 0)), (0, .ref b)]) : W p l e room_1 s m #[Value.ref b] below meth c H locs ce se (lw_Z below #[Value.ref b] s) (F0 m 428 ls []) := by
  obtain ⟨hx, hb, hr, hml, hown, hts, hX, hbl, hlocks, hgv⟩ := id C0
  have hg : ∀ w ∈ gw, w.before _ s = true := fun w h => hts w (gw_tbl w h)
  obtain ⟨hQ, hI, hI10, hRel, hr1, hr2⟩ := id hLF
  have qn_ := I10_n11 hI10
  have q1_ := hI.1
  unfold i1 at q1_
  have hSl := S9_le hI.2.2.2.2.2.2.2.1 hI.2.2.2.2.2.2.2.2.1
  have tx1 : (x + 1).toInt = x.toInt + 1 := ar_add rfl ti_1 rfl (by omega)
  have tx2 : (x + 2).toInt = x.toInt + 2 := ar_add rfl ti_2 rfl (by omega)
  have tx3 : (x + 3).toInt = x.toInt + 3 := ar_add rfl ti_3 rfl (by omega)
  have tx4 : (x + 4).toInt = x.toInt + 4 := ar_add rfl ti_4 rfl (by omega)
  refine lv_aload_n hx hb dL_law_428 rfl (lv_at hl 2 rfl) ?_
  refine lv_aload_n hx hb dL_law_429 rfl (lv_at hl 3 rfl) ?_
  refine lv_iload_n hx hb dL_law_430 rfl (lv_at hl 0 rfl) ?_
  refine lv_iconst (v := 1) hx hb dL_law_431 (by decide) ?_
  refine lv_iadd hx hb dL_law_432 ?_
  refine va_sld hx hb hX hbl hbA hS (vp_in_iff.mpr ⟨by omega, by omega⟩) dL_law_433 ?_
  have hPc := pl_P hP
  have hDc := pl_D hD
  have hKc := hK.sub (tys' := t9 kc) [0, 1, 2, 3] rfl
  have hFc := free_all hDc hS hA
  refine W_msr2 (fun hm1 hm2 hm3 => ?_)
  refine va_calli (va_runV (As := [.int (xs (Int32.toNatClampNeg (x + 1)))]) (rest := []) ⟨hx, hb, hml, hown, hg⟩ (c_X9_interrupt l dC dI kc ws ad ga gc M n f T G K F (600 * k) (xs (Int32.toNatClampNeg (x + 1))) H.size (hpS H) hQ hI) (cwV 1 hg (gw_V gm_methodLink_RL_52_yX9_interrupt gm_instanceMethod_yX9_interrupt gm_selects_RX9_yX9_interrupt_yX9_interrupt gm_initialized_RX9 gm_code_yX9_interrupt_cX9_interrupt_3_some_boolean_) rfl rfl rfl (by decide +kernel) ⟨Nat.le_of_ble_eq_true rfl, Nat.le_of_ble_eq_true rfl⟩) ⟨fun a U g mk q => by obtain ⟨q0, q1, q2, qP, qK, qD, qN⟩ := q; exact ⟨q0, q1, q2, qP, va_K.moved (u := U) (U := U.calling g mk a) (Vm.Alike.refl U.vm) qK, qD, nx_same (u := U) (U := U.calling g mk a) rfl qN⟩, va_recv hKc hPc (ci := 9) (q0 := 0) rfl hQ.x0, fun U hU hW => ⟨rfl, by rw [hU], by rw [hU], by rw [hU]; exact hPc, va_K.moved hW.alike hKc, hDc.weaken (fun _ _ _ _ => trivial), nx_warm hW hN⟩⟩ rfl rfl hl.1 rfl (lv_room (Nat.le_of_ble_eq_true rfl)) dL_law_434 ⟨by show ce + 0 ≤ 600000; omega, by show se + 0 ≤ 7302250; omega⟩) hS (fun q _ h => hFc q h) hFc (fun r_1 u_2 t H1 locs ht hvm hw hB hz1 hk1 hS => ?_)
  obtain ⟨ad_3, ga_4, gc_5, M_6, n_7, f_8, T_9, G_10, K_11, F_12⟩ := u_2
  have hB : ∃ w : va_W, va_P (dC, dI) vwCl w t.heap ∧ va_D (va_A ws H.size) w ∧ Pic9 kc w ad ga gc M n f T G_10 K F ∧ I9 M n f T gc G_10 K F (600 * k) ∧ hpS t.heap + (260 * M + 2 * S9 M gc) ≤ hpS H + (260 * M + 2 * S9 M gc) ∧ 16 * t.heap.size + (256 * M + S9 M gc) ≤ 16 * H.size + (256 * M + S9 M gc) := hB
  rw [ht] at hB
  obtain ⟨ws_13, hP1, hD1, hQ, hI_14, hy1, hy2⟩ := hB
  obtain ⟨hP, hD⟩ := va_appL hP hD hk1 hFc hP1 hD1
  have q1_ := hI_14.1
  unfold i1 at q1_
  have hSl := S9_le hI_14.2.2.2.2.2.2.2.1 hI_14.2.2.2.2.2.2.2.2.1
  refine W_msr2 (fun hn1 hn2 hn3 => ?_)
  obtain ⟨ce2, se2, hk3, hk4, hr1, hr2⟩ : ∃ c2 s2 : Nat, H1.size ≤ s.heap.size + c2 ∧ hpS H1 ≤ hpS s.heap + s2 ∧ s2 ≤ 668085 + (260 * M + 2 * S9 M gc) ∧ 16 * c2 ≤ 16 * 103 + (256 * M + S9 M gc) := ⟨H1.size - s.heap.size, hpS H1 - hpS s.heap, by omega, by omega, by have := hS.1; omega, by have := hS.1; omega⟩
  refine W_tightP hk3 hk4 ?_
  clear hm1 hm2 hm3 hn1 hn2 hn3 hk3 hk4 hk1 hz1 hy1 hy2
  generalize ce2 = ce, se2 = se at hr1 hr2 ⊢
  generalize H1 = H at hP hS ⊢
  have e9 : ((C9.mk n f T G_10 K F), r_1) = k_interrupt (xs (Int32.toNatClampNeg (x + 1))) (C9.mk n f T G K F) := by rcases hw with ⟨_, hw⟩ | ⟨_, hw⟩ <;> first | exact hw | exact hw.1
  refine lv_pop hx hb dL_law_437 rfl ?_
  refine lv_aload_n hx hb dL_law_438 rfl (lv_at hl 1 rfl) ?_
  refine lv_aload_n hx hb dL_law_439 rfl (lv_at hl 3 rfl) ?_
  refine lv_iload_n hx hb dL_law_440 rfl (lv_at hl 0 rfl) ?_
  refine lv_iconst (v := 1) hx hb dL_law_441 (by decide) ?_
  refine lv_iadd hx hb dL_law_442 ?_
  refine va_sld hx hb hX hbl hbA hS (vp_in_iff.mpr ⟨by omega, by omega⟩) dL_law_443 ?_
  have hPc := pr_P hP
  have hDc := pr_D hD
  have hKc := hK.sub (tys' := t10 C) [4, 5, 6, 7, 8, 9, 10, 11, 12, 13, 14, 15, 16, 17, 18, 19, 20, 21, 22, 23, 24, 25, 26, 27, 28, 29, 30, 31, 32, 33, 34, 35, 36, 37, 38, 39, 40, 41, 42, 43, 44, 45, 46, 47, 48, 49, 50, 51, 52, 53, 54, 55] rfl
  have hFc := free_all hDc hS hA
  refine va_calli (va_runV (As := [.int (xs (Int32.toNatClampNeg (x + 1)))]) (rest := []) ⟨hx, hb, hml, hown, hg⟩ (c_X10_interrupt l dC dI (40000 * (k : Int)) hm X C Fm nm (xs (Int32.toNatClampNeg (x + 1))) H.size hI10) (cwV 1 hg (gw_V gm_methodLink_RL_55_yX10_interrupt gm_instanceMethod_yX10_interrupt gm_selects_RX10_yX10_interrupt_yX10_interrupt gm_initialized_RX10 gm_code_yX10_interrupt_cX10_interrupt_3_some_boolean_) rfl rfl rfl (by decide +kernel) ⟨Nat.le_of_ble_eq_true rfl, Nat.le_of_ble_eq_true rfl⟩) ⟨fun a U g mk q => by obtain ⟨q0, q1, qP, qK, qD, qN⟩ := q; exact ⟨q0, q1, qP, va_K.moved (u := U) (U := U.calling g mk a) (Vm.Alike.refl U.vm) qK, qD, nx_same (u := U) (U := U.calling g mk a) rfl qN⟩, va_recv hKc hPc (ci := 10) (q0 := 0) rfl rfl, fun U hU hW => ⟨rfl, by rw [hU], by rw [hU]; exact hPc, va_K.moved hW.alike hKc, hDc.weaken (fun _ _ _ _ => trivial), nx_warm hW hN⟩⟩ rfl rfl hl.1 rfl (lv_room (Nat.le_of_ble_eq_true rfl)) dL_law_444 ⟨by show ce + 0 ≤ 600000; omega, by show se + 0 ≤ 7302250; omega⟩) hS (fun q _ h => hFc q h) hFc (fun r_15 u_16 t H1 locs ht hvm hw hB hz1 hk1 hS => ?_)
  obtain ⟨Fm_17, nm_18⟩ := u_16
  obtain ⟨hP1, hD1, hJ_19⟩ := hB
  have hJ_19 : I10 (40000 * (k : Int)) Fm_17 nm_18 := hJ_19
  rw [ht] at hP1
  obtain ⟨hP, hD⟩ := va_appR hP hD hk1 hFc hP1 hD1
  have hP : va_P (dC, dI) vwCl (ws_13 ++ (w10 hm X C (Fm_17 0) (Fm_17 1) (Fm_17 2) (Fm_17 3) (Fm_17 4) (Fm_17 5) (Fm_17 6) (Fm_17 7) (Fm_17 8) (Fm_17 10) (Fm_17 13) (Fm_17 14) (Fm_17 15) (Fm_17 16) (Fm_17 17) (Fm_17 18) (Fm_17 19) (Fm_17 20) (Fm_17 21) (Fm_17 22) (Fm_17 23) (Fm_17 24) (Fm_17 25) (Fm_17 26) (Fm_17 27) (Fm_17 28) (Fm_17 29) (Fm_17 30) (Fm_17 31) (Fm_17 32) (Fm_17 33) (Fm_17 34) (Fm_17 35) (Fm_17 36) (Fm_17 37) (Fm_17 38) (Fm_17 39) (Fm_17 40) (Fm_17 41) (Fm_17 42) (Fm_17 43) (Fm_17 49) (Fm_17 50) (Fm_17 51) (Fm_17 52) (Fm_17 53) (Fm_17 54) (Fm_17 55) (Fm_17 56) (Fm_17 57) (Fm_17 58) (Fm_17 59) (nm_18 9) (nm_18 11) (nm_18 12) (nm_18 44) (nm_18 45) (nm_18 46) (nm_18 47) (nm_18 48))) H1 := hP
  have hD : va_D A (ws_13 ++ (w10 hm X C (Fm_17 0) (Fm_17 1) (Fm_17 2) (Fm_17 3) (Fm_17 4) (Fm_17 5) (Fm_17 6) (Fm_17 7) (Fm_17 8) (Fm_17 10) (Fm_17 13) (Fm_17 14) (Fm_17 15) (Fm_17 16) (Fm_17 17) (Fm_17 18) (Fm_17 19) (Fm_17 20) (Fm_17 21) (Fm_17 22) (Fm_17 23) (Fm_17 24) (Fm_17 25) (Fm_17 26) (Fm_17 27) (Fm_17 28) (Fm_17 29) (Fm_17 30) (Fm_17 31) (Fm_17 32) (Fm_17 33) (Fm_17 34) (Fm_17 35) (Fm_17 36) (Fm_17 37) (Fm_17 38) (Fm_17 39) (Fm_17 40) (Fm_17 41) (Fm_17 42) (Fm_17 43) (Fm_17 49) (Fm_17 50) (Fm_17 51) (Fm_17 52) (Fm_17 53) (Fm_17 54) (Fm_17 55) (Fm_17 56) (Fm_17 57) (Fm_17 58) (Fm_17 59) (nm_18 9) (nm_18 11) (nm_18 12) (nm_18 44) (nm_18 45) (nm_18 46) (nm_18 47) (nm_18 48))) := hD
  refine W.widen (k := ce) (n := se) (Nat.le_refl _) (Nat.le_refl _) ?_
  clear hk1 hz1
  generalize H1 = H at hP hS ⊢
  have e10 : ((Q10.mk Fm_17 nm_18), r_15) = r_interrupt (xs (Int32.toNatClampNeg (x + 1))) (Q10.mk Fm nm) := by rcases hw with ⟨_, hw⟩ | ⟨_, hw⟩ <;> first | exact hw | exact hw.1
  have hs := interrupt_sim hRel (xs (Int32.toNatClampNeg (x + 1)))
  rw [← e9, ← e10] at hs
  have hRel : Rl (600 * k) (1200 * (k : Int)) (C9.mk n f T G_10 K F) (Q10.mk Fm_17 nm_18) := hs.1
  refine lv_pop hx hb dL_law_447 rfl ?_
  refine lv_goto (tgt := 761) hx hb dL_law_448 (by decide) ?_
  obtain ⟨y, ey⟩ : ∃ q : Int32, q = x + 5 := ⟨_, rfl⟩
  refine lv_iinc (v := y) (lv' := [(3, .int y), (2, .ref hm), (1, .ref (ad 0)), (0, .ref b)]) hx hb dL_law_761 hl (k := 0) rfl (by rw [ey]; rfl) (by decide) rfl (fun ls hl => ?_)
  have ty : y.toInt = x.toInt + 5 := ar_add rfl ti_5 ey (by omega)
  refine lv_goto (tgt := 18) hx hb dL_law_764 (by decide) ?_
  exact ih y ws_13 ad ga gc M n f T G_10 K F Fm_17 nm_18 ce se H locs ls (by omega) ⟨hQ, I9.mono (R := (600 * k)) hI_14 (by omega), I10_mono (k := (40000 * (k : Int))) hJ_19 (by omega), hRel.more (by omega) (by omega), by omega, by omega⟩ hP hD hS (lv_sub hl [0, 1, 2, 3] rfl)

set_option maxHeartbeats 8000000 in
set_option maxRecDepth 100000 in
theorem law_c9 {p : Program} {e : Env} {s : State} {m : MethodId} {below : List Frame} {meth : Method} {c : Code} (l : Launch) {A : Nat → Prop} {b L : Nat} {xs : Nat → Int32} (hL : L ≤ 2560) (C0 : lw_At p s m meth c b L xs) (hA : ∀ q : Nat, s.heap.size ≤ q → A q) (hAf : ∀ q : Nat, A q → s.heap.size ≤ q) (hbA : ¬ A b) (hN : nx s) {dC : Nat → ClassId} {dI : Nat → Nat → Nat} (kc : Nat → ClassId) (hm : Nat) (X : Nat → Nat) (C : Nat → ClassId) (hK : va_K (dC, dI) vwCl (t9 kc ++ t10 C) s) {k : Nat} (hk5 : 5 * k + 5 ≤ L) (ih : LH p l e s m below meth c b A dC dI kc hm X C (k + 1)) (x : Int32) (ws : va_W) (ad : Nat → Nat) (ga : Nat → Nat) (gc : Nat → Nat) (M : Nat) (n : Nat → Int32) (f : Nat → Nat → Int32) (T : Nat → Option Nat) (G : Nat → Nat → Int32) (K : Nat → Nat → Option Nat) (F : Nat → Nat → Nat → Int32) (Fm : Nat → Nat → Int32) (nm : Nat → Int32) (ce se : Nat) (H : Heap) (locs : List Loc) (ls : Array Slot) (hxk : x.toInt = 5 * (k : Int)) (hLF : LF kc ws ad ga gc M n f T G K F Fm nm ce se k) (hP : va_P (dC, dI) vwCl (ws ++ (w10 hm X C (Fm 0) (Fm 1) (Fm 2) (Fm 3) (Fm 4) (Fm 5) (Fm 6) (Fm 7) (Fm 8) (Fm 10) (Fm 13) (Fm 14) (Fm 15) (Fm 16) (Fm 17) (Fm 18) (Fm 19) (Fm 20) (Fm 21) (Fm 22) (Fm 23) (Fm 24) (Fm 25) (Fm 26) (Fm 27) (Fm 28) (Fm 29) (Fm 30) (Fm 31) (Fm 32) (Fm 33) (Fm 34) (Fm 35) (Fm 36) (Fm 37) (Fm 38) (Fm 39) (Fm 40) (Fm 41) (Fm 42) (Fm 43) (Fm 49) (Fm 50) (Fm 51) (Fm 52) (Fm 53) (Fm 54) (Fm 55) (Fm 56) (Fm 57) (Fm 58) (Fm 59) (nm 9) (nm 11) (nm 12) (nm 44) (nm 45) (nm 46) (nm 47) (nm 48))) H) (hD : va_D A (ws ++ (w10 hm X C (Fm 0) (Fm 1) (Fm 2) (Fm 3) (Fm 4) (Fm 5) (Fm 6) (Fm 7) (Fm 8) (Fm 10) (Fm 13) (Fm 14) (Fm 15) (Fm 16) (Fm 17) (Fm 18) (Fm 19) (Fm 20) (Fm 21) (Fm 22) (Fm 23) (Fm 24) (Fm 25) (Fm 26) (Fm 27) (Fm 28) (Fm 29) (Fm 30) (Fm 31) (Fm 32) (Fm 33) (Fm 34) (Fm 35) (Fm 36) (Fm 37) (Fm 38) (Fm 39) (Fm 40) (Fm 41) (Fm 42) (Fm 43) (Fm 49) (Fm 50) (Fm 51) (Fm 52) (Fm 53) (Fm 54) (Fm 55) (Fm 56) (Fm 57) (Fm 58) (Fm 59) (nm 9) (nm 11) (nm 12) (nm 44) (nm 45) (nm 46) (nm 47) (nm 48)))) (hS : va_S A s.heap H locs) (hl : lv_has ls 4 [(3, .int x), (2, .ref hm), (1, .ref (ad 0)), (0, .ref b)]) : W p l e room_1 s m #[Value.ref b] below meth c H locs ce se (lw_Z below #[Value.ref b] s) (F0 m 451 ls []) := by
  obtain ⟨hx, hb, hr, hml, hown, hts, hX, hbl, hlocks, hgv⟩ := id C0
  have hg : ∀ w ∈ gw, w.before _ s = true := fun w h => hts w (gw_tbl w h)
  obtain ⟨hQ, hI, hI10, hRel, hr1, hr2⟩ := id hLF
  have qn_ := I10_n11 hI10
  have q1_ := hI.1
  unfold i1 at q1_
  have hSl := S9_le hI.2.2.2.2.2.2.2.1 hI.2.2.2.2.2.2.2.2.1
  have tx1 : (x + 1).toInt = x.toInt + 1 := ar_add rfl ti_1 rfl (by omega)
  have tx2 : (x + 2).toInt = x.toInt + 2 := ar_add rfl ti_2 rfl (by omega)
  have tx3 : (x + 3).toInt = x.toInt + 3 := ar_add rfl ti_3 rfl (by omega)
  have tx4 : (x + 4).toInt = x.toInt + 4 := ar_add rfl ti_4 rfl (by omega)
  refine lv_aload_n hx hb dL_law_451 rfl (lv_at hl 2 rfl) ?_
  refine lv_aload_n hx hb dL_law_452 rfl (lv_at hl 3 rfl) ?_
  refine lv_iload_n hx hb dL_law_453 rfl (lv_at hl 0 rfl) ?_
  refine lv_iconst (v := 1) hx hb dL_law_454 (by decide) ?_
  refine lv_iadd hx hb dL_law_455 ?_
  refine va_sld hx hb hX hbl hbA hS (vp_in_iff.mpr ⟨by omega, by omega⟩) dL_law_456 ?_
  refine lv_aload_n hx hb dL_law_457 rfl (lv_at hl 3 rfl) ?_
  refine lv_iload_n hx hb dL_law_458 rfl (lv_at hl 0 rfl) ?_
  refine lv_iconst (v := 2) hx hb dL_law_459 (by decide) ?_
  refine lv_iadd hx hb dL_law_460 ?_
  refine va_sld hx hb hX hbl hbA hS (vp_in_iff.mpr ⟨by omega, by omega⟩) dL_law_461 ?_
  have hPc := pl_P hP
  have hDc := pl_D hD
  have hKc := hK.sub (tys' := t9 kc) [0, 1, 2, 3] rfl
  have hFc := free_all hDc hS hA
  refine W_msr2 (fun hm1 hm2 hm3 => ?_)
  refine va_calli (va_runV (As := [.int (xs (Int32.toNatClampNeg (x + 1))), .int (xs (Int32.toNatClampNeg (x + 2)))]) (rest := []) ⟨hx, hb, hml, hown, hg⟩ (c_X9_run l dC dI kc ws ad ga gc M n f T G K F (600 * k) (xs (Int32.toNatClampNeg (x + 1))) (xs (Int32.toNatClampNeg (x + 2))) H.size (hpS H) hQ hI) (cwV 2 hg (gw_V gm_methodLink_RL_56_yX9_run gm_instanceMethod_yX9_run gm_selects_RX9_yX9_run_yX9_run gm_initialized_RX9 gm_code_yX9_run_cX9_run_4_some_int_) rfl rfl rfl (by decide +kernel) ⟨Nat.le_of_ble_eq_true rfl, Nat.le_of_ble_eq_true rfl⟩) ⟨fun a U g mk q => by obtain ⟨q0, q1, q2, qP, qK, qD, qN⟩ := q; exact ⟨q0, q1, q2, qP, va_K.moved (u := U) (U := U.calling g mk a) (Vm.Alike.refl U.vm) qK, qD, nx_same (u := U) (U := U.calling g mk a) rfl qN⟩, va_recv hKc hPc (ci := 9) (q0 := 0) rfl hQ.x0, fun U hU hW => ⟨rfl, by rw [hU], by rw [hU], by rw [hU]; exact hPc, va_K.moved hW.alike hKc, hDc.weaken (fun _ _ _ _ => trivial), nx_warm hW hN⟩⟩ rfl rfl hl.1 rfl (lv_room (Nat.le_of_ble_eq_true rfl)) dL_law_462 ⟨by show ce + 0 ≤ 600000; omega, by show se + 0 ≤ 7302250; omega⟩) hS (fun q _ h => hFc q h) hFc (fun r_1 u_2 t H1 locs ht hvm hw hB hz1 hk1 hS => ?_)
  obtain ⟨hP1, hD1, hy1, hy2⟩ := hB
  rw [ht] at hP1 hy1 hy2
  obtain ⟨hP, hD⟩ := va_appL hP hD hk1 hFc hP1 hD1
  refine W.widen (k := ce) (n := se) (Nat.le_refl _) (Nat.le_refl _) ?_
  generalize H1 = H at hP hS ⊢
  refine lv_pop hx hb dL_law_465 rfl ?_
  refine lv_aload_n hx hb dL_law_466 rfl (lv_at hl 1 rfl) ?_
  refine lv_aload_n hx hb dL_law_467 rfl (lv_at hl 3 rfl) ?_
  refine lv_iload_n hx hb dL_law_468 rfl (lv_at hl 0 rfl) ?_
  refine lv_iconst (v := 1) hx hb dL_law_469 (by decide) ?_
  refine lv_iadd hx hb dL_law_470 ?_
  refine va_sld hx hb hX hbl hbA hS (vp_in_iff.mpr ⟨by omega, by omega⟩) dL_law_471 ?_
  refine lv_aload_n hx hb dL_law_472 rfl (lv_at hl 3 rfl) ?_
  refine lv_iload_n hx hb dL_law_473 rfl (lv_at hl 0 rfl) ?_
  refine lv_iconst (v := 2) hx hb dL_law_474 (by decide) ?_
  refine lv_iadd hx hb dL_law_475 ?_
  refine va_sld hx hb hX hbl hbA hS (vp_in_iff.mpr ⟨by omega, by omega⟩) dL_law_476 ?_
  have hPc := pr_P hP
  have hDc := pr_D hD
  have hKc := hK.sub (tys' := t10 C) [4, 5, 6, 7, 8, 9, 10, 11, 12, 13, 14, 15, 16, 17, 18, 19, 20, 21, 22, 23, 24, 25, 26, 27, 28, 29, 30, 31, 32, 33, 34, 35, 36, 37, 38, 39, 40, 41, 42, 43, 44, 45, 46, 47, 48, 49, 50, 51, 52, 53, 54, 55] rfl
  have hFc := free_all hDc hS hA
  refine va_calli (va_runV (As := [.int (xs (Int32.toNatClampNeg (x + 1))), .int (xs (Int32.toNatClampNeg (x + 2)))]) (rest := []) ⟨hx, hb, hml, hown, hg⟩ (c_X10_run l dC dI (40000 * (k : Int)) hm X C Fm nm (xs (Int32.toNatClampNeg (x + 1))) (xs (Int32.toNatClampNeg (x + 2))) H.size hI10) (cwV 2 hg (gw_V gm_methodLink_RL_60_yX10_run gm_instanceMethod_yX10_run gm_selects_RX10_yX10_run_yX10_run gm_initialized_RX10 gm_code_yX10_run_cX10_run_3_some_int_) rfl rfl rfl (by decide +kernel) ⟨Nat.le_of_ble_eq_true rfl, Nat.le_of_ble_eq_true rfl⟩) ⟨fun a U g mk q => by obtain ⟨q0, q1, qP, qK, qD, qN⟩ := q; exact ⟨q0, q1, qP, va_K.moved (u := U) (U := U.calling g mk a) (Vm.Alike.refl U.vm) qK, qD, nx_same (u := U) (U := U.calling g mk a) rfl qN⟩, va_recv hKc hPc (ci := 10) (q0 := 0) rfl rfl, fun U hU hW => ⟨rfl, by rw [hU], by rw [hU]; exact hPc, va_K.moved hW.alike hKc, hDc.weaken (fun _ _ _ _ => trivial), nx_warm hW hN⟩⟩ rfl rfl hl.1 rfl (lv_room (Nat.le_of_ble_eq_true rfl)) dL_law_477 ⟨by show ce + 0 ≤ 600000; omega, by show se + 0 ≤ 7302250; omega⟩) hS (fun q _ h => hFc q h) hFc (fun r_3 u_4 t H1 locs ht hvm hw hB hz1 hk1 hS => ?_)
  obtain ⟨hP1, hD1⟩ := hB
  rw [ht] at hP1
  obtain ⟨hP, hD⟩ := va_appR hP hD hk1 hFc hP1 hD1
  have hP : va_P (dC, dI) vwCl (ws ++ (w10 hm X C (Fm 0) (Fm 1) (Fm 2) (Fm 3) (Fm 4) (Fm 5) (Fm 6) (Fm 7) (Fm 8) (Fm 10) (Fm 13) (Fm 14) (Fm 15) (Fm 16) (Fm 17) (Fm 18) (Fm 19) (Fm 20) (Fm 21) (Fm 22) (Fm 23) (Fm 24) (Fm 25) (Fm 26) (Fm 27) (Fm 28) (Fm 29) (Fm 30) (Fm 31) (Fm 32) (Fm 33) (Fm 34) (Fm 35) (Fm 36) (Fm 37) (Fm 38) (Fm 39) (Fm 40) (Fm 41) (Fm 42) (Fm 43) (Fm 49) (Fm 50) (Fm 51) (Fm 52) (Fm 53) (Fm 54) (Fm 55) (Fm 56) (Fm 57) (Fm 58) (Fm 59) (nm 9) (nm 11) (nm 12) (nm 44) (nm 45) (nm 46) (nm 47) (nm 48))) H1 := hP
  have hD : va_D A (ws ++ (w10 hm X C (Fm 0) (Fm 1) (Fm 2) (Fm 3) (Fm 4) (Fm 5) (Fm 6) (Fm 7) (Fm 8) (Fm 10) (Fm 13) (Fm 14) (Fm 15) (Fm 16) (Fm 17) (Fm 18) (Fm 19) (Fm 20) (Fm 21) (Fm 22) (Fm 23) (Fm 24) (Fm 25) (Fm 26) (Fm 27) (Fm 28) (Fm 29) (Fm 30) (Fm 31) (Fm 32) (Fm 33) (Fm 34) (Fm 35) (Fm 36) (Fm 37) (Fm 38) (Fm 39) (Fm 40) (Fm 41) (Fm 42) (Fm 43) (Fm 49) (Fm 50) (Fm 51) (Fm 52) (Fm 53) (Fm 54) (Fm 55) (Fm 56) (Fm 57) (Fm 58) (Fm 59) (nm 9) (nm 11) (nm 12) (nm 44) (nm 45) (nm 46) (nm 47) (nm 48))) := hD
  refine W.widen (k := ce) (n := se) (Nat.le_refl _) (Nat.le_refl _) ?_
  clear hk1 hz1
  generalize H1 = H at hP hS ⊢
  refine lv_pop hx hb dL_law_480 rfl ?_
  refine lv_goto (tgt := 761) hx hb dL_law_481 (by decide) ?_
  obtain ⟨y, ey⟩ : ∃ q : Int32, q = x + 5 := ⟨_, rfl⟩
  refine lv_iinc (v := y) (lv' := [(3, .int y), (2, .ref hm), (1, .ref (ad 0)), (0, .ref b)]) hx hb dL_law_761 hl (k := 0) rfl (by rw [ey]; rfl) (by decide) rfl (fun ls hl => ?_)
  have ty : y.toInt = x.toInt + 5 := ar_add rfl ti_5 ey (by omega)
  refine lv_goto (tgt := 18) hx hb dL_law_764 (by decide) ?_
  exact ih y ws ad ga gc M n f T G K F Fm nm ce se H locs ls (by omega) ⟨hQ, I9.mono (R := 600 * k) hI (by omega), I10_mono (k := 40000 * (k : Int)) hI10 (by omega), hRel.more (by omega) (by omega), by omega, by omega⟩ hP hD hS (lv_sub hl [0, 1, 2, 3] rfl)

set_option maxHeartbeats 8000000 in
set_option maxRecDepth 100000 in
theorem law_c10 {p : Program} {e : Env} {s : State} {m : MethodId} {below : List Frame} {meth : Method} {c : Code} (l : Launch) {A : Nat → Prop} {b L : Nat} {xs : Nat → Int32} (hL : L ≤ 2560) (C0 : lw_At p s m meth c b L xs) (hA : ∀ q : Nat, s.heap.size ≤ q → A q) (hAf : ∀ q : Nat, A q → s.heap.size ≤ q) (hbA : ¬ A b) (hN : nx s) {dC : Nat → ClassId} {dI : Nat → Nat → Nat} (kc : Nat → ClassId) (hm : Nat) (X : Nat → Nat) (C : Nat → ClassId) (hK : va_K (dC, dI) vwCl (t9 kc ++ t10 C) s) {k : Nat} (hk5 : 5 * k + 5 ≤ L) (ih : LH p l e s m below meth c b A dC dI kc hm X C (k + 1)) (x : Int32) (ws : va_W) (ad : Nat → Nat) (ga : Nat → Nat) (gc : Nat → Nat) (M : Nat) (n : Nat → Int32) (f : Nat → Nat → Int32) (T : Nat → Option Nat) (G : Nat → Nat → Int32) (K : Nat → Nat → Option Nat) (F : Nat → Nat → Nat → Int32) (Fm : Nat → Nat → Int32) (nm : Nat → Int32) (ce se : Nat) (H : Heap) (locs : List Loc) (ls : Array Slot) (hxk : x.toInt = 5 * (k : Int)) (hLF : LF kc ws ad ga gc M n f T G K F Fm nm ce se k) (hP : va_P (dC, dI) vwCl (ws ++ (w10 hm X C (Fm 0) (Fm 1) (Fm 2) (Fm 3) (Fm 4) (Fm 5) (Fm 6) (Fm 7) (Fm 8) (Fm 10) (Fm 13) (Fm 14) (Fm 15) (Fm 16) (Fm 17) (Fm 18) (Fm 19) (Fm 20) (Fm 21) (Fm 22) (Fm 23) (Fm 24) (Fm 25) (Fm 26) (Fm 27) (Fm 28) (Fm 29) (Fm 30) (Fm 31) (Fm 32) (Fm 33) (Fm 34) (Fm 35) (Fm 36) (Fm 37) (Fm 38) (Fm 39) (Fm 40) (Fm 41) (Fm 42) (Fm 43) (Fm 49) (Fm 50) (Fm 51) (Fm 52) (Fm 53) (Fm 54) (Fm 55) (Fm 56) (Fm 57) (Fm 58) (Fm 59) (nm 9) (nm 11) (nm 12) (nm 44) (nm 45) (nm 46) (nm 47) (nm 48))) H) (hD : va_D A (ws ++ (w10 hm X C (Fm 0) (Fm 1) (Fm 2) (Fm 3) (Fm 4) (Fm 5) (Fm 6) (Fm 7) (Fm 8) (Fm 10) (Fm 13) (Fm 14) (Fm 15) (Fm 16) (Fm 17) (Fm 18) (Fm 19) (Fm 20) (Fm 21) (Fm 22) (Fm 23) (Fm 24) (Fm 25) (Fm 26) (Fm 27) (Fm 28) (Fm 29) (Fm 30) (Fm 31) (Fm 32) (Fm 33) (Fm 34) (Fm 35) (Fm 36) (Fm 37) (Fm 38) (Fm 39) (Fm 40) (Fm 41) (Fm 42) (Fm 43) (Fm 49) (Fm 50) (Fm 51) (Fm 52) (Fm 53) (Fm 54) (Fm 55) (Fm 56) (Fm 57) (Fm 58) (Fm 59) (nm 9) (nm 11) (nm 12) (nm 44) (nm 45) (nm 46) (nm 47) (nm 48)))) (hS : va_S A s.heap H locs) (hl : lv_has ls 4 [(3, .int x), (2, .ref hm), (1, .ref (ad 0)), (0, .ref b)]) : W p l e room_1 s m #[Value.ref b] below meth c H locs ce se (lw_Z below #[Value.ref b] s) (F0 m 484 ls []) := by
  obtain ⟨hx, hb, hr, hml, hown, hts, hX, hbl, hlocks, hgv⟩ := id C0
  have hg : ∀ w ∈ gw, w.before _ s = true := fun w h => hts w (gw_tbl w h)
  obtain ⟨hQ, hI, hI10, hRel, hr1, hr2⟩ := id hLF
  have qn_ := I10_n11 hI10
  have q1_ := hI.1
  unfold i1 at q1_
  have hSl := S9_le hI.2.2.2.2.2.2.2.1 hI.2.2.2.2.2.2.2.2.1
  have tx1 : (x + 1).toInt = x.toInt + 1 := ar_add rfl ti_1 rfl (by omega)
  have tx2 : (x + 2).toInt = x.toInt + 2 := ar_add rfl ti_2 rfl (by omega)
  have tx3 : (x + 3).toInt = x.toInt + 3 := ar_add rfl ti_3 rfl (by omega)
  have tx4 : (x + 4).toInt = x.toInt + 4 := ar_add rfl ti_4 rfl (by omega)
  refine lv_aload_n hx hb dL_law_484 rfl (lv_at hl 2 rfl) ?_
  refine lv_aload_n hx hb dL_law_485 rfl (lv_at hl 3 rfl) ?_
  refine lv_iload_n hx hb dL_law_486 rfl (lv_at hl 0 rfl) ?_
  refine lv_iconst (v := 1) hx hb dL_law_487 (by decide) ?_
  refine lv_iadd hx hb dL_law_488 ?_
  refine va_sld hx hb hX hbl hbA hS (vp_in_iff.mpr ⟨by omega, by omega⟩) dL_law_489 ?_
  refine lv_aload_n hx hb dL_law_490 rfl (lv_at hl 3 rfl) ?_
  refine lv_iload_n hx hb dL_law_491 rfl (lv_at hl 0 rfl) ?_
  refine lv_iconst (v := 2) hx hb dL_law_492 (by decide) ?_
  refine lv_iadd hx hb dL_law_493 ?_
  refine va_sld hx hb hX hbl hbA hS (vp_in_iff.mpr ⟨by omega, by omega⟩) dL_law_494 ?_
  have hPc := pl_P hP
  have hDc := pl_D hD
  have hKc := hK.sub (tys' := t9 kc) [0, 1, 2, 3] rfl
  have hFc := free_all hDc hS hA
  refine W_msr2 (fun hm1 hm2 hm3 => ?_)
  refine va_calli (va_runV (As := [.int (xs (Int32.toNatClampNeg (x + 1))), .int (xs (Int32.toNatClampNeg (x + 2)))]) (rest := []) ⟨hx, hb, hml, hown, hg⟩ (c_X9_failure l dC dI kc ws ad ga gc M n f T G K F (600 * k) (xs (Int32.toNatClampNeg (x + 1))) (xs (Int32.toNatClampNeg (x + 2))) H.size (hpS H) hQ hI) (cwV 2 hg (gw_V gm_methodLink_RL_61_yX9_failure gm_instanceMethod_yX9_failure gm_selects_RX9_yX9_failure_yX9_failure gm_initialized_RX9 gm_code_yX9_failure_cX9_failure_4_some_int_) rfl rfl rfl (by decide +kernel) ⟨Nat.le_of_ble_eq_true rfl, Nat.le_of_ble_eq_true rfl⟩) ⟨fun a U g mk q => by obtain ⟨q0, q1, q2, qP, qK, qD, qN⟩ := q; exact ⟨q0, q1, q2, qP, va_K.moved (u := U) (U := U.calling g mk a) (Vm.Alike.refl U.vm) qK, qD, nx_same (u := U) (U := U.calling g mk a) rfl qN⟩, va_recv hKc hPc (ci := 9) (q0 := 0) rfl hQ.x0, fun U hU hW => ⟨rfl, by rw [hU], by rw [hU], by rw [hU]; exact hPc, va_K.moved hW.alike hKc, hDc.weaken (fun _ _ _ _ => trivial), nx_warm hW hN⟩⟩ rfl rfl hl.1 rfl (lv_room (Nat.le_of_ble_eq_true rfl)) dL_law_495 ⟨by show ce + 0 ≤ 600000; omega, by show se + 0 ≤ 7302250; omega⟩) hS (fun q _ h => hFc q h) hFc (fun r_1 u_2 t H1 locs ht hvm hw hB hz1 hk1 hS => ?_)
  obtain ⟨hP1, hD1, hy1, hy2⟩ := hB
  rw [ht] at hP1 hy1 hy2
  obtain ⟨hP, hD⟩ := va_appL hP hD hk1 hFc hP1 hD1
  refine W.widen (k := ce) (n := se) (Nat.le_refl _) (Nat.le_refl _) ?_
  generalize H1 = H at hP hS ⊢
  refine lv_pop hx hb dL_law_498 rfl ?_
  refine lv_aload_n hx hb dL_law_499 rfl (lv_at hl 1 rfl) ?_
  refine lv_aload_n hx hb dL_law_500 rfl (lv_at hl 3 rfl) ?_
  refine lv_iload_n hx hb dL_law_501 rfl (lv_at hl 0 rfl) ?_
  refine lv_iconst (v := 1) hx hb dL_law_502 (by decide) ?_
  refine lv_iadd hx hb dL_law_503 ?_
  refine va_sld hx hb hX hbl hbA hS (vp_in_iff.mpr ⟨by omega, by omega⟩) dL_law_504 ?_
  refine lv_aload_n hx hb dL_law_505 rfl (lv_at hl 3 rfl) ?_
  refine lv_iload_n hx hb dL_law_506 rfl (lv_at hl 0 rfl) ?_
  refine lv_iconst (v := 2) hx hb dL_law_507 (by decide) ?_
  refine lv_iadd hx hb dL_law_508 ?_
  refine va_sld hx hb hX hbl hbA hS (vp_in_iff.mpr ⟨by omega, by omega⟩) dL_law_509 ?_
  have hPc := pr_P hP
  have hDc := pr_D hD
  have hKc := hK.sub (tys' := t10 C) [4, 5, 6, 7, 8, 9, 10, 11, 12, 13, 14, 15, 16, 17, 18, 19, 20, 21, 22, 23, 24, 25, 26, 27, 28, 29, 30, 31, 32, 33, 34, 35, 36, 37, 38, 39, 40, 41, 42, 43, 44, 45, 46, 47, 48, 49, 50, 51, 52, 53, 54, 55] rfl
  have hFc := free_all hDc hS hA
  refine va_calli (va_runV (As := [.int (xs (Int32.toNatClampNeg (x + 1))), .int (xs (Int32.toNatClampNeg (x + 2)))]) (rest := []) ⟨hx, hb, hml, hown, hg⟩ (c_X10_failure l dC dI (40000 * (k : Int)) hm X C Fm nm (xs (Int32.toNatClampNeg (x + 1))) (xs (Int32.toNatClampNeg (x + 2))) H.size hI10) (cwV 2 hg (gw_V gm_methodLink_RL_64_yX10_failure gm_instanceMethod_yX10_failure gm_selects_RX10_yX10_failure_yX10_failure gm_initialized_RX10 gm_code_yX10_failure_cX10_failure_3_some_int_) rfl rfl rfl (by decide +kernel) ⟨Nat.le_of_ble_eq_true rfl, Nat.le_of_ble_eq_true rfl⟩) ⟨fun a U g mk q => by obtain ⟨q0, q1, qP, qK, qD, qN⟩ := q; exact ⟨q0, q1, qP, va_K.moved (u := U) (U := U.calling g mk a) (Vm.Alike.refl U.vm) qK, qD, nx_same (u := U) (U := U.calling g mk a) rfl qN⟩, va_recv hKc hPc (ci := 10) (q0 := 0) rfl rfl, fun U hU hW => ⟨rfl, by rw [hU], by rw [hU]; exact hPc, va_K.moved hW.alike hKc, hDc.weaken (fun _ _ _ _ => trivial), nx_warm hW hN⟩⟩ rfl rfl hl.1 rfl (lv_room (Nat.le_of_ble_eq_true rfl)) dL_law_510 ⟨by show ce + 0 ≤ 600000; omega, by show se + 0 ≤ 7302250; omega⟩) hS (fun q _ h => hFc q h) hFc (fun r_3 u_4 t H1 locs ht hvm hw hB hz1 hk1 hS => ?_)
  obtain ⟨hP1, hD1⟩ := hB
  rw [ht] at hP1
  obtain ⟨hP, hD⟩ := va_appR hP hD hk1 hFc hP1 hD1
  have hP : va_P (dC, dI) vwCl (ws ++ (w10 hm X C (Fm 0) (Fm 1) (Fm 2) (Fm 3) (Fm 4) (Fm 5) (Fm 6) (Fm 7) (Fm 8) (Fm 10) (Fm 13) (Fm 14) (Fm 15) (Fm 16) (Fm 17) (Fm 18) (Fm 19) (Fm 20) (Fm 21) (Fm 22) (Fm 23) (Fm 24) (Fm 25) (Fm 26) (Fm 27) (Fm 28) (Fm 29) (Fm 30) (Fm 31) (Fm 32) (Fm 33) (Fm 34) (Fm 35) (Fm 36) (Fm 37) (Fm 38) (Fm 39) (Fm 40) (Fm 41) (Fm 42) (Fm 43) (Fm 49) (Fm 50) (Fm 51) (Fm 52) (Fm 53) (Fm 54) (Fm 55) (Fm 56) (Fm 57) (Fm 58) (Fm 59) (nm 9) (nm 11) (nm 12) (nm 44) (nm 45) (nm 46) (nm 47) (nm 48))) H1 := hP
  have hD : va_D A (ws ++ (w10 hm X C (Fm 0) (Fm 1) (Fm 2) (Fm 3) (Fm 4) (Fm 5) (Fm 6) (Fm 7) (Fm 8) (Fm 10) (Fm 13) (Fm 14) (Fm 15) (Fm 16) (Fm 17) (Fm 18) (Fm 19) (Fm 20) (Fm 21) (Fm 22) (Fm 23) (Fm 24) (Fm 25) (Fm 26) (Fm 27) (Fm 28) (Fm 29) (Fm 30) (Fm 31) (Fm 32) (Fm 33) (Fm 34) (Fm 35) (Fm 36) (Fm 37) (Fm 38) (Fm 39) (Fm 40) (Fm 41) (Fm 42) (Fm 43) (Fm 49) (Fm 50) (Fm 51) (Fm 52) (Fm 53) (Fm 54) (Fm 55) (Fm 56) (Fm 57) (Fm 58) (Fm 59) (nm 9) (nm 11) (nm 12) (nm 44) (nm 45) (nm 46) (nm 47) (nm 48))) := hD
  refine W.widen (k := ce) (n := se) (Nat.le_refl _) (Nat.le_refl _) ?_
  clear hk1 hz1
  generalize H1 = H at hP hS ⊢
  refine lv_pop hx hb dL_law_513 rfl ?_
  refine lv_goto (tgt := 761) hx hb dL_law_514 (by decide) ?_
  obtain ⟨y, ey⟩ : ∃ q : Int32, q = x + 5 := ⟨_, rfl⟩
  refine lv_iinc (v := y) (lv' := [(3, .int y), (2, .ref hm), (1, .ref (ad 0)), (0, .ref b)]) hx hb dL_law_761 hl (k := 0) rfl (by rw [ey]; rfl) (by decide) rfl (fun ls hl => ?_)
  have ty : y.toInt = x.toInt + 5 := ar_add rfl ti_5 ey (by omega)
  refine lv_goto (tgt := 18) hx hb dL_law_764 (by decide) ?_
  exact ih y ws ad ga gc M n f T G K F Fm nm ce se H locs ls (by omega) ⟨hQ, I9.mono (R := 600 * k) hI (by omega), I10_mono (k := 40000 * (k : Int)) hI10 (by omega), hRel.more (by omega) (by omega), by omega, by omega⟩ hP hD hS (lv_sub hl [0, 1, 2, 3] rfl)

set_option maxHeartbeats 8000000 in
set_option maxRecDepth 100000 in
theorem law_c11 {p : Program} {e : Env} {s : State} {m : MethodId} {below : List Frame} {meth : Method} {c : Code} (l : Launch) {A : Nat → Prop} {b L : Nat} {xs : Nat → Int32} (hL : L ≤ 2560) (C0 : lw_At p s m meth c b L xs) (hA : ∀ q : Nat, s.heap.size ≤ q → A q) (hAf : ∀ q : Nat, A q → s.heap.size ≤ q) (hbA : ¬ A b) (hN : nx s) {dC : Nat → ClassId} {dI : Nat → Nat → Nat} (kc : Nat → ClassId) (hm : Nat) (X : Nat → Nat) (C : Nat → ClassId) (hK : va_K (dC, dI) vwCl (t9 kc ++ t10 C) s) {k : Nat} (hk5 : 5 * k + 5 ≤ L) (ih : LH p l e s m below meth c b A dC dI kc hm X C (k + 1)) (x : Int32) (ws : va_W) (ad : Nat → Nat) (ga : Nat → Nat) (gc : Nat → Nat) (M : Nat) (n : Nat → Int32) (f : Nat → Nat → Int32) (T : Nat → Option Nat) (G : Nat → Nat → Int32) (K : Nat → Nat → Option Nat) (F : Nat → Nat → Nat → Int32) (Fm : Nat → Nat → Int32) (nm : Nat → Int32) (ce se : Nat) (H : Heap) (locs : List Loc) (ls : Array Slot) (hxk : x.toInt = 5 * (k : Int)) (hLF : LF kc ws ad ga gc M n f T G K F Fm nm ce se k) (hP : va_P (dC, dI) vwCl (ws ++ (w10 hm X C (Fm 0) (Fm 1) (Fm 2) (Fm 3) (Fm 4) (Fm 5) (Fm 6) (Fm 7) (Fm 8) (Fm 10) (Fm 13) (Fm 14) (Fm 15) (Fm 16) (Fm 17) (Fm 18) (Fm 19) (Fm 20) (Fm 21) (Fm 22) (Fm 23) (Fm 24) (Fm 25) (Fm 26) (Fm 27) (Fm 28) (Fm 29) (Fm 30) (Fm 31) (Fm 32) (Fm 33) (Fm 34) (Fm 35) (Fm 36) (Fm 37) (Fm 38) (Fm 39) (Fm 40) (Fm 41) (Fm 42) (Fm 43) (Fm 49) (Fm 50) (Fm 51) (Fm 52) (Fm 53) (Fm 54) (Fm 55) (Fm 56) (Fm 57) (Fm 58) (Fm 59) (nm 9) (nm 11) (nm 12) (nm 44) (nm 45) (nm 46) (nm 47) (nm 48))) H) (hD : va_D A (ws ++ (w10 hm X C (Fm 0) (Fm 1) (Fm 2) (Fm 3) (Fm 4) (Fm 5) (Fm 6) (Fm 7) (Fm 8) (Fm 10) (Fm 13) (Fm 14) (Fm 15) (Fm 16) (Fm 17) (Fm 18) (Fm 19) (Fm 20) (Fm 21) (Fm 22) (Fm 23) (Fm 24) (Fm 25) (Fm 26) (Fm 27) (Fm 28) (Fm 29) (Fm 30) (Fm 31) (Fm 32) (Fm 33) (Fm 34) (Fm 35) (Fm 36) (Fm 37) (Fm 38) (Fm 39) (Fm 40) (Fm 41) (Fm 42) (Fm 43) (Fm 49) (Fm 50) (Fm 51) (Fm 52) (Fm 53) (Fm 54) (Fm 55) (Fm 56) (Fm 57) (Fm 58) (Fm 59) (nm 9) (nm 11) (nm 12) (nm 44) (nm 45) (nm 46) (nm 47) (nm 48)))) (hS : va_S A s.heap H locs) (hl : lv_has ls 4 [(3, .int x), (2, .ref hm), (1, .ref (ad 0)), (0, .ref b)]) : W p l e room_1 s m #[Value.ref b] below meth c H locs ce se (lw_Z below #[Value.ref b] s) (F0 m 517 ls []) := by
  obtain ⟨hx, hb, hr, hml, hown, hts, hX, hbl, hlocks, hgv⟩ := id C0
  have hg : ∀ w ∈ gw, w.before _ s = true := fun w h => hts w (gw_tbl w h)
  obtain ⟨hQ, hI, hI10, hRel, hr1, hr2⟩ := id hLF
  have qn_ := I10_n11 hI10
  have q1_ := hI.1
  unfold i1 at q1_
  have hSl := S9_le hI.2.2.2.2.2.2.2.1 hI.2.2.2.2.2.2.2.2.1
  have tx1 : (x + 1).toInt = x.toInt + 1 := ar_add rfl ti_1 rfl (by omega)
  have tx2 : (x + 2).toInt = x.toInt + 2 := ar_add rfl ti_2 rfl (by omega)
  have tx3 : (x + 3).toInt = x.toInt + 3 := ar_add rfl ti_3 rfl (by omega)
  have tx4 : (x + 4).toInt = x.toInt + 4 := ar_add rfl ti_4 rfl (by omega)
  refine lv_aload_n hx hb dL_law_517 rfl (lv_at hl 2 rfl) ?_
  refine lv_aload_n hx hb dL_law_518 rfl (lv_at hl 3 rfl) ?_
  refine lv_iload_n hx hb dL_law_519 rfl (lv_at hl 0 rfl) ?_
  refine lv_iconst (v := 1) hx hb dL_law_520 (by decide) ?_
  refine lv_iadd hx hb dL_law_521 ?_
  refine va_sld hx hb hX hbl hbA hS (vp_in_iff.mpr ⟨by omega, by omega⟩) dL_law_522 ?_
  refine lv_aload_n hx hb dL_law_523 rfl (lv_at hl 3 rfl) ?_
  refine lv_iload_n hx hb dL_law_524 rfl (lv_at hl 0 rfl) ?_
  refine lv_iconst (v := 2) hx hb dL_law_525 (by decide) ?_
  refine lv_iadd hx hb dL_law_526 ?_
  refine va_sld hx hb hX hbl hbA hS (vp_in_iff.mpr ⟨by omega, by omega⟩) dL_law_527 ?_
  have hPc := pl_P hP
  have hDc := pl_D hD
  have hKc := hK.sub (tys' := t9 kc) [0, 1, 2, 3] rfl
  have hFc := free_all hDc hS hA
  refine W_msr2 (fun hm1 hm2 hm3 => ?_)
  refine va_calli (va_runV (As := [.int (xs (Int32.toNatClampNeg (x + 1))), .int (xs (Int32.toNatClampNeg (x + 2)))]) (rest := []) ⟨hx, hb, hml, hown, hg⟩ (c_X9_trace l dC dI kc ws ad ga gc M n f T G K F (600 * k) (xs (Int32.toNatClampNeg (x + 1))) (xs (Int32.toNatClampNeg (x + 2))) H.size (hpS H) hQ hI) (cwV 2 hg (gw_V gm_methodLink_RL_65_yX9_trace gm_instanceMethod_yX9_trace gm_selects_RX9_yX9_trace_yX9_trace gm_initialized_RX9 gm_code_yX9_trace_cX9_trace_6_some_int_) rfl rfl rfl (by decide +kernel) ⟨Nat.le_of_ble_eq_true rfl, Nat.le_of_ble_eq_true rfl⟩) ⟨fun a U g mk q => by obtain ⟨q0, q1, q2, qP, qK, qD, qN⟩ := q; exact ⟨q0, q1, q2, qP, va_K.moved (u := U) (U := U.calling g mk a) (Vm.Alike.refl U.vm) qK, qD, nx_same (u := U) (U := U.calling g mk a) rfl qN⟩, va_recv hKc hPc (ci := 9) (q0 := 0) rfl hQ.x0, fun U hU hW => ⟨rfl, by rw [hU], by rw [hU], by rw [hU]; exact hPc, va_K.moved hW.alike hKc, hDc.weaken (fun _ _ _ _ => trivial), nx_warm hW hN⟩⟩ rfl rfl hl.1 rfl (lv_room (Nat.le_of_ble_eq_true rfl)) dL_law_528 ⟨by show ce + 0 ≤ 600000; omega, by show se + 0 ≤ 7302250; omega⟩) hS (fun q _ h => hFc q h) hFc (fun r_1 u_2 t H1 locs ht hvm hw hB hz1 hk1 hS => ?_)
  obtain ⟨hP1, hD1, hy1, hy2⟩ := hB
  rw [ht] at hP1 hy1 hy2
  obtain ⟨hP, hD⟩ := va_appL hP hD hk1 hFc hP1 hD1
  refine W.widen (k := ce) (n := se) (Nat.le_refl _) (Nat.le_refl _) ?_
  generalize H1 = H at hP hS ⊢
  refine lv_pop hx hb dL_law_531 rfl ?_
  refine lv_aload_n hx hb dL_law_532 rfl (lv_at hl 1 rfl) ?_
  refine lv_aload_n hx hb dL_law_533 rfl (lv_at hl 3 rfl) ?_
  refine lv_iload_n hx hb dL_law_534 rfl (lv_at hl 0 rfl) ?_
  refine lv_iconst (v := 1) hx hb dL_law_535 (by decide) ?_
  refine lv_iadd hx hb dL_law_536 ?_
  refine va_sld hx hb hX hbl hbA hS (vp_in_iff.mpr ⟨by omega, by omega⟩) dL_law_537 ?_
  refine lv_aload_n hx hb dL_law_538 rfl (lv_at hl 3 rfl) ?_
  refine lv_iload_n hx hb dL_law_539 rfl (lv_at hl 0 rfl) ?_
  refine lv_iconst (v := 2) hx hb dL_law_540 (by decide) ?_
  refine lv_iadd hx hb dL_law_541 ?_
  refine va_sld hx hb hX hbl hbA hS (vp_in_iff.mpr ⟨by omega, by omega⟩) dL_law_542 ?_
  have hPc := pr_P hP
  have hDc := pr_D hD
  have hKc := hK.sub (tys' := t10 C) [4, 5, 6, 7, 8, 9, 10, 11, 12, 13, 14, 15, 16, 17, 18, 19, 20, 21, 22, 23, 24, 25, 26, 27, 28, 29, 30, 31, 32, 33, 34, 35, 36, 37, 38, 39, 40, 41, 42, 43, 44, 45, 46, 47, 48, 49, 50, 51, 52, 53, 54, 55] rfl
  have hFc := free_all hDc hS hA
  refine va_calli (va_runV (As := [.int (xs (Int32.toNatClampNeg (x + 1))), .int (xs (Int32.toNatClampNeg (x + 2)))]) (rest := []) ⟨hx, hb, hml, hown, hg⟩ (c_X10_trace l dC dI (40000 * (k : Int)) hm X C Fm nm (xs (Int32.toNatClampNeg (x + 1))) (xs (Int32.toNatClampNeg (x + 2))) H.size hI10) (cwV 2 hg (gw_V gm_methodLink_RL_68_yX10_trace gm_instanceMethod_yX10_trace gm_selects_RX10_yX10_trace_yX10_trace gm_initialized_RX10 gm_code_yX10_trace_cX10_trace_6_some_int_) rfl rfl rfl (by decide +kernel) ⟨Nat.le_of_ble_eq_true rfl, Nat.le_of_ble_eq_true rfl⟩) ⟨fun a U g mk q => by obtain ⟨q0, q1, qP, qK, qD, qN⟩ := q; exact ⟨q0, q1, qP, va_K.moved (u := U) (U := U.calling g mk a) (Vm.Alike.refl U.vm) qK, qD, nx_same (u := U) (U := U.calling g mk a) rfl qN⟩, va_recv hKc hPc (ci := 10) (q0 := 0) rfl rfl, fun U hU hW => ⟨rfl, by rw [hU], by rw [hU]; exact hPc, va_K.moved hW.alike hKc, hDc.weaken (fun _ _ _ _ => trivial), nx_warm hW hN⟩⟩ rfl rfl hl.1 rfl (lv_room (Nat.le_of_ble_eq_true rfl)) dL_law_543 ⟨by show ce + 0 ≤ 600000; omega, by show se + 0 ≤ 7302250; omega⟩) hS (fun q _ h => hFc q h) hFc (fun r_3 u_4 t H1 locs ht hvm hw hB hz1 hk1 hS => ?_)
  obtain ⟨hP1, hD1⟩ := hB
  rw [ht] at hP1
  obtain ⟨hP, hD⟩ := va_appR hP hD hk1 hFc hP1 hD1
  have hP : va_P (dC, dI) vwCl (ws ++ (w10 hm X C (Fm 0) (Fm 1) (Fm 2) (Fm 3) (Fm 4) (Fm 5) (Fm 6) (Fm 7) (Fm 8) (Fm 10) (Fm 13) (Fm 14) (Fm 15) (Fm 16) (Fm 17) (Fm 18) (Fm 19) (Fm 20) (Fm 21) (Fm 22) (Fm 23) (Fm 24) (Fm 25) (Fm 26) (Fm 27) (Fm 28) (Fm 29) (Fm 30) (Fm 31) (Fm 32) (Fm 33) (Fm 34) (Fm 35) (Fm 36) (Fm 37) (Fm 38) (Fm 39) (Fm 40) (Fm 41) (Fm 42) (Fm 43) (Fm 49) (Fm 50) (Fm 51) (Fm 52) (Fm 53) (Fm 54) (Fm 55) (Fm 56) (Fm 57) (Fm 58) (Fm 59) (nm 9) (nm 11) (nm 12) (nm 44) (nm 45) (nm 46) (nm 47) (nm 48))) H1 := hP
  have hD : va_D A (ws ++ (w10 hm X C (Fm 0) (Fm 1) (Fm 2) (Fm 3) (Fm 4) (Fm 5) (Fm 6) (Fm 7) (Fm 8) (Fm 10) (Fm 13) (Fm 14) (Fm 15) (Fm 16) (Fm 17) (Fm 18) (Fm 19) (Fm 20) (Fm 21) (Fm 22) (Fm 23) (Fm 24) (Fm 25) (Fm 26) (Fm 27) (Fm 28) (Fm 29) (Fm 30) (Fm 31) (Fm 32) (Fm 33) (Fm 34) (Fm 35) (Fm 36) (Fm 37) (Fm 38) (Fm 39) (Fm 40) (Fm 41) (Fm 42) (Fm 43) (Fm 49) (Fm 50) (Fm 51) (Fm 52) (Fm 53) (Fm 54) (Fm 55) (Fm 56) (Fm 57) (Fm 58) (Fm 59) (nm 9) (nm 11) (nm 12) (nm 44) (nm 45) (nm 46) (nm 47) (nm 48))) := hD
  refine W.widen (k := ce) (n := se) (Nat.le_refl _) (Nat.le_refl _) ?_
  clear hk1 hz1
  generalize H1 = H at hP hS ⊢
  refine lv_pop hx hb dL_law_546 rfl ?_
  refine lv_goto (tgt := 761) hx hb dL_law_547 (by decide) ?_
  obtain ⟨y, ey⟩ : ∃ q : Int32, q = x + 5 := ⟨_, rfl⟩
  refine lv_iinc (v := y) (lv' := [(3, .int y), (2, .ref hm), (1, .ref (ad 0)), (0, .ref b)]) hx hb dL_law_761 hl (k := 0) rfl (by rw [ey]; rfl) (by decide) rfl (fun ls hl => ?_)
  have ty : y.toInt = x.toInt + 5 := ar_add rfl ti_5 ey (by omega)
  refine lv_goto (tgt := 18) hx hb dL_law_764 (by decide) ?_
  exact ih y ws ad ga gc M n f T G K F Fm nm ce se H locs ls (by omega) ⟨hQ, I9.mono (R := 600 * k) hI (by omega), I10_mono (k := 40000 * (k : Int)) hI10 (by omega), hRel.more (by omega) (by omega), by omega, by omega⟩ hP hD hS (lv_sub hl [0, 1, 2, 3] rfl)

set_option maxHeartbeats 8000000 in
set_option maxRecDepth 100000 in
theorem law_c12 {p : Program} {e : Env} {s : State} {m : MethodId} {below : List Frame} {meth : Method} {c : Code} (l : Launch) {A : Nat → Prop} {b L : Nat} {xs : Nat → Int32} (hL : L ≤ 2560) (C0 : lw_At p s m meth c b L xs) (hA : ∀ q : Nat, s.heap.size ≤ q → A q) (hAf : ∀ q : Nat, A q → s.heap.size ≤ q) (hbA : ¬ A b) (hN : nx s) {dC : Nat → ClassId} {dI : Nat → Nat → Nat} (kc : Nat → ClassId) (hm : Nat) (X : Nat → Nat) (C : Nat → ClassId) (hK : va_K (dC, dI) vwCl (t9 kc ++ t10 C) s) {k : Nat} (hk5 : 5 * k + 5 ≤ L) (ih : LH p l e s m below meth c b A dC dI kc hm X C (k + 1)) (x : Int32) (ws : va_W) (ad : Nat → Nat) (ga : Nat → Nat) (gc : Nat → Nat) (M : Nat) (n : Nat → Int32) (f : Nat → Nat → Int32) (T : Nat → Option Nat) (G : Nat → Nat → Int32) (K : Nat → Nat → Option Nat) (F : Nat → Nat → Nat → Int32) (Fm : Nat → Nat → Int32) (nm : Nat → Int32) (ce se : Nat) (H : Heap) (locs : List Loc) (ls : Array Slot) (hxk : x.toInt = 5 * (k : Int)) (hLF : LF kc ws ad ga gc M n f T G K F Fm nm ce se k) (hP : va_P (dC, dI) vwCl (ws ++ (w10 hm X C (Fm 0) (Fm 1) (Fm 2) (Fm 3) (Fm 4) (Fm 5) (Fm 6) (Fm 7) (Fm 8) (Fm 10) (Fm 13) (Fm 14) (Fm 15) (Fm 16) (Fm 17) (Fm 18) (Fm 19) (Fm 20) (Fm 21) (Fm 22) (Fm 23) (Fm 24) (Fm 25) (Fm 26) (Fm 27) (Fm 28) (Fm 29) (Fm 30) (Fm 31) (Fm 32) (Fm 33) (Fm 34) (Fm 35) (Fm 36) (Fm 37) (Fm 38) (Fm 39) (Fm 40) (Fm 41) (Fm 42) (Fm 43) (Fm 49) (Fm 50) (Fm 51) (Fm 52) (Fm 53) (Fm 54) (Fm 55) (Fm 56) (Fm 57) (Fm 58) (Fm 59) (nm 9) (nm 11) (nm 12) (nm 44) (nm 45) (nm 46) (nm 47) (nm 48))) H) (hD : va_D A (ws ++ (w10 hm X C (Fm 0) (Fm 1) (Fm 2) (Fm 3) (Fm 4) (Fm 5) (Fm 6) (Fm 7) (Fm 8) (Fm 10) (Fm 13) (Fm 14) (Fm 15) (Fm 16) (Fm 17) (Fm 18) (Fm 19) (Fm 20) (Fm 21) (Fm 22) (Fm 23) (Fm 24) (Fm 25) (Fm 26) (Fm 27) (Fm 28) (Fm 29) (Fm 30) (Fm 31) (Fm 32) (Fm 33) (Fm 34) (Fm 35) (Fm 36) (Fm 37) (Fm 38) (Fm 39) (Fm 40) (Fm 41) (Fm 42) (Fm 43) (Fm 49) (Fm 50) (Fm 51) (Fm 52) (Fm 53) (Fm 54) (Fm 55) (Fm 56) (Fm 57) (Fm 58) (Fm 59) (nm 9) (nm 11) (nm 12) (nm 44) (nm 45) (nm 46) (nm 47) (nm 48)))) (hS : va_S A s.heap H locs) (hl : lv_has ls 4 [(3, .int x), (2, .ref hm), (1, .ref (ad 0)), (0, .ref b)]) : W p l e room_1 s m #[Value.ref b] below meth c H locs ce se (lw_Z below #[Value.ref b] s) (F0 m 550 ls []) := by
  obtain ⟨hx, hb, hr, hml, hown, hts, hX, hbl, hlocks, hgv⟩ := id C0
  have hg : ∀ w ∈ gw, w.before _ s = true := fun w h => hts w (gw_tbl w h)
  obtain ⟨hQ, hI, hI10, hRel, hr1, hr2⟩ := id hLF
  have qn_ := I10_n11 hI10
  have q1_ := hI.1
  unfold i1 at q1_
  have hSl := S9_le hI.2.2.2.2.2.2.2.1 hI.2.2.2.2.2.2.2.2.1
  have tx1 : (x + 1).toInt = x.toInt + 1 := ar_add rfl ti_1 rfl (by omega)
  have tx2 : (x + 2).toInt = x.toInt + 2 := ar_add rfl ti_2 rfl (by omega)
  have tx3 : (x + 3).toInt = x.toInt + 3 := ar_add rfl ti_3 rfl (by omega)
  have tx4 : (x + 4).toInt = x.toInt + 4 := ar_add rfl ti_4 rfl (by omega)
  refine lv_aload_n hx hb dL_law_550 rfl (lv_at hl 2 rfl) ?_
  refine lv_aload_n hx hb dL_law_551 rfl (lv_at hl 3 rfl) ?_
  refine lv_iload_n hx hb dL_law_552 rfl (lv_at hl 0 rfl) ?_
  refine lv_iconst (v := 1) hx hb dL_law_553 (by decide) ?_
  refine lv_iadd hx hb dL_law_554 ?_
  refine va_sld hx hb hX hbl hbA hS (vp_in_iff.mpr ⟨by omega, by omega⟩) dL_law_555 ?_
  refine lv_aload_n hx hb dL_law_556 rfl (lv_at hl 3 rfl) ?_
  refine lv_iload_n hx hb dL_law_557 rfl (lv_at hl 0 rfl) ?_
  refine lv_iconst (v := 2) hx hb dL_law_558 (by decide) ?_
  refine lv_iadd hx hb dL_law_559 ?_
  refine va_sld hx hb hX hbl hbA hS (vp_in_iff.mpr ⟨by omega, by omega⟩) dL_law_560 ?_
  have hPc := pl_P hP
  have hDc := pl_D hD
  have hKc := hK.sub (tys' := t9 kc) [0, 1, 2, 3] rfl
  have hFc := free_all hDc hS hA
  refine W_msr2 (fun hm1 hm2 hm3 => ?_)
  refine va_calli (va_runV (As := [.int (xs (Int32.toNatClampNeg (x + 1))), .int (xs (Int32.toNatClampNeg (x + 2)))]) (rest := []) ⟨hx, hb, hml, hown, hg⟩ (c_X9_child l dC dI kc ws ad ga gc M n f T G K F (600 * k) (xs (Int32.toNatClampNeg (x + 1))) (xs (Int32.toNatClampNeg (x + 2))) H.size (hpS H) hQ hI) (cwV 2 hg (gw_V gm_methodLink_RL_69_yX9_child gm_instanceMethod_yX9_child gm_selects_RX9_yX9_child_yX9_child gm_initialized_RX9 gm_code_yX9_child_cX9_child_6_some_int_) rfl rfl rfl (by decide +kernel) ⟨Nat.le_of_ble_eq_true rfl, Nat.le_of_ble_eq_true rfl⟩) ⟨fun a U g mk q => by obtain ⟨q0, q1, q2, qP, qK, qD, qN⟩ := q; exact ⟨q0, q1, q2, qP, va_K.moved (u := U) (U := U.calling g mk a) (Vm.Alike.refl U.vm) qK, qD, nx_same (u := U) (U := U.calling g mk a) rfl qN⟩, va_recv hKc hPc (ci := 9) (q0 := 0) rfl hQ.x0, fun U hU hW => ⟨rfl, by rw [hU], by rw [hU], by rw [hU]; exact hPc, va_K.moved hW.alike hKc, hDc.weaken (fun _ _ _ _ => trivial), nx_warm hW hN⟩⟩ rfl rfl hl.1 rfl (lv_room (Nat.le_of_ble_eq_true rfl)) dL_law_561 ⟨by show ce + 0 ≤ 600000; omega, by show se + 0 ≤ 7302250; omega⟩) hS (fun q _ h => hFc q h) hFc (fun r_1 u_2 t H1 locs ht hvm hw hB hz1 hk1 hS => ?_)
  obtain ⟨hP1, hD1, hy1, hy2⟩ := hB
  rw [ht] at hP1 hy1 hy2
  obtain ⟨hP, hD⟩ := va_appL hP hD hk1 hFc hP1 hD1
  refine W.widen (k := ce) (n := se) (Nat.le_refl _) (Nat.le_refl _) ?_
  generalize H1 = H at hP hS ⊢
  refine lv_pop hx hb dL_law_564 rfl ?_
  refine lv_aload_n hx hb dL_law_565 rfl (lv_at hl 1 rfl) ?_
  refine lv_aload_n hx hb dL_law_566 rfl (lv_at hl 3 rfl) ?_
  refine lv_iload_n hx hb dL_law_567 rfl (lv_at hl 0 rfl) ?_
  refine lv_iconst (v := 1) hx hb dL_law_568 (by decide) ?_
  refine lv_iadd hx hb dL_law_569 ?_
  refine va_sld hx hb hX hbl hbA hS (vp_in_iff.mpr ⟨by omega, by omega⟩) dL_law_570 ?_
  refine lv_aload_n hx hb dL_law_571 rfl (lv_at hl 3 rfl) ?_
  refine lv_iload_n hx hb dL_law_572 rfl (lv_at hl 0 rfl) ?_
  refine lv_iconst (v := 2) hx hb dL_law_573 (by decide) ?_
  refine lv_iadd hx hb dL_law_574 ?_
  refine va_sld hx hb hX hbl hbA hS (vp_in_iff.mpr ⟨by omega, by omega⟩) dL_law_575 ?_
  have hPc := pr_P hP
  have hDc := pr_D hD
  have hKc := hK.sub (tys' := t10 C) [4, 5, 6, 7, 8, 9, 10, 11, 12, 13, 14, 15, 16, 17, 18, 19, 20, 21, 22, 23, 24, 25, 26, 27, 28, 29, 30, 31, 32, 33, 34, 35, 36, 37, 38, 39, 40, 41, 42, 43, 44, 45, 46, 47, 48, 49, 50, 51, 52, 53, 54, 55] rfl
  have hFc := free_all hDc hS hA
  refine va_calli (va_runV (As := [.int (xs (Int32.toNatClampNeg (x + 1))), .int (xs (Int32.toNatClampNeg (x + 2)))]) (rest := []) ⟨hx, hb, hml, hown, hg⟩ (c_X10_child l dC dI (40000 * (k : Int)) hm X C Fm nm (xs (Int32.toNatClampNeg (x + 1))) (xs (Int32.toNatClampNeg (x + 2))) H.size hI10) (cwV 2 hg (gw_V gm_methodLink_RL_72_yX10_child gm_instanceMethod_yX10_child gm_selects_RX10_yX10_child_yX10_child gm_initialized_RX10 gm_code_yX10_child_cX10_child_5_some_int_) rfl rfl rfl (by decide +kernel) ⟨Nat.le_of_ble_eq_true rfl, Nat.le_of_ble_eq_true rfl⟩) ⟨fun a U g mk q => by obtain ⟨q0, q1, qP, qK, qD, qN⟩ := q; exact ⟨q0, q1, qP, va_K.moved (u := U) (U := U.calling g mk a) (Vm.Alike.refl U.vm) qK, qD, nx_same (u := U) (U := U.calling g mk a) rfl qN⟩, va_recv hKc hPc (ci := 10) (q0 := 0) rfl rfl, fun U hU hW => ⟨rfl, by rw [hU], by rw [hU]; exact hPc, va_K.moved hW.alike hKc, hDc.weaken (fun _ _ _ _ => trivial), nx_warm hW hN⟩⟩ rfl rfl hl.1 rfl (lv_room (Nat.le_of_ble_eq_true rfl)) dL_law_576 ⟨by show ce + 0 ≤ 600000; omega, by show se + 0 ≤ 7302250; omega⟩) hS (fun q _ h => hFc q h) hFc (fun r_3 u_4 t H1 locs ht hvm hw hB hz1 hk1 hS => ?_)
  obtain ⟨hP1, hD1⟩ := hB
  rw [ht] at hP1
  obtain ⟨hP, hD⟩ := va_appR hP hD hk1 hFc hP1 hD1
  have hP : va_P (dC, dI) vwCl (ws ++ (w10 hm X C (Fm 0) (Fm 1) (Fm 2) (Fm 3) (Fm 4) (Fm 5) (Fm 6) (Fm 7) (Fm 8) (Fm 10) (Fm 13) (Fm 14) (Fm 15) (Fm 16) (Fm 17) (Fm 18) (Fm 19) (Fm 20) (Fm 21) (Fm 22) (Fm 23) (Fm 24) (Fm 25) (Fm 26) (Fm 27) (Fm 28) (Fm 29) (Fm 30) (Fm 31) (Fm 32) (Fm 33) (Fm 34) (Fm 35) (Fm 36) (Fm 37) (Fm 38) (Fm 39) (Fm 40) (Fm 41) (Fm 42) (Fm 43) (Fm 49) (Fm 50) (Fm 51) (Fm 52) (Fm 53) (Fm 54) (Fm 55) (Fm 56) (Fm 57) (Fm 58) (Fm 59) (nm 9) (nm 11) (nm 12) (nm 44) (nm 45) (nm 46) (nm 47) (nm 48))) H1 := hP
  have hD : va_D A (ws ++ (w10 hm X C (Fm 0) (Fm 1) (Fm 2) (Fm 3) (Fm 4) (Fm 5) (Fm 6) (Fm 7) (Fm 8) (Fm 10) (Fm 13) (Fm 14) (Fm 15) (Fm 16) (Fm 17) (Fm 18) (Fm 19) (Fm 20) (Fm 21) (Fm 22) (Fm 23) (Fm 24) (Fm 25) (Fm 26) (Fm 27) (Fm 28) (Fm 29) (Fm 30) (Fm 31) (Fm 32) (Fm 33) (Fm 34) (Fm 35) (Fm 36) (Fm 37) (Fm 38) (Fm 39) (Fm 40) (Fm 41) (Fm 42) (Fm 43) (Fm 49) (Fm 50) (Fm 51) (Fm 52) (Fm 53) (Fm 54) (Fm 55) (Fm 56) (Fm 57) (Fm 58) (Fm 59) (nm 9) (nm 11) (nm 12) (nm 44) (nm 45) (nm 46) (nm 47) (nm 48))) := hD
  refine W.widen (k := ce) (n := se) (Nat.le_refl _) (Nat.le_refl _) ?_
  clear hk1 hz1
  generalize H1 = H at hP hS ⊢
  refine lv_pop hx hb dL_law_579 rfl ?_
  refine lv_goto (tgt := 761) hx hb dL_law_580 (by decide) ?_
  obtain ⟨y, ey⟩ : ∃ q : Int32, q = x + 5 := ⟨_, rfl⟩
  refine lv_iinc (v := y) (lv' := [(3, .int y), (2, .ref hm), (1, .ref (ad 0)), (0, .ref b)]) hx hb dL_law_761 hl (k := 0) rfl (by rw [ey]; rfl) (by decide) rfl (fun ls hl => ?_)
  have ty : y.toInt = x.toInt + 5 := ar_add rfl ti_5 ey (by omega)
  refine lv_goto (tgt := 18) hx hb dL_law_764 (by decide) ?_
  exact ih y ws ad ga gc M n f T G K F Fm nm ce se H locs ls (by omega) ⟨hQ, I9.mono (R := 600 * k) hI (by omega), I10_mono (k := 40000 * (k : Int)) hI10 (by omega), hRel.more (by omega) (by omega), by omega, by omega⟩ hP hD hS (lv_sub hl [0, 1, 2, 3] rfl)

set_option maxHeartbeats 8000000 in
set_option maxRecDepth 100000 in
theorem law_c13 {p : Program} {e : Env} {s : State} {m : MethodId} {below : List Frame} {meth : Method} {c : Code} (l : Launch) {A : Nat → Prop} {b L : Nat} {xs : Nat → Int32} (hL : L ≤ 2560) (C0 : lw_At p s m meth c b L xs) (hA : ∀ q : Nat, s.heap.size ≤ q → A q) (hAf : ∀ q : Nat, A q → s.heap.size ≤ q) (hbA : ¬ A b) (hN : nx s) {dC : Nat → ClassId} {dI : Nat → Nat → Nat} (kc : Nat → ClassId) (hm : Nat) (X : Nat → Nat) (C : Nat → ClassId) (hK : va_K (dC, dI) vwCl (t9 kc ++ t10 C) s) {k : Nat} (hk5 : 5 * k + 5 ≤ L) (ih : LH p l e s m below meth c b A dC dI kc hm X C (k + 1)) (x : Int32) (ws : va_W) (ad : Nat → Nat) (ga : Nat → Nat) (gc : Nat → Nat) (M : Nat) (n : Nat → Int32) (f : Nat → Nat → Int32) (T : Nat → Option Nat) (G : Nat → Nat → Int32) (K : Nat → Nat → Option Nat) (F : Nat → Nat → Nat → Int32) (Fm : Nat → Nat → Int32) (nm : Nat → Int32) (ce se : Nat) (H : Heap) (locs : List Loc) (ls : Array Slot) (hxk : x.toInt = 5 * (k : Int)) (hLF : LF kc ws ad ga gc M n f T G K F Fm nm ce se k) (hP : va_P (dC, dI) vwCl (ws ++ (w10 hm X C (Fm 0) (Fm 1) (Fm 2) (Fm 3) (Fm 4) (Fm 5) (Fm 6) (Fm 7) (Fm 8) (Fm 10) (Fm 13) (Fm 14) (Fm 15) (Fm 16) (Fm 17) (Fm 18) (Fm 19) (Fm 20) (Fm 21) (Fm 22) (Fm 23) (Fm 24) (Fm 25) (Fm 26) (Fm 27) (Fm 28) (Fm 29) (Fm 30) (Fm 31) (Fm 32) (Fm 33) (Fm 34) (Fm 35) (Fm 36) (Fm 37) (Fm 38) (Fm 39) (Fm 40) (Fm 41) (Fm 42) (Fm 43) (Fm 49) (Fm 50) (Fm 51) (Fm 52) (Fm 53) (Fm 54) (Fm 55) (Fm 56) (Fm 57) (Fm 58) (Fm 59) (nm 9) (nm 11) (nm 12) (nm 44) (nm 45) (nm 46) (nm 47) (nm 48))) H) (hD : va_D A (ws ++ (w10 hm X C (Fm 0) (Fm 1) (Fm 2) (Fm 3) (Fm 4) (Fm 5) (Fm 6) (Fm 7) (Fm 8) (Fm 10) (Fm 13) (Fm 14) (Fm 15) (Fm 16) (Fm 17) (Fm 18) (Fm 19) (Fm 20) (Fm 21) (Fm 22) (Fm 23) (Fm 24) (Fm 25) (Fm 26) (Fm 27) (Fm 28) (Fm 29) (Fm 30) (Fm 31) (Fm 32) (Fm 33) (Fm 34) (Fm 35) (Fm 36) (Fm 37) (Fm 38) (Fm 39) (Fm 40) (Fm 41) (Fm 42) (Fm 43) (Fm 49) (Fm 50) (Fm 51) (Fm 52) (Fm 53) (Fm 54) (Fm 55) (Fm 56) (Fm 57) (Fm 58) (Fm 59) (nm 9) (nm 11) (nm 12) (nm 44) (nm 45) (nm 46) (nm 47) (nm 48)))) (hS : va_S A s.heap H locs) (hl : lv_has ls 4 [(3, .int x), (2, .ref hm), (1, .ref (ad 0)), (0, .ref b)]) : W p l e room_1 s m #[Value.ref b] below meth c H locs ce se (lw_Z below #[Value.ref b] s) (F0 m 583 ls []) := by
  obtain ⟨hx, hb, hr, hml, hown, hts, hX, hbl, hlocks, hgv⟩ := id C0
  have hg : ∀ w ∈ gw, w.before _ s = true := fun w h => hts w (gw_tbl w h)
  obtain ⟨hQ, hI, hI10, hRel, hr1, hr2⟩ := id hLF
  have qn_ := I10_n11 hI10
  have q1_ := hI.1
  unfold i1 at q1_
  have hSl := S9_le hI.2.2.2.2.2.2.2.1 hI.2.2.2.2.2.2.2.2.1
  have tx1 : (x + 1).toInt = x.toInt + 1 := ar_add rfl ti_1 rfl (by omega)
  have tx2 : (x + 2).toInt = x.toInt + 2 := ar_add rfl ti_2 rfl (by omega)
  have tx3 : (x + 3).toInt = x.toInt + 3 := ar_add rfl ti_3 rfl (by omega)
  have tx4 : (x + 4).toInt = x.toInt + 4 := ar_add rfl ti_4 rfl (by omega)
  refine lv_aload_n hx hb dL_law_583 rfl (lv_at hl 2 rfl) ?_
  refine lv_aload_n hx hb dL_law_584 rfl (lv_at hl 3 rfl) ?_
  refine lv_iload_n hx hb dL_law_585 rfl (lv_at hl 0 rfl) ?_
  refine lv_iconst (v := 1) hx hb dL_law_586 (by decide) ?_
  refine lv_iadd hx hb dL_law_587 ?_
  refine va_sld hx hb hX hbl hbA hS (vp_in_iff.mpr ⟨by omega, by omega⟩) dL_law_588 ?_
  refine lv_aload_n hx hb dL_law_589 rfl (lv_at hl 3 rfl) ?_
  refine lv_iload_n hx hb dL_law_590 rfl (lv_at hl 0 rfl) ?_
  refine lv_iconst (v := 2) hx hb dL_law_591 (by decide) ?_
  refine lv_iadd hx hb dL_law_592 ?_
  refine va_sld hx hb hX hbl hbA hS (vp_in_iff.mpr ⟨by omega, by omega⟩) dL_law_593 ?_
  have hPc := pl_P hP
  have hDc := pl_D hD
  have hKc := hK.sub (tys' := t9 kc) [0, 1, 2, 3] rfl
  have hFc := free_all hDc hS hA
  refine W_msr2 (fun hm1 hm2 hm3 => ?_)
  refine va_calli (va_runV (As := [.int (xs (Int32.toNatClampNeg (x + 1))), .int (xs (Int32.toNatClampNeg (x + 2)))]) (rest := []) ⟨hx, hb, hml, hown, hg⟩ (c_X9_value l dC dI kc ws ad ga gc M n f T G K F (600 * k) (xs (Int32.toNatClampNeg (x + 1))) (xs (Int32.toNatClampNeg (x + 2))) H.size (hpS H) hQ hI) (cwV 2 hg (gw_V gm_methodLink_RL_73_yX9_value gm_instanceMethod_yX9_value gm_selects_RX9_yX9_value_yX9_value gm_initialized_RX9 gm_code_yX9_value_cX9_value_4_some_int_) rfl rfl rfl (by decide +kernel) ⟨Nat.le_of_ble_eq_true rfl, Nat.le_of_ble_eq_true rfl⟩) ⟨fun a U g mk q => by obtain ⟨q0, q1, q2, qP, qK, qD, qN⟩ := q; exact ⟨q0, q1, q2, qP, va_K.moved (u := U) (U := U.calling g mk a) (Vm.Alike.refl U.vm) qK, qD, nx_same (u := U) (U := U.calling g mk a) rfl qN⟩, va_recv hKc hPc (ci := 9) (q0 := 0) rfl hQ.x0, fun U hU hW => ⟨rfl, by rw [hU], by rw [hU], by rw [hU]; exact hPc, va_K.moved hW.alike hKc, hDc.weaken (fun _ _ _ _ => trivial), nx_warm hW hN⟩⟩ rfl rfl hl.1 rfl (lv_room (Nat.le_of_ble_eq_true rfl)) dL_law_594 ⟨by show ce + 0 ≤ 600000; omega, by show se + 0 ≤ 7302250; omega⟩) hS (fun q _ h => hFc q h) hFc (fun r_1 u_2 t H1 locs ht hvm hw hB hz1 hk1 hS => ?_)
  obtain ⟨hP1, hD1, hy1, hy2⟩ := hB
  rw [ht] at hP1 hy1 hy2
  obtain ⟨hP, hD⟩ := va_appL hP hD hk1 hFc hP1 hD1
  refine W.widen (k := ce) (n := se) (Nat.le_refl _) (Nat.le_refl _) ?_
  generalize H1 = H at hP hS ⊢
  refine lv_pop hx hb dL_law_597 rfl ?_
  refine lv_aload_n hx hb dL_law_598 rfl (lv_at hl 1 rfl) ?_
  refine lv_aload_n hx hb dL_law_599 rfl (lv_at hl 3 rfl) ?_
  refine lv_iload_n hx hb dL_law_600 rfl (lv_at hl 0 rfl) ?_
  refine lv_iconst (v := 1) hx hb dL_law_601 (by decide) ?_
  refine lv_iadd hx hb dL_law_602 ?_
  refine va_sld hx hb hX hbl hbA hS (vp_in_iff.mpr ⟨by omega, by omega⟩) dL_law_603 ?_
  refine lv_aload_n hx hb dL_law_604 rfl (lv_at hl 3 rfl) ?_
  refine lv_iload_n hx hb dL_law_605 rfl (lv_at hl 0 rfl) ?_
  refine lv_iconst (v := 2) hx hb dL_law_606 (by decide) ?_
  refine lv_iadd hx hb dL_law_607 ?_
  refine va_sld hx hb hX hbl hbA hS (vp_in_iff.mpr ⟨by omega, by omega⟩) dL_law_608 ?_
  have hPc := pr_P hP
  have hDc := pr_D hD
  have hKc := hK.sub (tys' := t10 C) [4, 5, 6, 7, 8, 9, 10, 11, 12, 13, 14, 15, 16, 17, 18, 19, 20, 21, 22, 23, 24, 25, 26, 27, 28, 29, 30, 31, 32, 33, 34, 35, 36, 37, 38, 39, 40, 41, 42, 43, 44, 45, 46, 47, 48, 49, 50, 51, 52, 53, 54, 55] rfl
  have hFc := free_all hDc hS hA
  refine va_calli (va_runV (As := [.int (xs (Int32.toNatClampNeg (x + 1))), .int (xs (Int32.toNatClampNeg (x + 2)))]) (rest := []) ⟨hx, hb, hml, hown, hg⟩ (c_X10_value l dC dI (40000 * (k : Int)) hm X C Fm nm (xs (Int32.toNatClampNeg (x + 1))) (xs (Int32.toNatClampNeg (x + 2))) H.size hI10) (cwV 2 hg (gw_V gm_methodLink_RL_76_yX10_value gm_instanceMethod_yX10_value gm_selects_RX10_yX10_value_yX10_value gm_initialized_RX10 gm_code_yX10_value_cX10_value_3_some_int_) rfl rfl rfl (by decide +kernel) ⟨Nat.le_of_ble_eq_true rfl, Nat.le_of_ble_eq_true rfl⟩) ⟨fun a U g mk q => by obtain ⟨q0, q1, qP, qK, qD, qN⟩ := q; exact ⟨q0, q1, qP, va_K.moved (u := U) (U := U.calling g mk a) (Vm.Alike.refl U.vm) qK, qD, nx_same (u := U) (U := U.calling g mk a) rfl qN⟩, va_recv hKc hPc (ci := 10) (q0 := 0) rfl rfl, fun U hU hW => ⟨rfl, by rw [hU], by rw [hU]; exact hPc, va_K.moved hW.alike hKc, hDc.weaken (fun _ _ _ _ => trivial), nx_warm hW hN⟩⟩ rfl rfl hl.1 rfl (lv_room (Nat.le_of_ble_eq_true rfl)) dL_law_609 ⟨by show ce + 0 ≤ 600000; omega, by show se + 0 ≤ 7302250; omega⟩) hS (fun q _ h => hFc q h) hFc (fun r_3 u_4 t H1 locs ht hvm hw hB hz1 hk1 hS => ?_)
  obtain ⟨hP1, hD1⟩ := hB
  rw [ht] at hP1
  obtain ⟨hP, hD⟩ := va_appR hP hD hk1 hFc hP1 hD1
  have hP : va_P (dC, dI) vwCl (ws ++ (w10 hm X C (Fm 0) (Fm 1) (Fm 2) (Fm 3) (Fm 4) (Fm 5) (Fm 6) (Fm 7) (Fm 8) (Fm 10) (Fm 13) (Fm 14) (Fm 15) (Fm 16) (Fm 17) (Fm 18) (Fm 19) (Fm 20) (Fm 21) (Fm 22) (Fm 23) (Fm 24) (Fm 25) (Fm 26) (Fm 27) (Fm 28) (Fm 29) (Fm 30) (Fm 31) (Fm 32) (Fm 33) (Fm 34) (Fm 35) (Fm 36) (Fm 37) (Fm 38) (Fm 39) (Fm 40) (Fm 41) (Fm 42) (Fm 43) (Fm 49) (Fm 50) (Fm 51) (Fm 52) (Fm 53) (Fm 54) (Fm 55) (Fm 56) (Fm 57) (Fm 58) (Fm 59) (nm 9) (nm 11) (nm 12) (nm 44) (nm 45) (nm 46) (nm 47) (nm 48))) H1 := hP
  have hD : va_D A (ws ++ (w10 hm X C (Fm 0) (Fm 1) (Fm 2) (Fm 3) (Fm 4) (Fm 5) (Fm 6) (Fm 7) (Fm 8) (Fm 10) (Fm 13) (Fm 14) (Fm 15) (Fm 16) (Fm 17) (Fm 18) (Fm 19) (Fm 20) (Fm 21) (Fm 22) (Fm 23) (Fm 24) (Fm 25) (Fm 26) (Fm 27) (Fm 28) (Fm 29) (Fm 30) (Fm 31) (Fm 32) (Fm 33) (Fm 34) (Fm 35) (Fm 36) (Fm 37) (Fm 38) (Fm 39) (Fm 40) (Fm 41) (Fm 42) (Fm 43) (Fm 49) (Fm 50) (Fm 51) (Fm 52) (Fm 53) (Fm 54) (Fm 55) (Fm 56) (Fm 57) (Fm 58) (Fm 59) (nm 9) (nm 11) (nm 12) (nm 44) (nm 45) (nm 46) (nm 47) (nm 48))) := hD
  refine W.widen (k := ce) (n := se) (Nat.le_refl _) (Nat.le_refl _) ?_
  clear hk1 hz1
  generalize H1 = H at hP hS ⊢
  refine lv_pop hx hb dL_law_612 rfl ?_
  refine lv_goto (tgt := 761) hx hb dL_law_613 (by decide) ?_
  obtain ⟨y, ey⟩ : ∃ q : Int32, q = x + 5 := ⟨_, rfl⟩
  refine lv_iinc (v := y) (lv' := [(3, .int y), (2, .ref hm), (1, .ref (ad 0)), (0, .ref b)]) hx hb dL_law_761 hl (k := 0) rfl (by rw [ey]; rfl) (by decide) rfl (fun ls hl => ?_)
  have ty : y.toInt = x.toInt + 5 := ar_add rfl ti_5 ey (by omega)
  refine lv_goto (tgt := 18) hx hb dL_law_764 (by decide) ?_
  exact ih y ws ad ga gc M n f T G K F Fm nm ce se H locs ls (by omega) ⟨hQ, I9.mono (R := 600 * k) hI (by omega), I10_mono (k := 40000 * (k : Int)) hI10 (by omega), hRel.more (by omega) (by omega), by omega, by omega⟩ hP hD hS (lv_sub hl [0, 1, 2, 3] rfl)

set_option maxHeartbeats 8000000 in
set_option maxRecDepth 100000 in
theorem law_c14 {p : Program} {e : Env} {s : State} {m : MethodId} {below : List Frame} {meth : Method} {c : Code} (l : Launch) {A : Nat → Prop} {b L : Nat} {xs : Nat → Int32} (hL : L ≤ 2560) (C0 : lw_At p s m meth c b L xs) (hA : ∀ q : Nat, s.heap.size ≤ q → A q) (hAf : ∀ q : Nat, A q → s.heap.size ≤ q) (hbA : ¬ A b) (hN : nx s) {dC : Nat → ClassId} {dI : Nat → Nat → Nat} (kc : Nat → ClassId) (hm : Nat) (X : Nat → Nat) (C : Nat → ClassId) (hK : va_K (dC, dI) vwCl (t9 kc ++ t10 C) s) {k : Nat} (hk5 : 5 * k + 5 ≤ L) (ih : LH p l e s m below meth c b A dC dI kc hm X C (k + 1)) (x : Int32) (ws : va_W) (ad : Nat → Nat) (ga : Nat → Nat) (gc : Nat → Nat) (M : Nat) (n : Nat → Int32) (f : Nat → Nat → Int32) (T : Nat → Option Nat) (G : Nat → Nat → Int32) (K : Nat → Nat → Option Nat) (F : Nat → Nat → Nat → Int32) (Fm : Nat → Nat → Int32) (nm : Nat → Int32) (ce se : Nat) (H : Heap) (locs : List Loc) (ls : Array Slot) (hxk : x.toInt = 5 * (k : Int)) (hLF : LF kc ws ad ga gc M n f T G K F Fm nm ce se k) (hP : va_P (dC, dI) vwCl (ws ++ (w10 hm X C (Fm 0) (Fm 1) (Fm 2) (Fm 3) (Fm 4) (Fm 5) (Fm 6) (Fm 7) (Fm 8) (Fm 10) (Fm 13) (Fm 14) (Fm 15) (Fm 16) (Fm 17) (Fm 18) (Fm 19) (Fm 20) (Fm 21) (Fm 22) (Fm 23) (Fm 24) (Fm 25) (Fm 26) (Fm 27) (Fm 28) (Fm 29) (Fm 30) (Fm 31) (Fm 32) (Fm 33) (Fm 34) (Fm 35) (Fm 36) (Fm 37) (Fm 38) (Fm 39) (Fm 40) (Fm 41) (Fm 42) (Fm 43) (Fm 49) (Fm 50) (Fm 51) (Fm 52) (Fm 53) (Fm 54) (Fm 55) (Fm 56) (Fm 57) (Fm 58) (Fm 59) (nm 9) (nm 11) (nm 12) (nm 44) (nm 45) (nm 46) (nm 47) (nm 48))) H) (hD : va_D A (ws ++ (w10 hm X C (Fm 0) (Fm 1) (Fm 2) (Fm 3) (Fm 4) (Fm 5) (Fm 6) (Fm 7) (Fm 8) (Fm 10) (Fm 13) (Fm 14) (Fm 15) (Fm 16) (Fm 17) (Fm 18) (Fm 19) (Fm 20) (Fm 21) (Fm 22) (Fm 23) (Fm 24) (Fm 25) (Fm 26) (Fm 27) (Fm 28) (Fm 29) (Fm 30) (Fm 31) (Fm 32) (Fm 33) (Fm 34) (Fm 35) (Fm 36) (Fm 37) (Fm 38) (Fm 39) (Fm 40) (Fm 41) (Fm 42) (Fm 43) (Fm 49) (Fm 50) (Fm 51) (Fm 52) (Fm 53) (Fm 54) (Fm 55) (Fm 56) (Fm 57) (Fm 58) (Fm 59) (nm 9) (nm 11) (nm 12) (nm 44) (nm 45) (nm 46) (nm 47) (nm 48)))) (hS : va_S A s.heap H locs) (hl : lv_has ls 4 [(3, .int x), (2, .ref hm), (1, .ref (ad 0)), (0, .ref b)]) : W p l e room_1 s m #[Value.ref b] below meth c H locs ce se (lw_Z below #[Value.ref b] s) (F0 m 616 ls []) := by
  obtain ⟨hx, hb, hr, hml, hown, hts, hX, hbl, hlocks, hgv⟩ := id C0
  have hg : ∀ w ∈ gw, w.before _ s = true := fun w h => hts w (gw_tbl w h)
  obtain ⟨hQ, hI, hI10, hRel, hr1, hr2⟩ := id hLF
  have qn_ := I10_n11 hI10
  have q1_ := hI.1
  unfold i1 at q1_
  have hSl := S9_le hI.2.2.2.2.2.2.2.1 hI.2.2.2.2.2.2.2.2.1
  have tx1 : (x + 1).toInt = x.toInt + 1 := ar_add rfl ti_1 rfl (by omega)
  have tx2 : (x + 2).toInt = x.toInt + 2 := ar_add rfl ti_2 rfl (by omega)
  have tx3 : (x + 3).toInt = x.toInt + 3 := ar_add rfl ti_3 rfl (by omega)
  have tx4 : (x + 4).toInt = x.toInt + 4 := ar_add rfl ti_4 rfl (by omega)
  refine lv_aload_n hx hb dL_law_616 rfl (lv_at hl 2 rfl) ?_
  refine lv_aload_n hx hb dL_law_617 rfl (lv_at hl 3 rfl) ?_
  refine lv_iload_n hx hb dL_law_618 rfl (lv_at hl 0 rfl) ?_
  refine lv_iconst (v := 1) hx hb dL_law_619 (by decide) ?_
  refine lv_iadd hx hb dL_law_620 ?_
  refine va_sld hx hb hX hbl hbA hS (vp_in_iff.mpr ⟨by omega, by omega⟩) dL_law_621 ?_
  refine lv_aload_n hx hb dL_law_622 rfl (lv_at hl 3 rfl) ?_
  refine lv_iload_n hx hb dL_law_623 rfl (lv_at hl 0 rfl) ?_
  refine lv_iconst (v := 2) hx hb dL_law_624 (by decide) ?_
  refine lv_iadd hx hb dL_law_625 ?_
  refine va_sld hx hb hX hbl hbA hS (vp_in_iff.mpr ⟨by omega, by omega⟩) dL_law_626 ?_
  have hPc := pl_P hP
  have hDc := pl_D hD
  have hKc := hK.sub (tys' := t9 kc) [0, 1, 2, 3] rfl
  have hFc := free_all hDc hS hA
  refine W_msr2 (fun hm1 hm2 hm3 => ?_)
  refine va_calli (va_runV (As := [.int (xs (Int32.toNatClampNeg (x + 1))), .int (xs (Int32.toNatClampNeg (x + 2)))]) (rest := []) ⟨hx, hb, hml, hown, hg⟩ (c_X9_seen l dC dI kc ws ad ga gc M n f T G K F (600 * k) (xs (Int32.toNatClampNeg (x + 1))) (xs (Int32.toNatClampNeg (x + 2))) H.size (hpS H) hQ hI) (cwV 2 hg (gw_V gm_methodLink_RL_77_yX9_seen gm_instanceMethod_yX9_seen gm_selects_RX9_yX9_seen_yX9_seen gm_initialized_RX9 gm_code_yX9_seen_cX9_seen_3_some_int_) rfl rfl rfl (by decide +kernel) ⟨Nat.le_of_ble_eq_true rfl, Nat.le_of_ble_eq_true rfl⟩) ⟨fun a U g mk q => by obtain ⟨q0, q1, q2, qP, qK, qD, qN⟩ := q; exact ⟨q0, q1, q2, qP, va_K.moved (u := U) (U := U.calling g mk a) (Vm.Alike.refl U.vm) qK, qD, nx_same (u := U) (U := U.calling g mk a) rfl qN⟩, va_recv hKc hPc (ci := 9) (q0 := 0) rfl hQ.x0, fun U hU hW => ⟨rfl, by rw [hU], by rw [hU], by rw [hU]; exact hPc, va_K.moved hW.alike hKc, hDc.weaken (fun _ _ _ _ => trivial), nx_warm hW hN⟩⟩ rfl rfl hl.1 rfl (lv_room (Nat.le_of_ble_eq_true rfl)) dL_law_627 ⟨by show ce + 0 ≤ 600000; omega, by show se + 0 ≤ 7302250; omega⟩) hS (fun q _ h => hFc q h) hFc (fun r_1 u_2 t H1 locs ht hvm hw hB hz1 hk1 hS => ?_)
  obtain ⟨hP1, hD1, hy1, hy2⟩ := hB
  rw [ht] at hP1 hy1 hy2
  obtain ⟨hP, hD⟩ := va_appL hP hD hk1 hFc hP1 hD1
  refine W.widen (k := ce) (n := se) (Nat.le_refl _) (Nat.le_refl _) ?_
  generalize H1 = H at hP hS ⊢
  refine lv_pop hx hb dL_law_630 rfl ?_
  refine lv_aload_n hx hb dL_law_631 rfl (lv_at hl 1 rfl) ?_
  refine lv_aload_n hx hb dL_law_632 rfl (lv_at hl 3 rfl) ?_
  refine lv_iload_n hx hb dL_law_633 rfl (lv_at hl 0 rfl) ?_
  refine lv_iconst (v := 1) hx hb dL_law_634 (by decide) ?_
  refine lv_iadd hx hb dL_law_635 ?_
  refine va_sld hx hb hX hbl hbA hS (vp_in_iff.mpr ⟨by omega, by omega⟩) dL_law_636 ?_
  refine lv_aload_n hx hb dL_law_637 rfl (lv_at hl 3 rfl) ?_
  refine lv_iload_n hx hb dL_law_638 rfl (lv_at hl 0 rfl) ?_
  refine lv_iconst (v := 2) hx hb dL_law_639 (by decide) ?_
  refine lv_iadd hx hb dL_law_640 ?_
  refine va_sld hx hb hX hbl hbA hS (vp_in_iff.mpr ⟨by omega, by omega⟩) dL_law_641 ?_
  have hPc := pr_P hP
  have hDc := pr_D hD
  have hKc := hK.sub (tys' := t10 C) [4, 5, 6, 7, 8, 9, 10, 11, 12, 13, 14, 15, 16, 17, 18, 19, 20, 21, 22, 23, 24, 25, 26, 27, 28, 29, 30, 31, 32, 33, 34, 35, 36, 37, 38, 39, 40, 41, 42, 43, 44, 45, 46, 47, 48, 49, 50, 51, 52, 53, 54, 55] rfl
  have hFc := free_all hDc hS hA
  refine va_calli (va_runV (As := [.int (xs (Int32.toNatClampNeg (x + 1))), .int (xs (Int32.toNatClampNeg (x + 2)))]) (rest := []) ⟨hx, hb, hml, hown, hg⟩ (c_X10_seen l dC dI (40000 * (k : Int)) hm X C Fm nm (xs (Int32.toNatClampNeg (x + 1))) (xs (Int32.toNatClampNeg (x + 2))) H.size hI10) (cwV 2 hg (gw_V gm_methodLink_RL_80_yX10_seen gm_instanceMethod_yX10_seen gm_selects_RX10_yX10_seen_yX10_seen gm_initialized_RX10 gm_code_yX10_seen_cX10_seen_3_some_int_) rfl rfl rfl (by decide +kernel) ⟨Nat.le_of_ble_eq_true rfl, Nat.le_of_ble_eq_true rfl⟩) ⟨fun a U g mk q => by obtain ⟨q0, q1, qP, qK, qD, qN⟩ := q; exact ⟨q0, q1, qP, va_K.moved (u := U) (U := U.calling g mk a) (Vm.Alike.refl U.vm) qK, qD, nx_same (u := U) (U := U.calling g mk a) rfl qN⟩, va_recv hKc hPc (ci := 10) (q0 := 0) rfl rfl, fun U hU hW => ⟨rfl, by rw [hU], by rw [hU]; exact hPc, va_K.moved hW.alike hKc, hDc.weaken (fun _ _ _ _ => trivial), nx_warm hW hN⟩⟩ rfl rfl hl.1 rfl (lv_room (Nat.le_of_ble_eq_true rfl)) dL_law_642 ⟨by show ce + 0 ≤ 600000; omega, by show se + 0 ≤ 7302250; omega⟩) hS (fun q _ h => hFc q h) hFc (fun r_3 u_4 t H1 locs ht hvm hw hB hz1 hk1 hS => ?_)
  obtain ⟨hP1, hD1⟩ := hB
  rw [ht] at hP1
  obtain ⟨hP, hD⟩ := va_appR hP hD hk1 hFc hP1 hD1
  have hP : va_P (dC, dI) vwCl (ws ++ (w10 hm X C (Fm 0) (Fm 1) (Fm 2) (Fm 3) (Fm 4) (Fm 5) (Fm 6) (Fm 7) (Fm 8) (Fm 10) (Fm 13) (Fm 14) (Fm 15) (Fm 16) (Fm 17) (Fm 18) (Fm 19) (Fm 20) (Fm 21) (Fm 22) (Fm 23) (Fm 24) (Fm 25) (Fm 26) (Fm 27) (Fm 28) (Fm 29) (Fm 30) (Fm 31) (Fm 32) (Fm 33) (Fm 34) (Fm 35) (Fm 36) (Fm 37) (Fm 38) (Fm 39) (Fm 40) (Fm 41) (Fm 42) (Fm 43) (Fm 49) (Fm 50) (Fm 51) (Fm 52) (Fm 53) (Fm 54) (Fm 55) (Fm 56) (Fm 57) (Fm 58) (Fm 59) (nm 9) (nm 11) (nm 12) (nm 44) (nm 45) (nm 46) (nm 47) (nm 48))) H1 := hP
  have hD : va_D A (ws ++ (w10 hm X C (Fm 0) (Fm 1) (Fm 2) (Fm 3) (Fm 4) (Fm 5) (Fm 6) (Fm 7) (Fm 8) (Fm 10) (Fm 13) (Fm 14) (Fm 15) (Fm 16) (Fm 17) (Fm 18) (Fm 19) (Fm 20) (Fm 21) (Fm 22) (Fm 23) (Fm 24) (Fm 25) (Fm 26) (Fm 27) (Fm 28) (Fm 29) (Fm 30) (Fm 31) (Fm 32) (Fm 33) (Fm 34) (Fm 35) (Fm 36) (Fm 37) (Fm 38) (Fm 39) (Fm 40) (Fm 41) (Fm 42) (Fm 43) (Fm 49) (Fm 50) (Fm 51) (Fm 52) (Fm 53) (Fm 54) (Fm 55) (Fm 56) (Fm 57) (Fm 58) (Fm 59) (nm 9) (nm 11) (nm 12) (nm 44) (nm 45) (nm 46) (nm 47) (nm 48))) := hD
  refine W.widen (k := ce) (n := se) (Nat.le_refl _) (Nat.le_refl _) ?_
  clear hk1 hz1
  generalize H1 = H at hP hS ⊢
  refine lv_pop hx hb dL_law_645 rfl ?_
  refine lv_goto (tgt := 761) hx hb dL_law_646 (by decide) ?_
  obtain ⟨y, ey⟩ : ∃ q : Int32, q = x + 5 := ⟨_, rfl⟩
  refine lv_iinc (v := y) (lv' := [(3, .int y), (2, .ref hm), (1, .ref (ad 0)), (0, .ref b)]) hx hb dL_law_761 hl (k := 0) rfl (by rw [ey]; rfl) (by decide) rfl (fun ls hl => ?_)
  have ty : y.toInt = x.toInt + 5 := ar_add rfl ti_5 ey (by omega)
  refine lv_goto (tgt := 18) hx hb dL_law_764 (by decide) ?_
  exact ih y ws ad ga gc M n f T G K F Fm nm ce se H locs ls (by omega) ⟨hQ, I9.mono (R := 600 * k) hI (by omega), I10_mono (k := 40000 * (k : Int)) hI10 (by omega), hRel.more (by omega) (by omega), by omega, by omega⟩ hP hD hS (lv_sub hl [0, 1, 2, 3] rfl)

set_option maxHeartbeats 8000000 in
set_option maxRecDepth 100000 in
theorem law_c15 {p : Program} {e : Env} {s : State} {m : MethodId} {below : List Frame} {meth : Method} {c : Code} (l : Launch) {A : Nat → Prop} {b L : Nat} {xs : Nat → Int32} (hL : L ≤ 2560) (C0 : lw_At p s m meth c b L xs) (hA : ∀ q : Nat, s.heap.size ≤ q → A q) (hAf : ∀ q : Nat, A q → s.heap.size ≤ q) (hbA : ¬ A b) (hN : nx s) {dC : Nat → ClassId} {dI : Nat → Nat → Nat} (kc : Nat → ClassId) (hm : Nat) (X : Nat → Nat) (C : Nat → ClassId) (hK : va_K (dC, dI) vwCl (t9 kc ++ t10 C) s) {k : Nat} (hk5 : 5 * k + 5 ≤ L) (ih : LH p l e s m below meth c b A dC dI kc hm X C (k + 1)) (x : Int32) (ws : va_W) (ad : Nat → Nat) (ga : Nat → Nat) (gc : Nat → Nat) (M : Nat) (n : Nat → Int32) (f : Nat → Nat → Int32) (T : Nat → Option Nat) (G : Nat → Nat → Int32) (K : Nat → Nat → Option Nat) (F : Nat → Nat → Nat → Int32) (Fm : Nat → Nat → Int32) (nm : Nat → Int32) (ce se : Nat) (H : Heap) (locs : List Loc) (ls : Array Slot) (hxk : x.toInt = 5 * (k : Int)) (hLF : LF kc ws ad ga gc M n f T G K F Fm nm ce se k) (hP : va_P (dC, dI) vwCl (ws ++ (w10 hm X C (Fm 0) (Fm 1) (Fm 2) (Fm 3) (Fm 4) (Fm 5) (Fm 6) (Fm 7) (Fm 8) (Fm 10) (Fm 13) (Fm 14) (Fm 15) (Fm 16) (Fm 17) (Fm 18) (Fm 19) (Fm 20) (Fm 21) (Fm 22) (Fm 23) (Fm 24) (Fm 25) (Fm 26) (Fm 27) (Fm 28) (Fm 29) (Fm 30) (Fm 31) (Fm 32) (Fm 33) (Fm 34) (Fm 35) (Fm 36) (Fm 37) (Fm 38) (Fm 39) (Fm 40) (Fm 41) (Fm 42) (Fm 43) (Fm 49) (Fm 50) (Fm 51) (Fm 52) (Fm 53) (Fm 54) (Fm 55) (Fm 56) (Fm 57) (Fm 58) (Fm 59) (nm 9) (nm 11) (nm 12) (nm 44) (nm 45) (nm 46) (nm 47) (nm 48))) H) (hD : va_D A (ws ++ (w10 hm X C (Fm 0) (Fm 1) (Fm 2) (Fm 3) (Fm 4) (Fm 5) (Fm 6) (Fm 7) (Fm 8) (Fm 10) (Fm 13) (Fm 14) (Fm 15) (Fm 16) (Fm 17) (Fm 18) (Fm 19) (Fm 20) (Fm 21) (Fm 22) (Fm 23) (Fm 24) (Fm 25) (Fm 26) (Fm 27) (Fm 28) (Fm 29) (Fm 30) (Fm 31) (Fm 32) (Fm 33) (Fm 34) (Fm 35) (Fm 36) (Fm 37) (Fm 38) (Fm 39) (Fm 40) (Fm 41) (Fm 42) (Fm 43) (Fm 49) (Fm 50) (Fm 51) (Fm 52) (Fm 53) (Fm 54) (Fm 55) (Fm 56) (Fm 57) (Fm 58) (Fm 59) (nm 9) (nm 11) (nm 12) (nm 44) (nm 45) (nm 46) (nm 47) (nm 48)))) (hS : va_S A s.heap H locs) (hl : lv_has ls 4 [(3, .int x), (2, .ref hm), (1, .ref (ad 0)), (0, .ref b)]) : W p l e room_1 s m #[Value.ref b] below meth c H locs ce se (lw_Z below #[Value.ref b] s) (F0 m 649 ls []) := by
  obtain ⟨hx, hb, hr, hml, hown, hts, hX, hbl, hlocks, hgv⟩ := id C0
  have hg : ∀ w ∈ gw, w.before _ s = true := fun w h => hts w (gw_tbl w h)
  obtain ⟨hQ, hI, hI10, hRel, hr1, hr2⟩ := id hLF
  have qn_ := I10_n11 hI10
  have q1_ := hI.1
  unfold i1 at q1_
  have hSl := S9_le hI.2.2.2.2.2.2.2.1 hI.2.2.2.2.2.2.2.2.1
  have tx1 : (x + 1).toInt = x.toInt + 1 := ar_add rfl ti_1 rfl (by omega)
  have tx2 : (x + 2).toInt = x.toInt + 2 := ar_add rfl ti_2 rfl (by omega)
  have tx3 : (x + 3).toInt = x.toInt + 3 := ar_add rfl ti_3 rfl (by omega)
  have tx4 : (x + 4).toInt = x.toInt + 4 := ar_add rfl ti_4 rfl (by omega)
  refine lv_aload_n hx hb dL_law_649 rfl (lv_at hl 2 rfl) ?_
  refine lv_aload_n hx hb dL_law_650 rfl (lv_at hl 3 rfl) ?_
  refine lv_iload_n hx hb dL_law_651 rfl (lv_at hl 0 rfl) ?_
  refine lv_iconst (v := 1) hx hb dL_law_652 (by decide) ?_
  refine lv_iadd hx hb dL_law_653 ?_
  refine va_sld hx hb hX hbl hbA hS (vp_in_iff.mpr ⟨by omega, by omega⟩) dL_law_654 ?_
  refine lv_aload_n hx hb dL_law_655 rfl (lv_at hl 3 rfl) ?_
  refine lv_iload_n hx hb dL_law_656 rfl (lv_at hl 0 rfl) ?_
  refine lv_iconst (v := 2) hx hb dL_law_657 (by decide) ?_
  refine lv_iadd hx hb dL_law_658 ?_
  refine va_sld hx hb hX hbl hbA hS (vp_in_iff.mpr ⟨by omega, by omega⟩) dL_law_659 ?_
  have hPc := pl_P hP
  have hDc := pl_D hD
  have hKc := hK.sub (tys' := t9 kc) [0, 1, 2, 3] rfl
  have hFc := free_all hDc hS hA
  refine W_msr2 (fun hm1 hm2 hm3 => ?_)
  refine va_calli (va_runV (As := [.int (xs (Int32.toNatClampNeg (x + 1))), .int (xs (Int32.toNatClampNeg (x + 2)))]) (rest := []) ⟨hx, hb, hml, hown, hg⟩ (c_X9_remark l dC dI kc ws ad ga gc M n f T G K F (600 * k) (xs (Int32.toNatClampNeg (x + 1))) (xs (Int32.toNatClampNeg (x + 2))) H.size (hpS H) hQ hI (by show (600 * k) ≤ 310000; omega)) (cwV 2 hg (gw_V gm_methodLink_RL_81_yX9_remark gm_instanceMethod_yX9_remark gm_selects_RX9_yX9_remark_yX9_remark gm_initialized_RX9 gm_code_yX9_remark_cX9_remark_4_some_int_) rfl rfl rfl (by decide +kernel) ⟨Nat.le_of_ble_eq_true rfl, Nat.le_of_ble_eq_true rfl⟩) ⟨fun a U g mk q => by obtain ⟨q0, q1, q2, qP, qK, qD, qN⟩ := q; exact ⟨q0, q1, q2, qP, va_K.moved (u := U) (U := U.calling g mk a) (Vm.Alike.refl U.vm) qK, qD, nx_same (u := U) (U := U.calling g mk a) rfl qN⟩, va_recv hKc hPc (ci := 9) (q0 := 0) rfl hQ.x0, fun U hU hW => ⟨rfl, by rw [hU], by rw [hU], by rw [hU]; exact hPc, va_K.moved hW.alike hKc, hDc.weaken (fun _ _ _ _ => trivial), nx_warm hW hN⟩⟩ rfl rfl hl.1 rfl (lv_room (Nat.le_of_ble_eq_true rfl)) dL_law_660 ⟨by show ce + 0 ≤ 600000; omega, by show se + 0 ≤ 7302250; omega⟩) hS (fun q _ h => hFc q h) hFc (fun r_1 u_2 t H1 locs ht hvm hw hB hz1 hk1 hS => ?_)
  obtain ⟨hP1, hD1, hy1, hy2⟩ := hB
  rw [ht] at hP1 hy1 hy2
  obtain ⟨hP, hD⟩ := va_appL hP hD hk1 hFc hP1 hD1
  refine W.widen (k := ce) (n := se) (Nat.le_refl _) (Nat.le_refl _) ?_
  generalize H1 = H at hP hS ⊢
  refine lv_pop hx hb dL_law_663 rfl ?_
  refine lv_aload_n hx hb dL_law_664 rfl (lv_at hl 1 rfl) ?_
  refine lv_aload_n hx hb dL_law_665 rfl (lv_at hl 3 rfl) ?_
  refine lv_iload_n hx hb dL_law_666 rfl (lv_at hl 0 rfl) ?_
  refine lv_iconst (v := 1) hx hb dL_law_667 (by decide) ?_
  refine lv_iadd hx hb dL_law_668 ?_
  refine va_sld hx hb hX hbl hbA hS (vp_in_iff.mpr ⟨by omega, by omega⟩) dL_law_669 ?_
  refine lv_aload_n hx hb dL_law_670 rfl (lv_at hl 3 rfl) ?_
  refine lv_iload_n hx hb dL_law_671 rfl (lv_at hl 0 rfl) ?_
  refine lv_iconst (v := 2) hx hb dL_law_672 (by decide) ?_
  refine lv_iadd hx hb dL_law_673 ?_
  refine va_sld hx hb hX hbl hbA hS (vp_in_iff.mpr ⟨by omega, by omega⟩) dL_law_674 ?_
  have hPc := pr_P hP
  have hDc := pr_D hD
  have hKc := hK.sub (tys' := t10 C) [4, 5, 6, 7, 8, 9, 10, 11, 12, 13, 14, 15, 16, 17, 18, 19, 20, 21, 22, 23, 24, 25, 26, 27, 28, 29, 30, 31, 32, 33, 34, 35, 36, 37, 38, 39, 40, 41, 42, 43, 44, 45, 46, 47, 48, 49, 50, 51, 52, 53, 54, 55] rfl
  have hFc := free_all hDc hS hA
  refine va_calli (va_runV (As := [.int (xs (Int32.toNatClampNeg (x + 1))), .int (xs (Int32.toNatClampNeg (x + 2)))]) (rest := []) ⟨hx, hb, hml, hown, hg⟩ (c_X10_remark l dC dI (40000 * (k : Int)) hm X C Fm nm (xs (Int32.toNatClampNeg (x + 1))) (xs (Int32.toNatClampNeg (x + 2))) H.size hI10) (cwV 2 hg (gw_V gm_methodLink_RL_84_yX10_remark gm_instanceMethod_yX10_remark gm_selects_RX10_yX10_remark_yX10_remark gm_initialized_RX10 gm_code_yX10_remark_cX10_remark_5_some_int_) rfl rfl rfl (by decide +kernel) ⟨Nat.le_of_ble_eq_true rfl, Nat.le_of_ble_eq_true rfl⟩) ⟨fun a U g mk q => by obtain ⟨q0, q1, qP, qK, qD, qN⟩ := q; exact ⟨q0, q1, qP, va_K.moved (u := U) (U := U.calling g mk a) (Vm.Alike.refl U.vm) qK, qD, nx_same (u := U) (U := U.calling g mk a) rfl qN⟩, va_recv hKc hPc (ci := 10) (q0 := 0) rfl rfl, fun U hU hW => ⟨rfl, by rw [hU], by rw [hU]; exact hPc, va_K.moved hW.alike hKc, hDc.weaken (fun _ _ _ _ => trivial), nx_warm hW hN⟩⟩ rfl rfl hl.1 rfl (lv_room (Nat.le_of_ble_eq_true rfl)) dL_law_675 ⟨by show ce + 0 ≤ 600000; omega, by show se + 0 ≤ 7302250; omega⟩) hS (fun q _ h => hFc q h) hFc (fun r_3 u_4 t H1 locs ht hvm hw hB hz1 hk1 hS => ?_)
  obtain ⟨hP1, hD1⟩ := hB
  rw [ht] at hP1
  obtain ⟨hP, hD⟩ := va_appR hP hD hk1 hFc hP1 hD1
  have hP : va_P (dC, dI) vwCl (ws ++ (w10 hm X C (Fm 0) (Fm 1) (Fm 2) (Fm 3) (Fm 4) (Fm 5) (Fm 6) (Fm 7) (Fm 8) (Fm 10) (Fm 13) (Fm 14) (Fm 15) (Fm 16) (Fm 17) (Fm 18) (Fm 19) (Fm 20) (Fm 21) (Fm 22) (Fm 23) (Fm 24) (Fm 25) (Fm 26) (Fm 27) (Fm 28) (Fm 29) (Fm 30) (Fm 31) (Fm 32) (Fm 33) (Fm 34) (Fm 35) (Fm 36) (Fm 37) (Fm 38) (Fm 39) (Fm 40) (Fm 41) (Fm 42) (Fm 43) (Fm 49) (Fm 50) (Fm 51) (Fm 52) (Fm 53) (Fm 54) (Fm 55) (Fm 56) (Fm 57) (Fm 58) (Fm 59) (nm 9) (nm 11) (nm 12) (nm 44) (nm 45) (nm 46) (nm 47) (nm 48))) H1 := hP
  have hD : va_D A (ws ++ (w10 hm X C (Fm 0) (Fm 1) (Fm 2) (Fm 3) (Fm 4) (Fm 5) (Fm 6) (Fm 7) (Fm 8) (Fm 10) (Fm 13) (Fm 14) (Fm 15) (Fm 16) (Fm 17) (Fm 18) (Fm 19) (Fm 20) (Fm 21) (Fm 22) (Fm 23) (Fm 24) (Fm 25) (Fm 26) (Fm 27) (Fm 28) (Fm 29) (Fm 30) (Fm 31) (Fm 32) (Fm 33) (Fm 34) (Fm 35) (Fm 36) (Fm 37) (Fm 38) (Fm 39) (Fm 40) (Fm 41) (Fm 42) (Fm 43) (Fm 49) (Fm 50) (Fm 51) (Fm 52) (Fm 53) (Fm 54) (Fm 55) (Fm 56) (Fm 57) (Fm 58) (Fm 59) (nm 9) (nm 11) (nm 12) (nm 44) (nm 45) (nm 46) (nm 47) (nm 48))) := hD
  refine W.widen (k := ce) (n := se) (Nat.le_refl _) (Nat.le_refl _) ?_
  clear hk1 hz1
  generalize H1 = H at hP hS ⊢
  refine lv_pop hx hb dL_law_678 rfl ?_
  refine lv_goto (tgt := 761) hx hb dL_law_679 (by decide) ?_
  obtain ⟨y, ey⟩ : ∃ q : Int32, q = x + 5 := ⟨_, rfl⟩
  refine lv_iinc (v := y) (lv' := [(3, .int y), (2, .ref hm), (1, .ref (ad 0)), (0, .ref b)]) hx hb dL_law_761 hl (k := 0) rfl (by rw [ey]; rfl) (by decide) rfl (fun ls hl => ?_)
  have ty : y.toInt = x.toInt + 5 := ar_add rfl ti_5 ey (by omega)
  refine lv_goto (tgt := 18) hx hb dL_law_764 (by decide) ?_
  exact ih y ws ad ga gc M n f T G K F Fm nm ce se H locs ls (by omega) ⟨hQ, I9.mono (R := 600 * k) hI (by omega), I10_mono (k := 40000 * (k : Int)) hI10 (by omega), hRel.more (by omega) (by omega), by omega, by omega⟩ hP hD hS (lv_sub hl [0, 1, 2, 3] rfl)

set_option maxHeartbeats 8000000 in
set_option maxRecDepth 100000 in
theorem law_c16 {p : Program} {e : Env} {s : State} {m : MethodId} {below : List Frame} {meth : Method} {c : Code} (l : Launch) {A : Nat → Prop} {b L : Nat} {xs : Nat → Int32} (hL : L ≤ 2560) (C0 : lw_At p s m meth c b L xs) (hA : ∀ q : Nat, s.heap.size ≤ q → A q) (hAf : ∀ q : Nat, A q → s.heap.size ≤ q) (hbA : ¬ A b) (hN : nx s) {dC : Nat → ClassId} {dI : Nat → Nat → Nat} (kc : Nat → ClassId) (hm : Nat) (X : Nat → Nat) (C : Nat → ClassId) (hK : va_K (dC, dI) vwCl (t9 kc ++ t10 C) s) {k : Nat} (hk5 : 5 * k + 5 ≤ L) (ih : LH p l e s m below meth c b A dC dI kc hm X C (k + 1)) (x : Int32) (ws : va_W) (ad : Nat → Nat) (ga : Nat → Nat) (gc : Nat → Nat) (M : Nat) (n : Nat → Int32) (f : Nat → Nat → Int32) (T : Nat → Option Nat) (G : Nat → Nat → Int32) (K : Nat → Nat → Option Nat) (F : Nat → Nat → Nat → Int32) (Fm : Nat → Nat → Int32) (nm : Nat → Int32) (ce se : Nat) (H : Heap) (locs : List Loc) (ls : Array Slot) (hxk : x.toInt = 5 * (k : Int)) (hLF : LF kc ws ad ga gc M n f T G K F Fm nm ce se k) (hP : va_P (dC, dI) vwCl (ws ++ (w10 hm X C (Fm 0) (Fm 1) (Fm 2) (Fm 3) (Fm 4) (Fm 5) (Fm 6) (Fm 7) (Fm 8) (Fm 10) (Fm 13) (Fm 14) (Fm 15) (Fm 16) (Fm 17) (Fm 18) (Fm 19) (Fm 20) (Fm 21) (Fm 22) (Fm 23) (Fm 24) (Fm 25) (Fm 26) (Fm 27) (Fm 28) (Fm 29) (Fm 30) (Fm 31) (Fm 32) (Fm 33) (Fm 34) (Fm 35) (Fm 36) (Fm 37) (Fm 38) (Fm 39) (Fm 40) (Fm 41) (Fm 42) (Fm 43) (Fm 49) (Fm 50) (Fm 51) (Fm 52) (Fm 53) (Fm 54) (Fm 55) (Fm 56) (Fm 57) (Fm 58) (Fm 59) (nm 9) (nm 11) (nm 12) (nm 44) (nm 45) (nm 46) (nm 47) (nm 48))) H) (hD : va_D A (ws ++ (w10 hm X C (Fm 0) (Fm 1) (Fm 2) (Fm 3) (Fm 4) (Fm 5) (Fm 6) (Fm 7) (Fm 8) (Fm 10) (Fm 13) (Fm 14) (Fm 15) (Fm 16) (Fm 17) (Fm 18) (Fm 19) (Fm 20) (Fm 21) (Fm 22) (Fm 23) (Fm 24) (Fm 25) (Fm 26) (Fm 27) (Fm 28) (Fm 29) (Fm 30) (Fm 31) (Fm 32) (Fm 33) (Fm 34) (Fm 35) (Fm 36) (Fm 37) (Fm 38) (Fm 39) (Fm 40) (Fm 41) (Fm 42) (Fm 43) (Fm 49) (Fm 50) (Fm 51) (Fm 52) (Fm 53) (Fm 54) (Fm 55) (Fm 56) (Fm 57) (Fm 58) (Fm 59) (nm 9) (nm 11) (nm 12) (nm 44) (nm 45) (nm 46) (nm 47) (nm 48)))) (hS : va_S A s.heap H locs) (hl : lv_has ls 4 [(3, .int x), (2, .ref hm), (1, .ref (ad 0)), (0, .ref b)]) : W p l e room_1 s m #[Value.ref b] below meth c H locs ce se (lw_Z below #[Value.ref b] s) (F0 m 682 ls []) := by
  obtain ⟨hx, hb, hr, hml, hown, hts, hX, hbl, hlocks, hgv⟩ := id C0
  have hg : ∀ w ∈ gw, w.before _ s = true := fun w h => hts w (gw_tbl w h)
  obtain ⟨hQ, hI, hI10, hRel, hr1, hr2⟩ := id hLF
  have qn_ := I10_n11 hI10
  have q1_ := hI.1
  unfold i1 at q1_
  have hSl := S9_le hI.2.2.2.2.2.2.2.1 hI.2.2.2.2.2.2.2.2.1
  have tx1 : (x + 1).toInt = x.toInt + 1 := ar_add rfl ti_1 rfl (by omega)
  have tx2 : (x + 2).toInt = x.toInt + 2 := ar_add rfl ti_2 rfl (by omega)
  have tx3 : (x + 3).toInt = x.toInt + 3 := ar_add rfl ti_3 rfl (by omega)
  have tx4 : (x + 4).toInt = x.toInt + 4 := ar_add rfl ti_4 rfl (by omega)
  refine lv_aload_n hx hb dL_law_682 rfl (lv_at hl 2 rfl) ?_
  refine lv_aload_n hx hb dL_law_683 rfl (lv_at hl 3 rfl) ?_
  refine lv_iload_n hx hb dL_law_684 rfl (lv_at hl 0 rfl) ?_
  refine lv_iconst (v := 1) hx hb dL_law_685 (by decide) ?_
  refine lv_iadd hx hb dL_law_686 ?_
  refine va_sld hx hb hX hbl hbA hS (vp_in_iff.mpr ⟨by omega, by omega⟩) dL_law_687 ?_
  refine lv_aload_n hx hb dL_law_688 rfl (lv_at hl 3 rfl) ?_
  refine lv_iload_n hx hb dL_law_689 rfl (lv_at hl 0 rfl) ?_
  refine lv_iconst (v := 2) hx hb dL_law_690 (by decide) ?_
  refine lv_iadd hx hb dL_law_691 ?_
  refine va_sld hx hb hX hbl hbA hS (vp_in_iff.mpr ⟨by omega, by omega⟩) dL_law_692 ?_
  have hPc := pl_P hP
  have hDc := pl_D hD
  have hKc := hK.sub (tys' := t9 kc) [0, 1, 2, 3] rfl
  have hFc := free_all hDc hS hA
  refine W_msr2 (fun hm1 hm2 hm3 => ?_)
  refine va_calli (va_runV (As := [.int (xs (Int32.toNatClampNeg (x + 1))), .int (xs (Int32.toNatClampNeg (x + 2)))]) (rest := []) ⟨hx, hb, hml, hown, hg⟩ (c_X9_handled l dC dI kc ws ad ga gc M n f T G K F (600 * k) (xs (Int32.toNatClampNeg (x + 1))) (xs (Int32.toNatClampNeg (x + 2))) H.size (hpS H) hQ hI) (cwV 2 hg (gw_V gm_methodLink_RL_85_yX9_handled gm_instanceMethod_yX9_handled gm_selects_RX9_yX9_handled_yX9_handled gm_initialized_RX9 gm_code_yX9_handled_cX9_handled_3_some_int_) rfl rfl rfl (by decide +kernel) ⟨Nat.le_of_ble_eq_true rfl, Nat.le_of_ble_eq_true rfl⟩) ⟨fun a U g mk q => by obtain ⟨q0, q1, q2, qP, qK, qD, qN⟩ := q; exact ⟨q0, q1, q2, qP, va_K.moved (u := U) (U := U.calling g mk a) (Vm.Alike.refl U.vm) qK, qD, nx_same (u := U) (U := U.calling g mk a) rfl qN⟩, va_recv hKc hPc (ci := 9) (q0 := 0) rfl hQ.x0, fun U hU hW => ⟨rfl, by rw [hU], by rw [hU], by rw [hU]; exact hPc, va_K.moved hW.alike hKc, hDc.weaken (fun _ _ _ _ => trivial), nx_warm hW hN⟩⟩ rfl rfl hl.1 rfl (lv_room (Nat.le_of_ble_eq_true rfl)) dL_law_693 ⟨by show ce + 0 ≤ 600000; omega, by show se + 0 ≤ 7302250; omega⟩) hS (fun q _ h => hFc q h) hFc (fun r_1 u_2 t H1 locs ht hvm hw hB hz1 hk1 hS => ?_)
  obtain ⟨hP1, hD1, hy1, hy2⟩ := hB
  rw [ht] at hP1 hy1 hy2
  obtain ⟨hP, hD⟩ := va_appL hP hD hk1 hFc hP1 hD1
  refine W.widen (k := ce) (n := se) (Nat.le_refl _) (Nat.le_refl _) ?_
  generalize H1 = H at hP hS ⊢
  refine lv_pop hx hb dL_law_696 rfl ?_
  refine lv_aload_n hx hb dL_law_697 rfl (lv_at hl 1 rfl) ?_
  refine lv_aload_n hx hb dL_law_698 rfl (lv_at hl 3 rfl) ?_
  refine lv_iload_n hx hb dL_law_699 rfl (lv_at hl 0 rfl) ?_
  refine lv_iconst (v := 1) hx hb dL_law_700 (by decide) ?_
  refine lv_iadd hx hb dL_law_701 ?_
  refine va_sld hx hb hX hbl hbA hS (vp_in_iff.mpr ⟨by omega, by omega⟩) dL_law_702 ?_
  refine lv_aload_n hx hb dL_law_703 rfl (lv_at hl 3 rfl) ?_
  refine lv_iload_n hx hb dL_law_704 rfl (lv_at hl 0 rfl) ?_
  refine lv_iconst (v := 2) hx hb dL_law_705 (by decide) ?_
  refine lv_iadd hx hb dL_law_706 ?_
  refine va_sld hx hb hX hbl hbA hS (vp_in_iff.mpr ⟨by omega, by omega⟩) dL_law_707 ?_
  have hPc := pr_P hP
  have hDc := pr_D hD
  have hKc := hK.sub (tys' := t10 C) [4, 5, 6, 7, 8, 9, 10, 11, 12, 13, 14, 15, 16, 17, 18, 19, 20, 21, 22, 23, 24, 25, 26, 27, 28, 29, 30, 31, 32, 33, 34, 35, 36, 37, 38, 39, 40, 41, 42, 43, 44, 45, 46, 47, 48, 49, 50, 51, 52, 53, 54, 55] rfl
  have hFc := free_all hDc hS hA
  refine va_calli (va_runV (As := [.int (xs (Int32.toNatClampNeg (x + 1))), .int (xs (Int32.toNatClampNeg (x + 2)))]) (rest := []) ⟨hx, hb, hml, hown, hg⟩ (c_X10_handled l dC dI (40000 * (k : Int)) hm X C Fm nm (xs (Int32.toNatClampNeg (x + 1))) (xs (Int32.toNatClampNeg (x + 2))) H.size hI10) (cwV 2 hg (gw_V gm_methodLink_RL_88_yX10_handled gm_instanceMethod_yX10_handled gm_selects_RX10_yX10_handled_yX10_handled gm_initialized_RX10 gm_code_yX10_handled_cX10_handled_3_some_int_) rfl rfl rfl (by decide +kernel) ⟨Nat.le_of_ble_eq_true rfl, Nat.le_of_ble_eq_true rfl⟩) ⟨fun a U g mk q => by obtain ⟨q0, q1, qP, qK, qD, qN⟩ := q; exact ⟨q0, q1, qP, va_K.moved (u := U) (U := U.calling g mk a) (Vm.Alike.refl U.vm) qK, qD, nx_same (u := U) (U := U.calling g mk a) rfl qN⟩, va_recv hKc hPc (ci := 10) (q0 := 0) rfl rfl, fun U hU hW => ⟨rfl, by rw [hU], by rw [hU]; exact hPc, va_K.moved hW.alike hKc, hDc.weaken (fun _ _ _ _ => trivial), nx_warm hW hN⟩⟩ rfl rfl hl.1 rfl (lv_room (Nat.le_of_ble_eq_true rfl)) dL_law_708 ⟨by show ce + 0 ≤ 600000; omega, by show se + 0 ≤ 7302250; omega⟩) hS (fun q _ h => hFc q h) hFc (fun r_3 u_4 t H1 locs ht hvm hw hB hz1 hk1 hS => ?_)
  obtain ⟨hP1, hD1⟩ := hB
  rw [ht] at hP1
  obtain ⟨hP, hD⟩ := va_appR hP hD hk1 hFc hP1 hD1
  have hP : va_P (dC, dI) vwCl (ws ++ (w10 hm X C (Fm 0) (Fm 1) (Fm 2) (Fm 3) (Fm 4) (Fm 5) (Fm 6) (Fm 7) (Fm 8) (Fm 10) (Fm 13) (Fm 14) (Fm 15) (Fm 16) (Fm 17) (Fm 18) (Fm 19) (Fm 20) (Fm 21) (Fm 22) (Fm 23) (Fm 24) (Fm 25) (Fm 26) (Fm 27) (Fm 28) (Fm 29) (Fm 30) (Fm 31) (Fm 32) (Fm 33) (Fm 34) (Fm 35) (Fm 36) (Fm 37) (Fm 38) (Fm 39) (Fm 40) (Fm 41) (Fm 42) (Fm 43) (Fm 49) (Fm 50) (Fm 51) (Fm 52) (Fm 53) (Fm 54) (Fm 55) (Fm 56) (Fm 57) (Fm 58) (Fm 59) (nm 9) (nm 11) (nm 12) (nm 44) (nm 45) (nm 46) (nm 47) (nm 48))) H1 := hP
  have hD : va_D A (ws ++ (w10 hm X C (Fm 0) (Fm 1) (Fm 2) (Fm 3) (Fm 4) (Fm 5) (Fm 6) (Fm 7) (Fm 8) (Fm 10) (Fm 13) (Fm 14) (Fm 15) (Fm 16) (Fm 17) (Fm 18) (Fm 19) (Fm 20) (Fm 21) (Fm 22) (Fm 23) (Fm 24) (Fm 25) (Fm 26) (Fm 27) (Fm 28) (Fm 29) (Fm 30) (Fm 31) (Fm 32) (Fm 33) (Fm 34) (Fm 35) (Fm 36) (Fm 37) (Fm 38) (Fm 39) (Fm 40) (Fm 41) (Fm 42) (Fm 43) (Fm 49) (Fm 50) (Fm 51) (Fm 52) (Fm 53) (Fm 54) (Fm 55) (Fm 56) (Fm 57) (Fm 58) (Fm 59) (nm 9) (nm 11) (nm 12) (nm 44) (nm 45) (nm 46) (nm 47) (nm 48))) := hD
  refine W.widen (k := ce) (n := se) (Nat.le_refl _) (Nat.le_refl _) ?_
  clear hk1 hz1
  generalize H1 = H at hP hS ⊢
  refine lv_pop hx hb dL_law_711 rfl ?_
  refine lv_goto (tgt := 761) hx hb dL_law_712 (by decide) ?_
  obtain ⟨y, ey⟩ : ∃ q : Int32, q = x + 5 := ⟨_, rfl⟩
  refine lv_iinc (v := y) (lv' := [(3, .int y), (2, .ref hm), (1, .ref (ad 0)), (0, .ref b)]) hx hb dL_law_761 hl (k := 0) rfl (by rw [ey]; rfl) (by decide) rfl (fun ls hl => ?_)
  have ty : y.toInt = x.toInt + 5 := ar_add rfl ti_5 ey (by omega)
  refine lv_goto (tgt := 18) hx hb dL_law_764 (by decide) ?_
  exact ih y ws ad ga gc M n f T G K F Fm nm ce se H locs ls (by omega) ⟨hQ, I9.mono (R := 600 * k) hI (by omega), I10_mono (k := 40000 * (k : Int)) hI10 (by omega), hRel.more (by omega) (by omega), by omega, by omega⟩ hP hD hS (lv_sub hl [0, 1, 2, 3] rfl)

set_option maxHeartbeats 8000000 in
set_option maxRecDepth 100000 in
theorem law_c17 {p : Program} {e : Env} {s : State} {m : MethodId} {below : List Frame} {meth : Method} {c : Code} (l : Launch) {A : Nat → Prop} {b L : Nat} {xs : Nat → Int32} (hL : L ≤ 2560) (C0 : lw_At p s m meth c b L xs) (hA : ∀ q : Nat, s.heap.size ≤ q → A q) (hAf : ∀ q : Nat, A q → s.heap.size ≤ q) (hbA : ¬ A b) (hN : nx s) {dC : Nat → ClassId} {dI : Nat → Nat → Nat} (kc : Nat → ClassId) (hm : Nat) (X : Nat → Nat) (C : Nat → ClassId) (hK : va_K (dC, dI) vwCl (t9 kc ++ t10 C) s) {k : Nat} (hk5 : 5 * k + 5 ≤ L) (ih : LH p l e s m below meth c b A dC dI kc hm X C (k + 1)) (x : Int32) (ws : va_W) (ad : Nat → Nat) (ga : Nat → Nat) (gc : Nat → Nat) (M : Nat) (n : Nat → Int32) (f : Nat → Nat → Int32) (T : Nat → Option Nat) (G : Nat → Nat → Int32) (K : Nat → Nat → Option Nat) (F : Nat → Nat → Nat → Int32) (Fm : Nat → Nat → Int32) (nm : Nat → Int32) (ce se : Nat) (H : Heap) (locs : List Loc) (ls : Array Slot) (hxk : x.toInt = 5 * (k : Int)) (hLF : LF kc ws ad ga gc M n f T G K F Fm nm ce se k) (hP : va_P (dC, dI) vwCl (ws ++ (w10 hm X C (Fm 0) (Fm 1) (Fm 2) (Fm 3) (Fm 4) (Fm 5) (Fm 6) (Fm 7) (Fm 8) (Fm 10) (Fm 13) (Fm 14) (Fm 15) (Fm 16) (Fm 17) (Fm 18) (Fm 19) (Fm 20) (Fm 21) (Fm 22) (Fm 23) (Fm 24) (Fm 25) (Fm 26) (Fm 27) (Fm 28) (Fm 29) (Fm 30) (Fm 31) (Fm 32) (Fm 33) (Fm 34) (Fm 35) (Fm 36) (Fm 37) (Fm 38) (Fm 39) (Fm 40) (Fm 41) (Fm 42) (Fm 43) (Fm 49) (Fm 50) (Fm 51) (Fm 52) (Fm 53) (Fm 54) (Fm 55) (Fm 56) (Fm 57) (Fm 58) (Fm 59) (nm 9) (nm 11) (nm 12) (nm 44) (nm 45) (nm 46) (nm 47) (nm 48))) H) (hD : va_D A (ws ++ (w10 hm X C (Fm 0) (Fm 1) (Fm 2) (Fm 3) (Fm 4) (Fm 5) (Fm 6) (Fm 7) (Fm 8) (Fm 10) (Fm 13) (Fm 14) (Fm 15) (Fm 16) (Fm 17) (Fm 18) (Fm 19) (Fm 20) (Fm 21) (Fm 22) (Fm 23) (Fm 24) (Fm 25) (Fm 26) (Fm 27) (Fm 28) (Fm 29) (Fm 30) (Fm 31) (Fm 32) (Fm 33) (Fm 34) (Fm 35) (Fm 36) (Fm 37) (Fm 38) (Fm 39) (Fm 40) (Fm 41) (Fm 42) (Fm 43) (Fm 49) (Fm 50) (Fm 51) (Fm 52) (Fm 53) (Fm 54) (Fm 55) (Fm 56) (Fm 57) (Fm 58) (Fm 59) (nm 9) (nm 11) (nm 12) (nm 44) (nm 45) (nm 46) (nm 47) (nm 48)))) (hS : va_S A s.heap H locs) (hl : lv_has ls 4 [(3, .int x), (2, .ref hm), (1, .ref (ad 0)), (0, .ref b)]) : W p l e room_1 s m #[Value.ref b] below meth c H locs ce se (lw_Z below #[Value.ref b] s) (F0 m 715 ls []) := by
  obtain ⟨hx, hb, hr, hml, hown, hts, hX, hbl, hlocks, hgv⟩ := id C0
  have hg : ∀ w ∈ gw, w.before _ s = true := fun w h => hts w (gw_tbl w h)
  obtain ⟨hQ, hI, hI10, hRel, hr1, hr2⟩ := id hLF
  have qn_ := I10_n11 hI10
  have q1_ := hI.1
  unfold i1 at q1_
  have hSl := S9_le hI.2.2.2.2.2.2.2.1 hI.2.2.2.2.2.2.2.2.1
  have tx1 : (x + 1).toInt = x.toInt + 1 := ar_add rfl ti_1 rfl (by omega)
  have tx2 : (x + 2).toInt = x.toInt + 2 := ar_add rfl ti_2 rfl (by omega)
  have tx3 : (x + 3).toInt = x.toInt + 3 := ar_add rfl ti_3 rfl (by omega)
  have tx4 : (x + 4).toInt = x.toInt + 4 := ar_add rfl ti_4 rfl (by omega)
  refine lv_aload_n hx hb dL_law_715 rfl (lv_at hl 2 rfl) ?_
  refine lv_aload_n hx hb dL_law_716 rfl (lv_at hl 3 rfl) ?_
  refine lv_iload_n hx hb dL_law_717 rfl (lv_at hl 0 rfl) ?_
  refine lv_iconst (v := 1) hx hb dL_law_718 (by decide) ?_
  refine lv_iadd hx hb dL_law_719 ?_
  refine va_sld hx hb hX hbl hbA hS (vp_in_iff.mpr ⟨by omega, by omega⟩) dL_law_720 ?_
  have hPc := pl_P hP
  have hDc := pl_D hD
  have hKc := hK.sub (tys' := t9 kc) [0, 1, 2, 3] rfl
  have hFc := free_all hDc hS hA
  refine W_msr2 (fun hm1 hm2 hm3 => ?_)
  refine va_calli (va_runV (As := [.int (xs (Int32.toNatClampNeg (x + 1)))]) (rest := []) ⟨hx, hb, hml, hown, hg⟩ (c_X9_order l dC dI kc ws ad ga gc M n f T G K F (600 * k) (xs (Int32.toNatClampNeg (x + 1))) H.size (hpS H) hQ hI) (cwV 1 hg (gw_V gm_methodLink_RL_89_yX9_order gm_instanceMethod_yX9_order gm_selects_RX9_yX9_order_yX9_order gm_initialized_RX9 gm_code_yX9_order_cX9_order_2_some_int_) rfl rfl rfl (by decide +kernel) ⟨Nat.le_of_ble_eq_true rfl, Nat.le_of_ble_eq_true rfl⟩) ⟨fun a U g mk q => by obtain ⟨q0, q1, q2, qP, qK, qD, qN⟩ := q; exact ⟨q0, q1, q2, qP, va_K.moved (u := U) (U := U.calling g mk a) (Vm.Alike.refl U.vm) qK, qD, nx_same (u := U) (U := U.calling g mk a) rfl qN⟩, va_recv hKc hPc (ci := 9) (q0 := 0) rfl hQ.x0, fun U hU hW => ⟨rfl, by rw [hU], by rw [hU], by rw [hU]; exact hPc, va_K.moved hW.alike hKc, hDc.weaken (fun _ _ _ _ => trivial), nx_warm hW hN⟩⟩ rfl rfl hl.1 rfl (lv_room (Nat.le_of_ble_eq_true rfl)) dL_law_721 ⟨by show ce + 0 ≤ 600000; omega, by show se + 0 ≤ 7302250; omega⟩) hS (fun q _ h => hFc q h) hFc (fun r_1 u_2 t H1 locs ht hvm hw hB hz1 hk1 hS => ?_)
  obtain ⟨hP1, hD1, hy1, hy2⟩ := hB
  rw [ht] at hP1 hy1 hy2
  obtain ⟨hP, hD⟩ := va_appL hP hD hk1 hFc hP1 hD1
  refine W.widen (k := ce) (n := se) (Nat.le_refl _) (Nat.le_refl _) ?_
  generalize H1 = H at hP hS ⊢
  refine lv_pop hx hb dL_law_724 rfl ?_
  refine lv_aload_n hx hb dL_law_725 rfl (lv_at hl 1 rfl) ?_
  refine lv_aload_n hx hb dL_law_726 rfl (lv_at hl 3 rfl) ?_
  refine lv_iload_n hx hb dL_law_727 rfl (lv_at hl 0 rfl) ?_
  refine lv_iconst (v := 1) hx hb dL_law_728 (by decide) ?_
  refine lv_iadd hx hb dL_law_729 ?_
  refine va_sld hx hb hX hbl hbA hS (vp_in_iff.mpr ⟨by omega, by omega⟩) dL_law_730 ?_
  have hPc := pr_P hP
  have hDc := pr_D hD
  have hKc := hK.sub (tys' := t10 C) [4, 5, 6, 7, 8, 9, 10, 11, 12, 13, 14, 15, 16, 17, 18, 19, 20, 21, 22, 23, 24, 25, 26, 27, 28, 29, 30, 31, 32, 33, 34, 35, 36, 37, 38, 39, 40, 41, 42, 43, 44, 45, 46, 47, 48, 49, 50, 51, 52, 53, 54, 55] rfl
  have hFc := free_all hDc hS hA
  refine va_calli (va_runV (As := [.int (xs (Int32.toNatClampNeg (x + 1)))]) (rest := []) ⟨hx, hb, hml, hown, hg⟩ (c_X10_order l dC dI (40000 * (k : Int)) hm X C Fm nm (xs (Int32.toNatClampNeg (x + 1))) H.size hI10) (cwV 1 hg (gw_V gm_methodLink_RL_92_yX10_order gm_instanceMethod_yX10_order gm_selects_RX10_yX10_order_yX10_order gm_initialized_RX10 gm_code_yX10_order_cX10_order_2_some_int_) rfl rfl rfl (by decide +kernel) ⟨Nat.le_of_ble_eq_true rfl, Nat.le_of_ble_eq_true rfl⟩) ⟨fun a U g mk q => by obtain ⟨q0, q1, qP, qK, qD, qN⟩ := q; exact ⟨q0, q1, qP, va_K.moved (u := U) (U := U.calling g mk a) (Vm.Alike.refl U.vm) qK, qD, nx_same (u := U) (U := U.calling g mk a) rfl qN⟩, va_recv hKc hPc (ci := 10) (q0 := 0) rfl rfl, fun U hU hW => ⟨rfl, by rw [hU], by rw [hU]; exact hPc, va_K.moved hW.alike hKc, hDc.weaken (fun _ _ _ _ => trivial), nx_warm hW hN⟩⟩ rfl rfl hl.1 rfl (lv_room (Nat.le_of_ble_eq_true rfl)) dL_law_731 ⟨by show ce + 0 ≤ 600000; omega, by show se + 0 ≤ 7302250; omega⟩) hS (fun q _ h => hFc q h) hFc (fun r_3 u_4 t H1 locs ht hvm hw hB hz1 hk1 hS => ?_)
  obtain ⟨hP1, hD1⟩ := hB
  rw [ht] at hP1
  obtain ⟨hP, hD⟩ := va_appR hP hD hk1 hFc hP1 hD1
  have hP : va_P (dC, dI) vwCl (ws ++ (w10 hm X C (Fm 0) (Fm 1) (Fm 2) (Fm 3) (Fm 4) (Fm 5) (Fm 6) (Fm 7) (Fm 8) (Fm 10) (Fm 13) (Fm 14) (Fm 15) (Fm 16) (Fm 17) (Fm 18) (Fm 19) (Fm 20) (Fm 21) (Fm 22) (Fm 23) (Fm 24) (Fm 25) (Fm 26) (Fm 27) (Fm 28) (Fm 29) (Fm 30) (Fm 31) (Fm 32) (Fm 33) (Fm 34) (Fm 35) (Fm 36) (Fm 37) (Fm 38) (Fm 39) (Fm 40) (Fm 41) (Fm 42) (Fm 43) (Fm 49) (Fm 50) (Fm 51) (Fm 52) (Fm 53) (Fm 54) (Fm 55) (Fm 56) (Fm 57) (Fm 58) (Fm 59) (nm 9) (nm 11) (nm 12) (nm 44) (nm 45) (nm 46) (nm 47) (nm 48))) H1 := hP
  have hD : va_D A (ws ++ (w10 hm X C (Fm 0) (Fm 1) (Fm 2) (Fm 3) (Fm 4) (Fm 5) (Fm 6) (Fm 7) (Fm 8) (Fm 10) (Fm 13) (Fm 14) (Fm 15) (Fm 16) (Fm 17) (Fm 18) (Fm 19) (Fm 20) (Fm 21) (Fm 22) (Fm 23) (Fm 24) (Fm 25) (Fm 26) (Fm 27) (Fm 28) (Fm 29) (Fm 30) (Fm 31) (Fm 32) (Fm 33) (Fm 34) (Fm 35) (Fm 36) (Fm 37) (Fm 38) (Fm 39) (Fm 40) (Fm 41) (Fm 42) (Fm 43) (Fm 49) (Fm 50) (Fm 51) (Fm 52) (Fm 53) (Fm 54) (Fm 55) (Fm 56) (Fm 57) (Fm 58) (Fm 59) (nm 9) (nm 11) (nm 12) (nm 44) (nm 45) (nm 46) (nm 47) (nm 48))) := hD
  refine W.widen (k := ce) (n := se) (Nat.le_refl _) (Nat.le_refl _) ?_
  clear hk1 hz1
  generalize H1 = H at hP hS ⊢
  refine lv_pop hx hb dL_law_734 rfl ?_
  refine lv_goto (tgt := 761) hx hb dL_law_735 (by decide) ?_
  obtain ⟨y, ey⟩ : ∃ q : Int32, q = x + 5 := ⟨_, rfl⟩
  refine lv_iinc (v := y) (lv' := [(3, .int y), (2, .ref hm), (1, .ref (ad 0)), (0, .ref b)]) hx hb dL_law_761 hl (k := 0) rfl (by rw [ey]; rfl) (by decide) rfl (fun ls hl => ?_)
  have ty : y.toInt = x.toInt + 5 := ar_add rfl ti_5 ey (by omega)
  refine lv_goto (tgt := 18) hx hb dL_law_764 (by decide) ?_
  exact ih y ws ad ga gc M n f T G K F Fm nm ce se H locs ls (by omega) ⟨hQ, I9.mono (R := 600 * k) hI (by omega), I10_mono (k := 40000 * (k : Int)) hI10 (by omega), hRel.more (by omega) (by omega), by omega, by omega⟩ hP hD hS (lv_sub hl [0, 1, 2, 3] rfl)

set_option maxHeartbeats 8000000 in
set_option maxRecDepth 100000 in
theorem law_c18 {p : Program} {e : Env} {s : State} {m : MethodId} {below : List Frame} {meth : Method} {c : Code} (l : Launch) {A : Nat → Prop} {b L : Nat} {xs : Nat → Int32} (hL : L ≤ 2560) (C0 : lw_At p s m meth c b L xs) (hA : ∀ q : Nat, s.heap.size ≤ q → A q) (hAf : ∀ q : Nat, A q → s.heap.size ≤ q) (hbA : ¬ A b) (hN : nx s) {dC : Nat → ClassId} {dI : Nat → Nat → Nat} (kc : Nat → ClassId) (hm : Nat) (X : Nat → Nat) (C : Nat → ClassId) (hK : va_K (dC, dI) vwCl (t9 kc ++ t10 C) s) {k : Nat} (hk5 : 5 * k + 5 ≤ L) (ih : LH p l e s m below meth c b A dC dI kc hm X C (k + 1)) (x : Int32) (ws : va_W) (ad : Nat → Nat) (ga : Nat → Nat) (gc : Nat → Nat) (M : Nat) (n : Nat → Int32) (f : Nat → Nat → Int32) (T : Nat → Option Nat) (G : Nat → Nat → Int32) (K : Nat → Nat → Option Nat) (F : Nat → Nat → Nat → Int32) (Fm : Nat → Nat → Int32) (nm : Nat → Int32) (ce se : Nat) (H : Heap) (locs : List Loc) (ls : Array Slot) (hxk : x.toInt = 5 * (k : Int)) (hLF : LF kc ws ad ga gc M n f T G K F Fm nm ce se k) (hP : va_P (dC, dI) vwCl (ws ++ (w10 hm X C (Fm 0) (Fm 1) (Fm 2) (Fm 3) (Fm 4) (Fm 5) (Fm 6) (Fm 7) (Fm 8) (Fm 10) (Fm 13) (Fm 14) (Fm 15) (Fm 16) (Fm 17) (Fm 18) (Fm 19) (Fm 20) (Fm 21) (Fm 22) (Fm 23) (Fm 24) (Fm 25) (Fm 26) (Fm 27) (Fm 28) (Fm 29) (Fm 30) (Fm 31) (Fm 32) (Fm 33) (Fm 34) (Fm 35) (Fm 36) (Fm 37) (Fm 38) (Fm 39) (Fm 40) (Fm 41) (Fm 42) (Fm 43) (Fm 49) (Fm 50) (Fm 51) (Fm 52) (Fm 53) (Fm 54) (Fm 55) (Fm 56) (Fm 57) (Fm 58) (Fm 59) (nm 9) (nm 11) (nm 12) (nm 44) (nm 45) (nm 46) (nm 47) (nm 48))) H) (hD : va_D A (ws ++ (w10 hm X C (Fm 0) (Fm 1) (Fm 2) (Fm 3) (Fm 4) (Fm 5) (Fm 6) (Fm 7) (Fm 8) (Fm 10) (Fm 13) (Fm 14) (Fm 15) (Fm 16) (Fm 17) (Fm 18) (Fm 19) (Fm 20) (Fm 21) (Fm 22) (Fm 23) (Fm 24) (Fm 25) (Fm 26) (Fm 27) (Fm 28) (Fm 29) (Fm 30) (Fm 31) (Fm 32) (Fm 33) (Fm 34) (Fm 35) (Fm 36) (Fm 37) (Fm 38) (Fm 39) (Fm 40) (Fm 41) (Fm 42) (Fm 43) (Fm 49) (Fm 50) (Fm 51) (Fm 52) (Fm 53) (Fm 54) (Fm 55) (Fm 56) (Fm 57) (Fm 58) (Fm 59) (nm 9) (nm 11) (nm 12) (nm 44) (nm 45) (nm 46) (nm 47) (nm 48)))) (hS : va_S A s.heap H locs) (hl : lv_has ls 4 [(3, .int x), (2, .ref hm), (1, .ref (ad 0)), (0, .ref b)]) : W p l e room_1 s m #[Value.ref b] below meth c H locs ce se (lw_Z below #[Value.ref b] s) (F0 m 738 ls []) := by
  obtain ⟨hx, hb, hr, hml, hown, hts, hX, hbl, hlocks, hgv⟩ := id C0
  have hg : ∀ w ∈ gw, w.before _ s = true := fun w h => hts w (gw_tbl w h)
  obtain ⟨hQ, hI, hI10, hRel, hr1, hr2⟩ := id hLF
  have qn_ := I10_n11 hI10
  have q1_ := hI.1
  unfold i1 at q1_
  have hSl := S9_le hI.2.2.2.2.2.2.2.1 hI.2.2.2.2.2.2.2.2.1
  have tx1 : (x + 1).toInt = x.toInt + 1 := ar_add rfl ti_1 rfl (by omega)
  have tx2 : (x + 2).toInt = x.toInt + 2 := ar_add rfl ti_2 rfl (by omega)
  have tx3 : (x + 3).toInt = x.toInt + 3 := ar_add rfl ti_3 rfl (by omega)
  have tx4 : (x + 4).toInt = x.toInt + 4 := ar_add rfl ti_4 rfl (by omega)
  refine lv_aload_n hx hb dL_law_738 rfl (lv_at hl 2 rfl) ?_
  refine lv_aload_n hx hb dL_law_739 rfl (lv_at hl 3 rfl) ?_
  refine lv_iload_n hx hb dL_law_740 rfl (lv_at hl 0 rfl) ?_
  refine lv_iconst (v := 1) hx hb dL_law_741 (by decide) ?_
  refine lv_iadd hx hb dL_law_742 ?_
  refine va_sld hx hb hX hbl hbA hS (vp_in_iff.mpr ⟨by omega, by omega⟩) dL_law_743 ?_
  have hPc := pl_P hP
  have hDc := pl_D hD
  have hKc := hK.sub (tys' := t9 kc) [0, 1, 2, 3] rfl
  have hFc := free_all hDc hS hA
  refine W_msr2 (fun hm1 hm2 hm3 => ?_)
  refine va_calli (va_runV (As := [.int (xs (Int32.toNatClampNeg (x + 1)))]) (rest := []) ⟨hx, hb, hml, hown, hg⟩ (c_X9_count l dC dI kc ws ad ga gc M n f T G K F (600 * k) (xs (Int32.toNatClampNeg (x + 1))) H.size (hpS H) hQ hI) (cwV 1 hg (gw_V gm_methodLink_RL_93_yX9_count gm_instanceMethod_yX9_count gm_selects_RX9_yX9_count_yX9_count gm_initialized_RX9 gm_code_yX9_count_cX9_count_2_some_int_) rfl rfl rfl (by decide +kernel) ⟨Nat.le_of_ble_eq_true rfl, Nat.le_of_ble_eq_true rfl⟩) ⟨fun a U g mk q => by obtain ⟨q0, q1, q2, qP, qK, qD, qN⟩ := q; exact ⟨q0, q1, q2, qP, va_K.moved (u := U) (U := U.calling g mk a) (Vm.Alike.refl U.vm) qK, qD, nx_same (u := U) (U := U.calling g mk a) rfl qN⟩, va_recv hKc hPc (ci := 9) (q0 := 0) rfl hQ.x0, fun U hU hW => ⟨rfl, by rw [hU], by rw [hU], by rw [hU]; exact hPc, va_K.moved hW.alike hKc, hDc.weaken (fun _ _ _ _ => trivial), nx_warm hW hN⟩⟩ rfl rfl hl.1 rfl (lv_room (Nat.le_of_ble_eq_true rfl)) dL_law_744 ⟨by show ce + 0 ≤ 600000; omega, by show se + 0 ≤ 7302250; omega⟩) hS (fun q _ h => hFc q h) hFc (fun r_1 u_2 t H1 locs ht hvm hw hB hz1 hk1 hS => ?_)
  obtain ⟨hP1, hD1, hy1, hy2⟩ := hB
  rw [ht] at hP1 hy1 hy2
  obtain ⟨hP, hD⟩ := va_appL hP hD hk1 hFc hP1 hD1
  refine W.widen (k := ce) (n := se) (Nat.le_refl _) (Nat.le_refl _) ?_
  generalize H1 = H at hP hS ⊢
  have e9 : r_1 = k_count (xs (Int32.toNatClampNeg (x + 1))) (C9.mk n f T G K F) := hw
  refine lv_aload_n hx hb dL_law_747 rfl (lv_at hl 1 rfl) ?_
  refine lv_aload_n hx hb dL_law_748 rfl (lv_at hl 3 rfl) ?_
  refine lv_iload_n hx hb dL_law_749 rfl (lv_at hl 0 rfl) ?_
  refine lv_iconst (v := 1) hx hb dL_law_750 (by decide) ?_
  refine lv_iadd hx hb dL_law_751 ?_
  refine va_sld hx hb hX hbl hbA hS (vp_in_iff.mpr ⟨by omega, by omega⟩) dL_law_752 ?_
  have hPc := pr_P hP
  have hDc := pr_D hD
  have hKc := hK.sub (tys' := t10 C) [4, 5, 6, 7, 8, 9, 10, 11, 12, 13, 14, 15, 16, 17, 18, 19, 20, 21, 22, 23, 24, 25, 26, 27, 28, 29, 30, 31, 32, 33, 34, 35, 36, 37, 38, 39, 40, 41, 42, 43, 44, 45, 46, 47, 48, 49, 50, 51, 52, 53, 54, 55] rfl
  have hFc := free_all hDc hS hA
  refine va_calli (va_runV (As := [.int (xs (Int32.toNatClampNeg (x + 1)))]) (rest := [.int r_1]) ⟨hx, hb, hml, hown, hg⟩ (c_X10_count l dC dI (40000 * (k : Int)) hm X C Fm nm (xs (Int32.toNatClampNeg (x + 1))) H.size hI10) (cwV 1 hg (gw_V gm_methodLink_RL_96_yX10_count gm_instanceMethod_yX10_count gm_selects_RX10_yX10_count_yX10_count gm_initialized_RX10 gm_code_yX10_count_cX10_count_2_some_int_) rfl rfl rfl (by decide +kernel) ⟨Nat.le_of_ble_eq_true rfl, Nat.le_of_ble_eq_true rfl⟩) ⟨fun a U g mk q => by obtain ⟨q0, q1, qP, qK, qD, qN⟩ := q; exact ⟨q0, q1, qP, va_K.moved (u := U) (U := U.calling g mk a) (Vm.Alike.refl U.vm) qK, qD, nx_same (u := U) (U := U.calling g mk a) rfl qN⟩, va_recv hKc hPc (ci := 10) (q0 := 0) rfl rfl, fun U hU hW => ⟨rfl, by rw [hU], by rw [hU]; exact hPc, va_K.moved hW.alike hKc, hDc.weaken (fun _ _ _ _ => trivial), nx_warm hW hN⟩⟩ rfl rfl hl.1 rfl (lv_room (Nat.le_of_ble_eq_true rfl)) dL_law_753 ⟨by show ce + 0 ≤ 600000; omega, by show se + 0 ≤ 7302250; omega⟩) hS (fun q _ h => hFc q h) hFc (fun r_3 u_4 t H1 locs ht hvm hw hB hz1 hk1 hS => ?_)
  obtain ⟨hP1, hD1⟩ := hB
  rw [ht] at hP1
  obtain ⟨hP, hD⟩ := va_appR hP hD hk1 hFc hP1 hD1
  have hP : va_P (dC, dI) vwCl (ws ++ (w10 hm X C (Fm 0) (Fm 1) (Fm 2) (Fm 3) (Fm 4) (Fm 5) (Fm 6) (Fm 7) (Fm 8) (Fm 10) (Fm 13) (Fm 14) (Fm 15) (Fm 16) (Fm 17) (Fm 18) (Fm 19) (Fm 20) (Fm 21) (Fm 22) (Fm 23) (Fm 24) (Fm 25) (Fm 26) (Fm 27) (Fm 28) (Fm 29) (Fm 30) (Fm 31) (Fm 32) (Fm 33) (Fm 34) (Fm 35) (Fm 36) (Fm 37) (Fm 38) (Fm 39) (Fm 40) (Fm 41) (Fm 42) (Fm 43) (Fm 49) (Fm 50) (Fm 51) (Fm 52) (Fm 53) (Fm 54) (Fm 55) (Fm 56) (Fm 57) (Fm 58) (Fm 59) (nm 9) (nm 11) (nm 12) (nm 44) (nm 45) (nm 46) (nm 47) (nm 48))) H1 := hP
  have hD : va_D A (ws ++ (w10 hm X C (Fm 0) (Fm 1) (Fm 2) (Fm 3) (Fm 4) (Fm 5) (Fm 6) (Fm 7) (Fm 8) (Fm 10) (Fm 13) (Fm 14) (Fm 15) (Fm 16) (Fm 17) (Fm 18) (Fm 19) (Fm 20) (Fm 21) (Fm 22) (Fm 23) (Fm 24) (Fm 25) (Fm 26) (Fm 27) (Fm 28) (Fm 29) (Fm 30) (Fm 31) (Fm 32) (Fm 33) (Fm 34) (Fm 35) (Fm 36) (Fm 37) (Fm 38) (Fm 39) (Fm 40) (Fm 41) (Fm 42) (Fm 43) (Fm 49) (Fm 50) (Fm 51) (Fm 52) (Fm 53) (Fm 54) (Fm 55) (Fm 56) (Fm 57) (Fm 58) (Fm 59) (nm 9) (nm 11) (nm 12) (nm 44) (nm 45) (nm 46) (nm 47) (nm 48))) := hD
  refine W.widen (k := ce) (n := se) (Nat.le_refl _) (Nat.le_refl _) ?_
  clear hk1 hz1
  generalize H1 = H at hP hS ⊢
  have e10 : r_3 = r_count (xs (Int32.toNatClampNeg (x + 1))) (Q10.mk Fm nm) := hw
  have hEq : r_1.toInt = r_3.toInt := by rw [e9, e10, count_sim hRel (xs (Int32.toNatClampNeg (x + 1)))]
  refine lv_icmp_eq (tgt := 761) hx hb dL_law_756 (by decide) (fun c_5 => ?_) (fun c_5 => ?_)
  · simp only [i_lt, i_le, i_eq] at c_5
    obtain ⟨y, ey⟩ : ∃ q : Int32, q = x + 5 := ⟨_, rfl⟩
    refine lv_iinc (v := y) (lv' := [(3, .int y), (2, .ref hm), (1, .ref (ad 0)), (0, .ref b)]) hx hb dL_law_761 hl (k := 0) rfl (by rw [ey]; rfl) (by decide) rfl (fun ls hl => ?_)
    have ty : y.toInt = x.toInt + 5 := ar_add rfl ti_5 ey (by omega)
    refine lv_goto (tgt := 18) hx hb dL_law_764 (by decide) ?_
    exact ih y ws ad ga gc M n f T G K F Fm nm ce se H locs ls (by omega) ⟨hQ, I9.mono (R := 600 * k) hI (by omega), I10_mono (k := 40000 * (k : Int)) hI10 (by omega), hRel.more (by omega) (by omega), by omega, by omega⟩ hP hD hS (lv_sub hl [0, 1, 2, 3] rfl)
  · simp only [i_lt, i_le, i_eq] at c_5
    refine lv_iconst (v := 0) hx hb dL_law_759 (by decide) ?_
    exfalso
    omega
