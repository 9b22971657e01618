set_option maxHeartbeats 8000000 in
set_option maxRecDepth 100000 in
theorem law_end {p : Program} {e : Env} {s : State} {m : MethodId} {below : List Frame} {meth : Method} {c : Code} (l : Launch) {A : Nat → Prop} {b L : Nat} {xs : Nat → Int32} (hL : L ≤ 2560) (C0 : lw_At p s m meth c b L xs) (hA : ∀ q : Nat, s.heap.size ≤ q → A q) (hAf : ∀ q : Nat, A q → s.heap.size ≤ q) (hbA : ¬ A b) (hN : nx s) {dC : Nat → ClassId} {dI : Nat → Nat → Nat} (kc : Nat → ClassId) (hm : Nat) (X : Nat → Nat) (C : Nat → ClassId) (hK : va_K (dC, dI) vwCl (t9 kc ++ t10 C) s) {k : Nat} (hk : k ≤ 512) (x : Int32) (ws : va_W) (ad : Nat → Nat) (ga : Nat → Nat) (gc : Nat → Nat) (M : Nat) (n : Nat → Int32) (f : Nat → Nat → Int32) (T : Nat → Option Nat) (G : Nat → Nat → Int32) (K : Nat → Nat → Option Nat) (F : Nat → Nat → Nat → Int32) (Fm : Nat → Nat → Int32) (nm : Nat → Int32) (ce se : Nat) (H : Heap) (locs : List Loc) (ls : Array Slot) (hxk : x.toInt = 5 * (k : Int)) (hLF : LF kc ws ad ga gc M n f T G K F Fm nm ce se k) (hP : va_P (dC, dI) vwCl (ws ++ (w10 hm X C (Fm 0) (Fm 1) (Fm 2) (Fm 3) (Fm 4) (Fm 5) (Fm 6) (Fm 7) (Fm 8) (Fm 10) (Fm 13) (Fm 14) (Fm 15) (Fm 16) (Fm 17) (Fm 18) (Fm 19) (Fm 20) (Fm 21) (Fm 22) (Fm 23) (Fm 24) (Fm 25) (Fm 26) (Fm 27) (Fm 28) (Fm 29) (Fm 30) (Fm 31) (Fm 32) (Fm 33) (Fm 34) (Fm 35) (Fm 36) (Fm 37) (Fm 38) (Fm 39) (Fm 40) (Fm 41) (Fm 42) (Fm 43) (Fm 49) (Fm 50) (Fm 51) (Fm 52) (Fm 53) (Fm 54) (Fm 55) (Fm 56) (Fm 57) (Fm 58) (Fm 59) (nm 9) (nm 11) (nm 12) (nm 44) (nm 45) (nm 46) (nm 47) (nm 48))) H) (hD : va_D A (ws ++ (w10 hm X C (Fm 0) (Fm 1) (Fm 2) (Fm 3) (Fm 4) (Fm 5) (Fm 6) (Fm 7) (Fm 8) (Fm 10) (Fm 13) (Fm 14) (Fm 15) (Fm 16) (Fm 17) (Fm 18) (Fm 19) (Fm 20) (Fm 21) (Fm 22) (Fm 23) (Fm 24) (Fm 25) (Fm 26) (Fm 27) (Fm 28) (Fm 29) (Fm 30) (Fm 31) (Fm 32) (Fm 33) (Fm 34) (Fm 35) (Fm 36) (Fm 37) (Fm 38) (Fm 39) (Fm 40) (Fm 41) (Fm 42) (Fm 43) (Fm 49) (Fm 50) (Fm 51) (Fm 52) (Fm 53) (Fm 54) (Fm 55) (Fm 56) (Fm 57) (Fm 58) (Fm 59) (nm 9) (nm 11) (nm 12) (nm 44) (nm 45) (nm 46) (nm 47) (nm 48)))) (hS : va_S A s.heap H locs) (hl : lv_has ls 4 [(3, .int x), (2, .ref hm), (1, .ref (ad 0)), (0, .ref b)]) : W p l e room_1 s m #[Value.ref b] below meth c H locs ce se (lw_Z below #[Value.ref b] s) (F0 m 767 ls []) := by
  obtain ⟨hx, hb, hr, hml, hown, hts, hX, hbl, hlocks, hgv⟩ := id C0
  obtain ⟨hQ, hI, hI10, hRel, hr1, hr2⟩ := id hLF
  have q1_ := hI.1
  unfold i1 at q1_
  have hSl := S9_le hI.2.2.2.2.2.2.2.1 hI.2.2.2.2.2.2.2.2.1
  refine lv_iconst (v := 1) hx hb dL_law_767 (by decide) ?_
  refine va_forget (fun q hq => hAf _ (hS.2.2 q hq)) ?_
  refine W.widen (k := 600000) (n := 7302250) (by omega) (by omega) ?_
  exact lw_ret hx hb hr hlocks dL_law_768

set_option maxHeartbeats 8000000 in
set_option maxRecDepth 100000 in
theorem law_head {p : Program} {e : Env} {s : State} {m : MethodId} {below : List Frame} {meth : Method} {c : Code} (l : Launch) {A : Nat → Prop} {b L : Nat} {xs : Nat → Int32} (hL : L ≤ 2560) (C0 : lw_At p s m meth c b L xs) (hA : ∀ q : Nat, s.heap.size ≤ q → A q) (hAf : ∀ q : Nat, A q → s.heap.size ≤ q) (hbA : ¬ A b) (hN : nx s) {dC : Nat → ClassId} {dI : Nat → Nat → Nat} (kc : Nat → ClassId) (hm : Nat) (X : Nat → Nat) (C : Nat → ClassId) (hK : va_K (dC, dI) vwCl (t9 kc ++ t10 C) s) {k : Nat} (hk : k ≤ 512) (ih : 5 * k + 5 ≤ L → LH p l e s m below meth c b A dC dI kc hm X C (k + 1)) : LH p l e s m below meth c b A dC dI kc hm X C k := by
  obtain ⟨hx, hb, hr, hml, hown, hts, hX, hbl, hlocks, hgv⟩ := id C0
  have hg : ∀ w ∈ gw, w.before _ s = true := fun w h => hts w (gw_tbl w h)
  intro x ws ad ga gc M n f T G K F Fm nm ce se H locs ls hxk hLF hP hD hS hl
  refine lv_iload_n hx hb dL_law_18 rfl (lv_at hl 0 rfl) ?_
  refine lv_aload_n hx hb dL_law_19 rfl (lv_at hl 3 rfl) ?_
  refine va_slen hx hb hX hbl hbA hS dL_law_20 ?_
  refine lv_iconst (v := 5) hx hb dL_law_21 (by decide) ?_
  refine lv_isub hx hb dL_law_22 ?_
  refine lv_topi (fun z ez => ?_)
  have hn : (Int32.ofNat L).toInt = (L : Int) := nI_toInt (by omega)
  have tz : z.toInt = (L : Int) - 5 := ar_sub hn ti_5 ez (by omega)
  refine lv_icmp_gt (tgt := 767) hx hb dL_law_23 (by decide) (fun c1 => ?_) (fun c1 => ?_)
  · exact law_end l hL C0 hA hAf hbA hN kc hm X C hK hk x ws ad ga gc M n f T G K F Fm nm ce se H locs ls (by omega) hLF hP hD hS hl
  · simp only [i_lt] at c1
    have hk5 : 5 * k + 5 ≤ L := by omega
    have ih := ih hk5
    refine lv_aload_n hx hb dL_law_26 rfl (lv_at hl 3 rfl) ?_
    refine lv_iload_n hx hb dL_law_27 rfl (lv_at hl 0 rfl) ?_
    refine va_sld hx hb hX hbl hbA hS (vp_in_iff.mpr ⟨by omega, by omega⟩) dL_law_28 ?_
    refine lv_bipush (v := 31) hx hb dL_law_29 (by decide) ?_
    refine lv_iand hx hb dL_law_31 ?_
    refine lv_topi (fun y ey => ?_)
    rcases (show (y.toInt < 0 ∨ 18 < y.toInt) ∨ y.toInt = 0 ∨ y.toInt = 1 ∨ y.toInt = 2 ∨ y.toInt = 3 ∨ y.toInt = 4 ∨ y.toInt = 5 ∨ y.toInt = 6 ∨ y.toInt = 7 ∨ y.toInt = 8 ∨ y.toInt = 9 ∨ y.toInt = 10 ∨ y.toInt = 11 ∨ y.toInt = 12 ∨ y.toInt = 13 ∨ y.toInt = 14 ∨ y.toInt = 15 ∨ y.toInt = 16 ∨ y.toInt = 17 ∨ y.toInt = 18 by omega) with sw | sw | sw | sw | sw | sw | sw | sw | sw | sw | sw | sw | sw | sw | sw | sw | sw | sw | sw | sw
    · refine lv_tableOut (tgt := 761) hx hb dL_law_32 sw (by decide) ?_
      obtain ⟨hQ, hI, hI10, hRel, hr1, hr2⟩ := id hLF
      obtain ⟨y, ey⟩ : ∃ q : Int32, q = x + 5 := ⟨_, rfl⟩
      refine lv_iinc (v := y) (lv' := [(3, .int y), (2, .ref hm), (1, .ref (ad 0)), (0, .ref b)]) hx hb dL_law_761 hl (k := 0) rfl (by rw [ey]; rfl) (by decide) rfl (fun ls hl => ?_)
      have ty : y.toInt = x.toInt + 5 := ar_add rfl ti_5 ey (by omega)
      refine lv_goto (tgt := 18) hx hb dL_law_764 (by decide) ?_
      exact ih y ws ad ga gc M n f T G K F Fm nm ce se H locs ls (by omega) ⟨hQ, I9.mono (R := 600 * k) hI (by omega), I10_mono (k := 40000 * (k : Int)) hI10 (by omega), hRel.more (by omega) (by omega), by omega, by omega⟩ hP hD hS (lv_sub hl [0, 1, 2, 3] rfl)
    · refine lv_tableIn (tgt := 124) hx hb dL_law_32 (by omega) (by omega) (by rw [sw]; rfl) (by decide) ?_
      exact law_c0 l hL C0 hA hAf hbA hN kc hm X C hK hk5 ih x ws ad ga gc M n f T G K F Fm nm ce se H locs ls (by omega) hLF hP hD hS hl
    · refine lv_tableIn (tgt := 167) hx hb dL_law_32 (by omega) (by omega) (by rw [sw]; rfl) (by decide) ?_
      exact law_c1 l hL C0 hA hAf hbA hN kc hm X C hK hk5 ih x ws ad ga gc M n f T G K F Fm nm ce se H locs ls (by omega) hLF hP hD hS hl
    · refine lv_tableIn (tgt := 200) hx hb dL_law_32 (by omega) (by omega) (by rw [sw]; rfl) (by decide) ?_
      exact law_c2 l hL C0 hA hAf hbA hN kc hm X C hK hk5 ih x ws ad ga gc M n f T G K F Fm nm ce se H locs ls (by omega) hLF hP hD hS hl
    · refine lv_tableIn (tgt := 253) hx hb dL_law_32 (by omega) (by omega) (by rw [sw]; rfl) (by decide) ?_
      exact law_c3 l hL C0 hA hAf hbA hN kc hm X C hK hk5 ih x ws ad ga gc M n f T G K F Fm nm ce se H locs ls (by omega) hLF hP hD hS hl
    · refine lv_tableIn (tgt := 290) hx hb dL_law_32 (by omega) (by omega) (by rw [sw]; rfl) (by decide) ?_
      exact law_c4 l hL C0 hA hAf hbA hN kc hm X C hK hk5 ih x ws ad ga gc M n f T G K F Fm nm ce se H locs ls (by omega) hLF hP hD hS hl
    · refine lv_tableIn (tgt := 313) hx hb dL_law_32 (by omega) (by omega) (by rw [sw]; rfl) (by decide) ?_
      exact law_c5 l hL C0 hA hAf hbA hN kc hm X C hK hk5 ih x ws ad ga gc M n f T G K F Fm nm ce se H locs ls (by omega) hLF hP hD hS hl
    · refine lv_tableIn (tgt := 382) hx hb dL_law_32 (by omega) (by omega) (by rw [sw]; rfl) (by decide) ?_
      exact law_c6 l hL C0 hA hAf hbA hN kc hm X C hK hk5 ih x ws ad ga gc M n f T G K F Fm nm ce se H locs ls (by omega) hLF hP hD hS hl
    · refine lv_tableIn (tgt := 405) hx hb dL_law_32 (by omega) (by omega) (by rw [sw]; rfl) (by decide) ?_
      exact law_c7 l hL C0 hA hAf hbA hN kc hm X C hK hk5 ih x ws ad ga gc M n f T G K F Fm nm ce se H locs ls (by omega) hLF hP hD hS hl
    · refine lv_tableIn (tgt := 428) hx hb dL_law_32 (by omega) (by omega) (by rw [sw]; rfl) (by decide) ?_
      exact law_c8 l hL C0 hA hAf hbA hN kc hm X C hK hk5 ih x ws ad ga gc M n f T G K F Fm nm ce se H locs ls (by omega) hLF hP hD hS hl
    · refine lv_tableIn (tgt := 451) hx hb dL_law_32 (by omega) (by omega) (by rw [sw]; rfl) (by decide) ?_
      exact law_c9 l hL C0 hA hAf hbA hN kc hm X C hK hk5 ih x ws ad ga gc M n f T G K F Fm nm ce se H locs ls (by omega) hLF hP hD hS hl
    · refine lv_tableIn (tgt := 484) hx hb dL_law_32 (by omega) (by omega) (by rw [sw]; rfl) (by decide) ?_
      exact law_c10 l hL C0 hA hAf hbA hN kc hm X C hK hk5 ih x ws ad ga gc M n f T G K F Fm nm ce se H locs ls (by omega) hLF hP hD hS hl
    · refine lv_tableIn (tgt := 517) hx hb dL_law_32 (by omega) (by omega) (by rw [sw]; rfl) (by decide) ?_
      exact law_c11 l hL C0 hA hAf hbA hN kc hm X C hK hk5 ih x ws ad ga gc M n f T G K F Fm nm ce se H locs ls (by omega) hLF hP hD hS hl
    · refine lv_tableIn (tgt := 550) hx hb dL_law_32 (by omega) (by omega) (by rw [sw]; rfl) (by decide) ?_
      exact law_c12 l hL C0 hA hAf hbA hN kc hm X C hK hk5 ih x ws ad ga gc M n f T G K F Fm nm ce se H locs ls (by omega) hLF hP hD hS hl
    · refine lv_tableIn (tgt := 583) hx hb dL_law_32 (by omega) (by omega) (by rw [sw]; rfl) (by decide) ?_
      exact law_c13 l hL C0 hA hAf hbA hN kc hm X C hK hk5 ih x ws ad ga gc M n f T G K F Fm nm ce se H locs ls (by omega) hLF hP hD hS hl
    · refine lv_tableIn (tgt := 616) hx hb dL_law_32 (by omega) (by omega) (by rw [sw]; rfl) (by decide) ?_
      exact law_c14 l hL C0 hA hAf hbA hN kc hm X C hK hk5 ih x ws ad ga gc M n f T G K F Fm nm ce se H locs ls (by omega) hLF hP hD hS hl
    · refine lv_tableIn (tgt := 649) hx hb dL_law_32 (by omega) (by omega) (by rw [sw]; rfl) (by decide) ?_
      exact law_c15 l hL C0 hA hAf hbA hN kc hm X C hK hk5 ih x ws ad ga gc M n f T G K F Fm nm ce se H locs ls (by omega) hLF hP hD hS hl
    · refine lv_tableIn (tgt := 682) hx hb dL_law_32 (by omega) (by omega) (by rw [sw]; rfl) (by decide) ?_
      exact law_c16 l hL C0 hA hAf hbA hN kc hm X C hK hk5 ih x ws ad ga gc M n f T G K F Fm nm ce se H locs ls (by omega) hLF hP hD hS hl
    · refine lv_tableIn (tgt := 715) hx hb dL_law_32 (by omega) (by omega) (by rw [sw]; rfl) (by decide) ?_
      exact law_c17 l hL C0 hA hAf hbA hN kc hm X C hK hk5 ih x ws ad ga gc M n f T G K F Fm nm ce se H locs ls (by omega) hLF hP hD hS hl
    · refine lv_tableIn (tgt := 738) hx hb dL_law_32 (by omega) (by omega) (by rw [sw]; rfl) (by decide) ?_
      exact law_c18 l hL C0 hA hAf hbA hN kc hm X C hK hk5 ih x ws ad ga gc M n f T G K F Fm nm ce se H locs ls (by omega) hLF hP hD hS hl

set_option maxHeartbeats 8000000 in
set_option maxRecDepth 100000 in
theorem law_all {p : Program} {e : Env} {s : State} {m : MethodId} {below : List Frame} {meth : Method} {c : Code} (l : Launch) {A : Nat → Prop} {b L : Nat} {xs : Nat → Int32} (hL : L ≤ 2560) (C0 : lw_At p s m meth c b L xs) (hA : ∀ q : Nat, s.heap.size ≤ q → A q) (hAf : ∀ q : Nat, A q → s.heap.size ≤ q) (hbA : ¬ A b) (hN : nx s) {dC : Nat → ClassId} {dI : Nat → Nat → Nat} (kc : Nat → ClassId) (hm : Nat) (X : Nat → Nat) (C : Nat → ClassId) (hK : va_K (dC, dI) vwCl (t9 kc ++ t10 C) s) (d : Nat) : ∀ k : Nat, k ≤ 512 → L < 5 * k + 5 + 5 * d → LH p l e s m below meth c b A dC dI kc hm X C k := by
  induction d with
  | zero => intro k h5 hk; exact law_head l hL C0 hA hAf hbA hN kc hm X C hK h5 (fun h => by omega)
  | succ d ihd => intro k h5 hk; exact law_head l hL C0 hA hAf hbA hN kc hm X C hK h5 (fun h => ihd (k + 1) (by omega) (by omega))
