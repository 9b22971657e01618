section
variable {R : Nat} {kp : Int} {pb : Nat → Int} {bk : Nat → Nat → Prop} {s : C9} {q : Q10} {i : Nat} {v : Int32}
/-- the GIVER, on both sides -/
theorem Rel.giver (h : Rel R kp pb bk s q) {c : Nat} (hc : c < (Int.toNat (Int32.toInt (s.n 0)))) (hv : v.toInt = (i : Int)) (hi : i < 200) : (q.F 15 c).toInt = v.toInt ↔ s.K c 0 = some i := by
  have hN := h.N200
  have e := (h.a c hc).2.1.1
  have hl := (h.a c hc).2.1.2.2.2
  cases hK : s.K c 0 with
  | none =>
    rw [hK] at e
    have e : (-1 : Int32) = q.F 15 c := e
    have t : (-1 : Int32).toInt = -1 := by decide
    rw [← e]
    exact ⟨fun z => by omega, fun z => by cases z⟩
  | some g =>
    rw [hK] at e
    have e : Int32.ofNat g = q.F 15 c := e
    have hg := (hl g hK).1
    rw [← e, ofNat_toInt (by omega), hv]
    exact ⟨fun z => by rw [show g = i by omega] <;> rfl, fun z => by cases z; rfl⟩
theorem Rel.giverN (h : Rel R kp pb bk s q) {c : Nat} (hc : c < (Int.toNat (Int32.toInt (s.n 0)))) : (q.F 15 c).toInt = -1 ↔ s.K c 0 = none := by
  have hN := h.N200
  have e := (h.a c hc).2.1.1
  have hl := (h.a c hc).2.1.2.2.2
  cases hK : s.K c 0 with
  | none =>
    rw [hK] at e
    have e : (-1 : Int32) = q.F 15 c := e
    rw [← e]
    exact ⟨fun _ => rfl, fun _ => by decide⟩
  | some g =>
    rw [hK] at e
    have e : Int32.ofNat g = q.F 15 c := e
    have hg := (hl g hK).1
    rw [← e, ofNat_toInt (by omega)]
    exact ⟨fun z => by omega, fun z => by cases z⟩
/-- nobody awaits, nobody was told: claimed means waited for -/
theorem Rel.claim0 (h : Rel R kp pb bk s q) {c g : Nat} (hc : c < (Int.toNat (Int32.toInt (s.n 0)))) (hK : s.K c 0 = some g) (hb : ¬ bk g c) (ht : (q.F 25 g).toInt = 0) : (s.G c 12).toInt = 0 ↔ (q.F 26 c).toInt = 0 := by
  rcases (h.d c hc).2 g hK with z | z | z | z
  · omega
  · exact absurd z.2.2.2.2 hb
  · exact absurd ht z.2.2.2
  · omega
/-- the children whose FAILURES nobody can wait for any more -/
theorem kids_sim (h : Rel R kp pb bk s q) (hi : i < (Int.toNat (Int32.toInt (s.n 0)))) (hv : v.toInt = (i : Int)) (ho : (q.F 13 i).toInt = 3 ∨ (q.F 13 i).toInt = 4) (h32 : ∀ c : Nat, c < (Int.toNat (Int32.toInt (s.n 0))) → s.K c 0 = some i → q.F 32 c = 0) (hb : ∀ c : Nat, ¬ bk i c) (ht : (q.F 25 i).toInt = 0) :
    Rel R kp pb bk (cit s.K b_tell (fun s => s) 201 (s.K i 2) s) (f_goes v q) ∧ (f_goes v q).F 20 = q.F 20 ∧ (f_goes v q).F 24 = q.F 24 ∧ (f_goes v q).F 13 = q.F 13 := by
  have hN := h.N200
  have e11 : Int32.toNatClampNeg (q.n 11) = (Int.toNat (Int32.toInt (s.n 0))) := by show (q.n 11).toInt.toNat = _; rw [h.u.1.1]
  have e1 : Int32.toNatClampNeg (v + 1) = i + 1 := ix_nat (by rw [inc_toInt (by omega), hv]; omega)
  unfold f_goes
  rw [e11, e1, (h.p i hi).1]
  refine cit_itr (P := fun (r : C9) (r' : Q10) => Rel R kp pb bk r r' ∧ r'.F 20 = q.F 20 ∧ r'.F 24 = q.F 24 ∧ r'.F 13 = q.F 13)
    (I := fun c (r : C9) (r' : Q10) => Rel R kp pb bk r r' ∧ r.K = s.K ∧ r.n 0 = s.n 0 ∧ (r'.F 13 = q.F 13) ∧ r'.F 25 = q.F 25 ∧ (r'.F 20 = q.F 20 ∧ r'.F 24 = q.F 24) ∧ ∀ a : Nat, c ≤ a → a < (Int.toNat (Int32.toInt (s.n 0))) → s.K a 0 = some i → r'.F 32 a = 0) (N := (Int.toNat (Int32.toInt (s.n 0))))
    (fun c hc hk => (h.p c hc).2.1 i hk) (fun r r' hI => ⟨hI.1, hI.2.2.2.2.2.1.1, hI.2.2.2.2.2.1.2, hI.2.2.2.1⟩) ?_ ?_ _ (i + 1) s q 201 (by omega) (by omega) ⟨h, rfl, rfl, rfl, rfl, ⟨rfl, rfl⟩, fun a _ ha hk => h32 a ha hk⟩
  · intro c r r' k k' hc hk hI hkk
    obtain ⟨r1, r2, r3, r4, r5, r7, r6⟩ := hI
    have hc' : c < (Int.toNat (Int32.toInt (r.n 0))) := by rw [r3]; exact hc
    have hk' : r.K c 0 = some i := by rw [r2]; exact hk
    have g15 := (r1.giver hc' hv (by omega)).mpr hk'
    have e2 : r.G c 2 = r'.F 13 c := (r1.b c hc').1
    have cl := r1.claim0 hc' hk' (hb c) (by rw [r5]; exact ht)
    have z32 := r6 c (Nat.le_refl _) hc hk
    have t0 : (0 : Int32).toInt = 0 := by decide
    unfold b_tell b_goes
    rw [e2]
    by_cases c4 : (r'.F 13 c).toInt = 4 ∧ (r.G c 12).toInt = 0
    · rw [if_pos c4, if_pos ⟨g15, c4.1, cl.mp c4.2, by rw [z32]; exact t0⟩]
      have hv' : (Int32.ofNat c).toInt = (c : Int) := ofNat_toInt (by omega)
      obtain ⟨a1, a2⟩ := ask_sim r1 hc' hv' c4.1 z32 (fun g hg => by rw [hk'] at hg; cases hg; rw [r4]; exact ho)
      refine hkk _ _ ⟨a1, by rw [a2.K]; exact r2, by rw [a2.n0]; exact r3, by rw [a2.Q 13 (by decide)]; exact r4, by rw [a2.Q 25 (by decide)]; exact r5, ⟨by rw [a2.Q 20 (by decide)]; exact r7.1, by rw [a2.Q 24 (by decide)]; exact r7.2⟩, fun a ha1 ha2 ha3 => ?_⟩
      rw [a2.Q 32 (by decide)]
      show upd (r'.F 32) c 1 a = 0
      rw [upd_n _ _ (by omega)]
      exact r6 a (by omega) ha2 ha3
    · rw [if_neg c4, if_neg (fun z => c4 ⟨z.2.1, cl.mpr z.2.2.1⟩)]
      exact hkk _ _ ⟨r1, r2, r3, r4, r5, r7, fun a ha => r6 a (by omega)⟩
  · intro c r r' k' hc hk hI
    obtain ⟨r1, r2, r3, r4, r5, r7, r6⟩ := hI
    have hc' : c < (Int.toNat (Int32.toInt (r.n 0))) := by rw [r3]; exact hc
    refine ⟨r', ?_, r1, r2, r3, r4, r5, r7, fun a ha => r6 a (by omega)⟩
    unfold b_goes
    rw [if_neg (fun z => hk (by rw [← r2]; exact (r1.giver hc' hv (by omega)).mp z.1))] <;> rfl
/-- a RUN is over: it leaves its THREAD, HANDLERS are asked -/
def ovr (i : Nat) (st : Int32) (s : C9) : C9 := (C9.mk s.n s.f s.T (u2 (u2 (u2 s.G i 2 st) i 7 (s.n 2)) i 14 0) s.K s.F)
def t_goes (v st : Int32) (q1 : Q10) : Q10 :=
  if st.toInt = 4 then
    if (q1.F 15 (Int32.toNatClampNeg v)).toInt = -1 then f_goes v (r_asks v q1)
    else if ((q1.F 13 (Int32.toNatClampNeg (q1.F 15 (Int32.toNatClampNeg v)))).toInt = 3 ∨ (q1.F 13 (Int32.toNatClampNeg (q1.F 15 (Int32.toNatClampNeg v)))).toInt = 4) ∧ (q1.F 26 (Int32.toNatClampNeg v)).toInt = 0 then f_goes v (r_asks v q1)
    else f_goes v q1
  else f_goes v q1
theorem r_goes_eq (v st : Int32) (q : Q10) : r_goes v st q = t_goes v st (r_leaves v ⟨upF (upF (upF (upF q.F 13 (upd (q.F 13) (Int32.toNatClampNeg v) st)) 22 (upd (q.F 22) (Int32.toNatClampNeg v) (q.n 12))) 36 (upd (q.F 36) (Int32.toNatClampNeg v) 0)) 39 (upd (q.F 39) (Int32.toNatClampNeg v) 0), q.n⟩) := rfl
theorem u1_same {α : Type} {f : Nat → α} {k : Nat} {v : α} (h : f k = v) : u1 f k v = f := by rw [← h, u1_id] <;> rfl
theorem goes_sim (h : Rl R kp s q) (hi : i < (Int.toNat (Int32.toInt (s.n 0)))) (hv : v.toInt = (i : Int)) (hs : (q.F 13 i).toInt = 1) (hb : (q.F 24 i).toInt = 0) (ht : (q.F 25 i).toInt = 0) (h9 : (s.G i 9).toInt = 0) {st : Int32} (hst : st.toInt = 3 ∨ st.toInt = 4)
    (h4 : st.toInt = 4 → s.G i 17 = q.F 28 i ∧ s.G i 18 = q.F 29 i ∧ s.G i 19 = q.F 30 i ∧ s.G i 20 = q.F 31 i ∧ (s.G i 21).toInt = 0 ∧ 0 ≤ (q.F 28 i).toInt ∧ (q.F 28 i).toInt ≤ 7) :
    Rl R kp (c_close i (ovr i st s)) (r_goes v st q) := by
  have hN := h.N200
  have hB := (h.b i hi).2.2.2.1 hs
  have e3 : s.G i 3 = q.F 18 i := (h.a i hi).1.2.2.1
  have e2c : s.n 2 = q.n 12 := h.u.1.2.2.1
  have tm : (-1 : Int32).toInt = -1 := by decide
  have t0 : (0 : Int32).toInt = 0 := by decide
  have n4 : ¬ (q.F 13 i).toInt = 4 := by omega
  obtain ⟨t, htt⟩ : ∃ t : Nat, (q.F 18 i).toInt = (t : Int) := ⟨(q.F 18 i).toInt.toNat, by omega⟩
  have g3 : (ovr i st s).G i 3 = q.F 18 i := by
    show u2 (u2 (u2 s.G i 2 st) i 7 (s.n 2)) i 14 0 i 3 = _
    rw [u2_n2 _ _ _ _ (by decide), u2_n2 _ _ _ _ (by decide), u2_n2 _ _ _ _ (by decide), e3] <;> rfl
  have g2 : (ovr i st s).G i 2 = st := by
    show u2 (u2 (u2 s.G i 2 st) i 7 (s.n 2)) i 14 0 i 2 = _
    rw [u2_n2 _ _ _ _ (by decide), u2_n2 _ _ _ _ (by decide), u2_eq] <;> rfl
  obtain ⟨F', l1, l2, l3, l4⟩ := leave_spec i (ovr i st s) (by rw [g3]; exact hB)
  have hcl : c_close i (ovr i st s) = k_tell i (k_leave i (ovr i st s)) := by
    have gl : (k_leave i (ovr i st s)).G i 2 = st := by rw [l1]; show u2 (ovr i st s).G i 3 (-1) i 2 = st; rw [u2_n2 _ _ _ _ (by decide), g2]
    unfold c_close d_close
    rw [if_pos (show ¬ ((ovr i st s).G i 2).toInt = 1 by rw [g2]; omega), if_pos (show ((k_leave i (ovr i st s)).G i 2).toInt = 3 ∨ ((k_leave i (ovr i st s)).G i 2).toInt = 4 by rw [gl]; exact hst)] <;> rfl
  rw [hcl, l1, g3, show (q.F 18 i).toInt.toNat = t by omega]
  rw [r_goes_eq, ix_nat hv]
  have q18 : Int32.toNatClampNeg (upF (upF (upF (upF q.F 13 (upd (q.F 13) i st)) 22 (upd (q.F 22) i (q.n 12))) 36 (upd (q.F 36) i 0)) 39 (upd (q.F 39) i 0) 18 i) = t := ix_nat htt
  obtain ⟨q1, hq1⟩ : ∃ q1 : Q10, q1 = ⟨upF (upF (upF (upF (upF (upF q.F 13 (upd (q.F 13) i st)) 22 (upd (q.F 22) i (q.n 12))) 36 (upd (q.F 36) i 0)) 39 (upd (q.F 39) i 0)) 10 (upd (upF (upF (upF (upF q.F 13 (upd (q.F 13) i st)) 22 (upd (q.F 22) i (q.n 12))) 36 (upd (q.F 36) i 0)) 39 (upd (q.F 39) i 0) 10) t (-1))) 18 (upd (upF (upF (upF (upF q.F 13 (upd (q.F 13) i st)) 22 (upd (q.F 22) i (q.n 12))) 36 (upd (q.F 36) i 0)) 39 (upd (q.F 39) i 0) 18) i (-1)), q.n⟩ := ⟨_, rfl⟩
  have hL : r_leaves v ⟨upF (upF (upF (upF q.F 13 (upd (q.F 13) i st)) 22 (upd (q.F 22) i (q.n 12))) 36 (upd (q.F 36) i 0)) 39 (upd (q.F 39) i 0), q.n⟩ = q1 := by
    unfold r_leaves
    rw [ix_nat hv]
    show Q10.mk (upF (upF _ 10 (upd _ (Int32.toNatClampNeg (upF (upF (upF (upF q.F 13 (upd (q.F 13) i st)) 22 (upd (q.F 22) i (q.n 12))) 36 (upd (q.F 36) i 0)) 39 (upd (q.F 39) i 0) 18 i)) (-1))) 18 _) _ = q1
    rw [q18, hq1] <;> rfl
  rw [hL]
  clear hL
  obtain ⟨s2, hs2⟩ : ∃ s2 : C9, s2 = ⟨s.n, s.f, u1 s.T t none, u2 (ovr i st s).G i 3 (-1), s.K, F'⟩ := ⟨_, rfl⟩
  have hR : Rel R kp (pb0 q1) (bk0 q1) s2 q1 := by
    rw [hq1, hs2]
    refine ⟨h.u, h.z, h.l, RT.leave (((h.t.fG i 2 st (by decide)).fG i 7 (s.n 2) (by decide)).fG i 14 0 (by decide)) hi (by show ((ovr i st s).G i 3).toInt = _; rw [g3]; exact htt) (by omega), ?_, ?_, ?_, ?_, ?_, ?_, ?_, ?_, ?_, h.j, (((h.k.fG i 2 st (by decide)).fG i 7 (s.n 2) (by decide)).fG i 14 0 (by decide)).fG i 3 (-1) (by decide)⟩
    · have z := (((h.a.fG i 2 st (by decide)).ended i (s.n 2)).fG i 14 0 (by decide)).thr i (-1)
      rw [e2c] at z
      show RA _ (u2 (u2 (u2 (u2 s.G i 2 st) i 7 (s.n 2)) i 14 0) i 3 (-1)) _ _ _ _ _ _ _ _ (upd (q.F 22) i (q.n 12)) _
      rw [e2c]; exact z
    · exact (((h.b.st i (v := st) (t := -1) (by omega) (fun z => by omega) (fun _ => rfl)).fG i 7 (s.n 2) (by decide)).fG i 14 0 (by decide)).fG i 3 (-1) (by decide)
    · exact ((((h.c.over i hst ht hb h9).fG i 2 st (by decide)).fG i 7 (s.n 2) (by decide)).fG i 14 0 (by decide)).fG i 3 (-1) (by decide)
    · refine RD.mono ((((h.d.fG i 2 st (by decide)).fG i 7 (s.n 2) (by decide)).fG i 14 0 (by decide)).fG i 3 (-1) (by decide)) (fun g c w => ?_)
      show ¬ (q.F 24 g).toInt = 0 ∧ ((upd (q.F 13) i st g).toInt = 2 ∨ (upd (q.F 13) i st c).toInt = 3 ∨ (upd (q.F 13) i st c).toInt = 4)
      have eg : g ≠ i := fun e => w.1 (by rw [e]; exact hb)
      refine ⟨w.1, ?_⟩
      rw [upd_n _ _ eg]
      by_cases ec : c = i
      · subst ec; rw [upd_s]; exact Or.inr hst
      · rw [upd_n _ _ ec]; exact w.2
    · exact ((((h.e.over i hst n4 h4).fG i 2 st (by decide)).fG i 7 (s.n 2) (by decide)).fG i 14 0 (by decide)).fG i 3 (-1) (by decide)
    · exact h.f.leave i l2 l3 (fun j hj => by show F' i 0 j = _; rw [l4 j hj]; show (if (s.f 0 j).toInt = 0 then 0 else s.F i 0 j) = _; rw [(h.z.1 j hj).1] <;> rfl) (by omega)
    · have z0 := (h.g.fG i 2 st (by decide)).fG i 7 (s.n 2) (by decide)
      have z1 := RS.set (G' := u2 (u2 (u2 s.G i 2 st) i 7 (s.n 2)) i 14 0) (F' := s.F) (pb' := pb0 q) (kp' := kp) (o' := q.n 44) (c13 := upd (q.F 13) i st) (c36 := upd (q.F 36) i 0) (c37 := q.F 37) (c38 := q.F 38) (c39 := upd (q.F 39) i 0) (c40 := q.F 40) (c41 := q.F 41) (c42 := q.F 42) (c43 := q.F 43) z0 i (by
          have w := RS1.over (z0 i hi) (st' := st) hst (p' := pb0 q i) (by show 0 ≤ (q.F 20 i).toInt; exact (h.a i hi).2.2.2.2.2.1) (u2 (u2 s.G i 2 st) i 7 (s.n 2) i 15) 0
          rw [u1_same (show u1 (u2 (u2 s.G i 2 st) i 7 (s.n 2) i) 14 0 15 = _ from u1_ne _ _ (by decide))] at w
          rw [upd_s, upd_s, upd_s, u2_row]
          exact w) (fun a ha => u2_n1 _ _ _ ha) (fun _ _ => rfl) (fun a ha => upd_n _ _ ha) (fun a ha => upd_n _ _ ha) (fun a ha => upd_n _ _ ha) (fun _ _ _ _ => rfl) (fun _ _ _ _ => rfl) (fun _ _ _ _ => rfl) (fun _ _ _ _ => rfl) (fun _ _ _ _ => rfl) (fun _ _ _ _ => rfl) (fun _ _ _ => Int.le_refl _) (Int.le_refl _) (Int.le_refl _)
      exact (z1.fG i 3 (-1) (by decide)).cF (fun a k h1 h2 => by
        show F' a k = s.F a k
        by_cases e : a = i
        · subst e; exact l3 k (by omega)
        · rw [l2 a e]; rfl)
    · exact (((h.p.fG i 2 st (by decide)).fG i 7 (s.n 2) (by decide)).fG i 14 0 (by decide)).fG i 3 (-1) (by decide)
    · exact ((((h.x.fG i 2 st (by decide)).fG i 7 (s.n 2) (by decide)).fG i 14 0 (by decide)).fG i 3 (-1) (by decide)).cF (fun a => by
        show F' a 9 = s.F a 9
        by_cases e : a = i
        · subst e; exact l3 9 (by decide)
        · rw [l2 a e]; rfl)
  have f13 : q1.F 13 = upd (q.F 13) i st := by rw [hq1]; rfl
  have f25 : q1.F 25 = q.F 25 := by rw [hq1]; rfl
  have f24 : q1.F 24 = q.F 24 := by rw [hq1]; rfl
  have f32 : q1.F 32 = q.F 32 := by rw [hq1]; rfl
  have f20 : q1.F 20 = q.F 20 := by rw [hq1]; rfl
  have hi2 : i < (Int.toNat (Int32.toInt (s2.n 0))) := by rw [hs2]; exact hi
  have K2 : s2.K = s.K := by rw [hs2] <;> rfl
  have n2 : s2.n 0 = s.n 0 := by rw [hs2] <;> rfl
  have s2st : s2.G i 2 = st := by rw [hs2]; show u2 (ovr i st s).G i 3 (-1) i 2 = st; rw [u2_n2 _ _ _ _ (by decide), g2]
  have hov : (q1.F 13 i).toInt = 3 ∨ (q1.F 13 i).toInt = 4 := by rw [f13, upd_s]; exact hst
  have hbi : ∀ c : Nat, ¬ bk0 q1 i c := fun c z => z.1 (by rw [f24]; exact hb)
  have hti : (q1.F 25 i).toInt = 0 := by rw [f25]; exact ht
  have z32 : ∀ c : Nat, c < (Int.toNat (Int32.toInt (s2.n 0))) → s2.K c 0 = some i → q1.F 32 c = 0 := fun c hc hk => by
    rw [f32]
    have hc' : c < (Int.toNat (Int32.toInt (s.n 0))) := by rw [← n2]; exact hc
    have hk' : s.K c 0 = some i := by rw [← K2]; exact hk
    have : (q.F 32 c).toInt = 0 := Classical.byContradiction (fun z => by have w := ((h.e c hc').2 z).2 i hk'; omega)
    exact i_inj (by rw [this]; exact t0.symm)
  have z32i : q1.F 32 i = 0 := by
    rw [f32]
    have : (q.F 32 i).toInt = 0 := Classical.byContradiction (fun z => n4 ((h.e i hi).2 z).1)
    exact i_inj (by rw [this]; exact t0.symm)
  have plain : Rel R kp (pb0 q1) (bk0 q1) (cit s2.K b_tell (fun s => s) 201 (s2.K i 2) s2) (f_goes v q1) ∧ (f_goes v q1).F 20 = q1.F 20 ∧ (f_goes v q1).F 24 = q1.F 24 ∧ (f_goes v q1).F 13 = q1.F 13 := kids_sim hR hi2 hv hov z32 hbi hti
  have asked : st.toInt = 4 → (∀ g : Nat, s2.K i 0 = some g → (q1.F 13 g).toInt = 3 ∨ (q1.F 13 g).toInt = 4) → Rel R kp (pb0 q1) (bk0 q1) (cit s2.K b_tell (fun s => s) 201 ((k_ask i s2).K i 2) (k_ask i s2)) (f_goes v (r_asks v q1)) ∧ (f_goes v (r_asks v q1)).F 20 = q1.F 20 ∧ (f_goes v (r_asks v q1)).F 24 = q1.F 24 ∧ (f_goes v (r_asks v q1)).F 13 = q1.F 13 := fun h4' hg => by
    obtain ⟨a1, a2⟩ := ask_sim hR hi2 hv (by rw [f13, upd_s]; exact h4') z32i hg
    have kk : (k_ask i s2).K = s2.K := a2.K
    have hz := kids_sim a1 (by rw [a2.n0]; exact hi2) hv (by rw [a2.Q 13 (by decide)]; exact hov) (fun c hc hk => by
      rw [a2.Q 32 (by decide)]
      rw [a2.n0] at hc
      rw [kk] at hk
      have : c ≠ i := fun e => by
        subst e
        have hc' : c < (Int.toNat (Int32.toInt (s.n 0))) := by rw [← n2]; exact hc
        have := ((h.a c hc').2.1.2.2.2 c (by rw [← K2]; exact hk)).1
        omega
      show upd (q1.F 32) i 1 c = 0
      rw [upd_n _ _ this]; exact z32 c hc hk) hbi (by rw [a2.Q 25 (by decide)]; exact hti)
    rw [kk] at hz ⊢
    exact ⟨hz.1, by rw [hz.2.1, a2.Q 20 (by decide)]; rfl, by rw [hz.2.2.1, a2.Q 24 (by decide)]; rfl, by rw [hz.2.2.2, a2.Q 13 (by decide)]; rfl⟩
  -- the reference's own relation names its own arrays
  have fin : ∀ (r : C9) (r' : Q10), Rel R kp (pb0 q1) (bk0 q1) r r' → r'.F 20 = q1.F 20 → r'.F 24 = q1.F 24 → r'.F 13 = q1.F 13 → Rl R kp r r' := fun r r' hr e20 e24 e13 => by
    have h1 : pb0 r' = pb0 q1 := by funext a; show (r'.F 20 a).toInt = _; rw [e20]
    have h2 : bk0 r' = bk0 q1 := by funext a b; show (¬ (r'.F 24 a).toInt = 0 ∧ ((r'.F 13 a).toInt = 2 ∨ (r'.F 13 b).toInt = 3 ∨ (r'.F 13 b).toInt = 4)) = _; rw [e24, e13]
    unfold Rl
    rw [h1, h2]
    exact hr
  have finP := fin _ _ plain.1 plain.2.1 plain.2.2.1 plain.2.2.2
  have finA := fun h4' hg => fin _ _ (asked h4' hg).1 (asked h4' hg).2.1 (asked h4' hg).2.2.1 (asked h4' hg).2.2.2
  show Rl R kp (k_tell i ⟨s.n, s.f, u1 s.T t none, u2 (ovr i st s).G i 3 (-1), s.K, F'⟩) _
  rw [← hs2]
  unfold k_tell t_goes
  rw [s2st, ix_nat hv]
  have gN := hR.giverN hi2
  have f26 : q1.F 26 = q.F 26 := by rw [hq1]; rfl
  cases hK : s2.K i 0 with
  | none =>
    have g1 : (q1.F 15 i).toInt = -1 := gN.mpr hK
    show Rl R kp (if st.toInt = 4 then _ else _) _
    by_cases c : st.toInt = 4
    · rw [if_pos c, if_pos c, if_pos g1]
      exact finA c (fun g hg => by rw [hK] at hg; cases hg)
    · rw [if_neg c, if_neg c]; exact finP
  | some g =>
    have g1 : ¬ (q1.F 15 i).toInt = -1 := fun z => by rw [gN.mp z] at hK; cases hK
    have hgl := (hR.a i hi2).2.1.2.2.2 g hK
    have hgN : g < (Int.toNat (Int32.toInt (s2.n 0))) := by omega
    have hN2 := hR.N200
    have eg : q1.F 15 i = Int32.ofNat g := by
      have e := (hR.a i hi2).2.1.1
      rw [hK] at e; exact e.symm
    have ixg : Int32.toNatClampNeg (q1.F 15 i) = g := by rw [eg]; exact ix_ofNat (by omega)
    have e2g : s2.G g 2 = q1.F 13 g := (hR.b g hgN).1
    show Rl R kp (if st.toInt = 4 ∧ ((s2.G g 2).toInt = 3 ∨ (s2.G g 2).toInt = 4) ∧ (s2.G i 12).toInt = 0 then _ else _) _
    rw [e2g, ixg]
    by_cases c : st.toInt = 4
    · rw [if_pos c, if_neg g1]
      by_cases cg : (q1.F 13 g).toInt = 3 ∨ (q1.F 13 g).toInt = 4
      · have hC := (hR.c g hgN).2.2.2.2.1 cg
        have cl := hR.claim0 hi2 hK (fun z => z.1 hC.2.1) hC.1
        by_cases c12 : (s2.G i 12).toInt = 0
        · rw [if_pos ⟨c, cg, c12⟩, if_pos ⟨cg, cl.mp c12⟩]
          exact finA c (fun g' hg' => by rw [hK] at hg'; cases hg'; exact cg)
        · rw [if_neg (fun z => c12 z.2.2), if_neg (fun z => c12 (cl.mpr z.2))]; exact finP
      · rw [if_neg (fun z => cg z.2.1), if_neg (fun z => cg z.1)]; exact finP
    · rw [if_neg (fun z => c z.1), if_neg c]; exact finP
end

/- ---------- a FAILURE, caught or not ---------- -/
theorem tfd_cut {b : Int32} {g : Nat → Int32} {x : Int32} {m : Nat} (hb : b.toInt = (m : Int)) : ∀ n : Nat, tfd b g x (m + n) = tfd b g x m
  | 0 => rfl
  | n + 1 => by rw [show m + (n + 1) = (m + n) + 1 by omega, tfd_s, if_neg (by omega), tfd_cut hb n] <;> rfl
theorem tfd_try {b : Int32} {g : Nat → Int32} {F : Nat → Nat → Int32} {v x : Int32} {i m : Nat} (hv : v.toInt = (i : Int)) (hi : i < 200) (hb : b.toInt = (m : Int)) (hm : m ≤ 24) (hg : ∀ k : Nat, k < m → g k = F 40 (24 * i + k)) :
    ∀ n : Nat, n ≤ m → (tfd b g x n = -1 ∧ rtry F v x n = -1) ∨ ∃ k : Nat, k < n ∧ tfd b g x n = (k : Int) ∧ rtry F v x n = Int32.ofNat k
  | 0, _ => Or.inl ⟨tfd_0 _ _ _, rtry_0 _ _ _⟩
  | n + 1, h => by
    rw [tfd_s, rtry_s]
    have z := ix24 (s := Int32.ofNat n) (j := n) hv hi (ofNat_toInt (by omega)) (by omega)
    rw [z.1, hg n (by omega)]
    by_cases e : (F 40 (24 * i + n)).toInt = x.toInt ∨ (F 40 (24 * i + n)).toInt = 8
    · rw [if_pos ⟨by omega, e⟩, if_neg (fun w => e.elim w.1 w.2)]
      exact Or.inr ⟨n, by omega, rfl, rfl⟩
    · rw [if_neg (fun q => e q.2), if_pos ⟨fun w => e (Or.inl w), fun w => e (Or.inr w)⟩]
      rcases tfd_try hv hi hb hm hg n (by omega) with q | ⟨k, q1, q2⟩
      · exact Or.inl q
      · exact Or.inr ⟨k, by omega, q2⟩
/-- BINDINGS since a TRY: those from c on -/
theorem ebs_eq {mk : Int32} {g : Nat → Int32} {b0 c : Nat} (hb0 : b0 ≤ 24) (hc : c ≤ b0) (hP : ∀ k : Nat, k < b0 → (mk.toInt < (g k).toInt ↔ c ≤ k)) : ∀ (n : Nat) (b : Int32), n ≤ 24 → b.toInt = ((max c (min n b0) : Nat) : Int) → ebs mk g n b = Int32.ofNat c
  | 0, b, _, hb => by rw [ebs_0]; exact (i_of (by omega)).symm
  | n + 1, b, hn, hb => by
    rw [ebs_s]
    by_cases h0 : n < b0
    · by_cases hcn : c ≤ n
      · rw [if_pos ⟨by omega, (hP n h0).mpr hcn⟩]
        exact ebs_eq hb0 hc hP n _ (by omega) (by rw [ofNat_toInt (by omega)]; omega)
      · rw [if_neg (fun w => hcn ((hP n h0).mp w.2))]
        exact ebs_eq hb0 hc hP n _ (by omega) (by omega)
    · rw [if_neg (fun w => by omega)]
      exact ebs_eq hb0 hc hP n _ (by omega) (by omega)
theorem upd_upd (f : Nat → Int32) (i : Nat) (x y : Int32) : upd (upd f i x) i y = upd f i y := by
  funext j; unfold upd; by_cases e : j = i
  · rw [if_pos e, if_pos e] <;> rfl
  · rw [if_neg e, if_neg e, if_neg e] <;> rfl
theorem upd_id (f : Nat → Int32) (i : Nat) {x : Int32} (h : f i = x) : upd f i x = f := by
  funext j; unfold upd; by_cases e : j = i
  · rw [if_pos e, e, h] <;> rfl
  · rw [if_neg e] <;> rfl
theorem rpop_eq {F : Nat → Nat → Int32} {v t : Int32} {i b0 c tn : Nat} (hv : v.toInt = (i : Int)) (hi : i < 200) (hb0 : b0 ≤ 24) (hc : c ≤ b0) (ht : Int32.toNatClampNeg (24 * v + t) = tn) (hP : ∀ k : Nat, k < b0 → ((F 43 tn).toInt ≤ (F 42 (24 * i + k)).toInt ↔ c ≤ k)) :
    ∀ (n : Nat) (f : Nat → Int32) (b : Nat), (f i).toInt = (b : Int) → c ≤ b → b ≤ b0 → b - c < n → rpop F v t 0 n f = upd f i (Int32.ofNat c)
  | 0, f, b, _, _, _, h => by omega
  | n + 1, f, b, hf, h1, h2, h3 => by
    rw [rpop_s, ix_nat hv, ht]
    by_cases e : b = c
    · rw [if_neg (fun w => by
        have h24 := (ix24 (s := f i) (j := b) hv hi hf (by omega)).2
        have hd : (24 * v + f i - 1).toInt = (24 * v + f i).toInt - 1 := dec_toInt (by omega)
        have hx : Int32.toNatClampNeg (24 * v + f i - 1) = 24 * i + (b - 1) := ix_nat (by omega)
        rw [hx] at w
        have := (hP (b - 1) (by omega)).mp w.2
        omega)]
      exact (upd_id f i (i_of (by omega)).symm).symm
    · have h24 := (ix24 (s := f i) (j := b) hv hi hf (by omega)).2
      have hd : (24 * v + f i - 1).toInt = (24 * v + f i).toInt - 1 := dec_toInt (by omega)
      have hx : Int32.toNatClampNeg (24 * v + f i - 1) = 24 * i + (b - 1) := ix_nat (by omega)
      have hf1 : (f i - 1).toInt = (f i).toInt - 1 := dec_toInt (by omega)
      rw [hx, if_pos ⟨by omega, (hP (b - 1) (by omega)).mpr (by omega)⟩, rpop_eq hv hi hb0 hc ht hP n _ (b - 1) (by rw [upd_s]; omega) (by omega) (by omega) (by omega), upd_upd] <;> rfl
/-- a border in a row that rises -/
theorem border (p : Nat → Prop) : ∀ b : Nat, (∀ k l : Nat, k < l → l < b → p k → p l) → ∃ c : Nat, c ≤ b ∧ ∀ k : Nat, k < b → (p k ↔ c ≤ k)
  | 0, _ => ⟨0, Nat.le_refl _, fun k h => by omega⟩
  | b + 1, h => by
    obtain ⟨c, hc, hp⟩ := border p b (fun k l h1 h2 h3 => h k l h1 (by omega) h3)
    by_cases e : c < b
    · refine ⟨c, by omega, fun k hk => ?_⟩
      by_cases ek : k = b
      · subst ek; exact ⟨fun _ => by omega, fun _ => h c k e (by omega) ((hp c e).mpr (Nat.le_refl _))⟩
      · exact hp k (by omega)
    · by_cases pb : p b
      · refine ⟨b, by omega, fun k hk => ?_⟩
        by_cases ek : k = b
        · subst ek; exact ⟨fun _ => Nat.le_refl _, fun _ => pb⟩
        · exact ⟨fun z => by have := (hp k (by omega)).mp z; omega, fun z => by omega⟩
      · refine ⟨b + 1, Nat.le_refl _, fun k hk => ?_⟩
        by_cases ek : k = b
        · subst ek; exact ⟨fun z => absurd z pb, fun z => by omega⟩
        · exact ⟨fun z => by have := (hp k (by omega)).mp z; omega, fun z => by omega⟩
section
variable {p p' kp : Int} {g : Nat → Int32} {B : Nat → Nat → Int32} {o st b36 b39 : Int32} {b37 b38 b40 b41 b42 b43 : Nat → Int32}
theorem RS1.pset (h : RS1 p kp g B o st b36 b37 b38 b39 b40 b41 b42 b43) (h1 : b36.toInt ≤ p') (h2 : b39.toInt ≤ p') : RS1 p' kp g B o st b36 b37 b38 b39 b40 b41 b42 b43 := by
  obtain ⟨⟨a1, a2, a3, a4, a5, a6⟩, h7, h8, h9⟩ := h
  exact ⟨⟨a1, a2, a3, h1, a5, a6⟩, h7, h8, fun q => ⟨⟨(h9 q).1.1, (h9 q).1.2.1, (h9 q).1.2.2.1, h2⟩, (h9 q).2⟩⟩
end
section
variable {N : Nat} {G : Nat → Nat → Int32} {K : Nat → Nat → Option Nat} {a13 a28 a29 a30 a31 a32 : Nat → Int32}
theorem RE.ownQ (h : RE N G K a13 a28 a29 a30 a31 a32) (i : Nat) (hs : ¬ (a13 i).toInt = 4) (x y z w : Int32) : RE N G K a13 (upd a28 i x) (upd a29 i y) (upd a30 i z) (upd a31 i w) a32 := fun j hj => by
  by_cases e : j = i
  · subst e; exact ⟨fun q => absurd q hs, (h j hj).2⟩
  · rw [upd_n _ _ e, upd_n _ _ e, upd_n _ _ e, upd_n _ _ e]; exact h j hj
end
section
variable {R : Nat} {kp : Int} {s : C9} {q : Q10} {i : Nat} {v : Int32}
theorem fails_sim (h : Rl R kp s q) (hi : i < (Int.toNat (Int32.toInt (s.n 0)))) (hv : v.toInt = (i : Int)) (hs : (q.F 13 i).toInt = 1) (hb : (q.F 24 i).toInt = 0) (ht : (q.F 25 i).toInt = 0) (h9 : (s.G i 9).toInt = 0) {kd ca ot : Int32} (hkd : 0 ≤ kd.toInt ∧ kd.toInt ≤ 7) (hca : s.G i 19 = ca) (hot : s.G i 20 = ot) (h21 : (s.G i 21).toInt = 0) :
    Rl R kp (k_close i kd s) (r_fails v kd ca ot q) := by
  have hN := h.N200
  have e2 : s.G i 2 = q.F 13 i := (h.b i hi).1
  have e6 : s.G i 6 = q.F 20 i := (h.a i hi).1.2.2.2.2.1
  have n34 : ¬ ((q.F 13 i).toInt = 3 ∨ (q.F 13 i).toInt = 4) := by omega
  have n4 : ¬ (q.F 13 i).toInt = 4 := by omega
  have hg := h.g i hi
  obtain ⟨⟨g1, g2, g3, g4, g5, g6⟩, g7, g8, g9⟩ := id hg
  obtain ⟨⟨t1, t2, t3, t4⟩, t5⟩ := g9 n34
  obtain ⟨m, hm⟩ : ∃ m : Nat, (q.F 39 i).toInt = (m : Int) := ⟨(q.F 39 i).toInt.toNat, by omega⟩
  obtain ⟨b, hbm⟩ : ∃ b : Nat, (q.F 36 i).toInt = (b : Int) := ⟨(q.F 36 i).toInt.toNat, by omega⟩
  have h15 : (s.G i 15).toInt = (m : Int) := by rw [t1]; exact hm
  have zc := tfd_cut (g := s.F i 6) (x := kd) h15 (24 - m)
  rw [show m + (24 - m) = 24 by omega] at zc
  have kc : k_close i kd s = c_close i (k_fail i kd s) := by unfold k_close; rw [if_neg (by omega), if_neg (by omega)]
  rw [kc]
  unfold r_fails
  rw [ix_nat hv, ix_nat hm]
  rcases tfd_try (F := q.F) (x := kd) hv (by omega) h15 (by omega) (fun k hk => (t5 k (by omega)).1.1) m (Nat.le_refl _) with w | ⟨k, k1, k2, k3⟩
  · -- nobody catches it
    have hA : caA (s.G i 15) (s.F i 6) (s.F i 7) kd = -1 := by unfold caA; rw [zc, w.1, if_neg (by decide)]
    have hB : caB (s.G i 15) (s.F i 6) (s.F i 8) (s.F i 5) kd (s.G i 14) = s.G i 14 := by unfold caB; rw [zc, w.1, if_neg (by decide)]
    have hC : caN (s.G i 15) (s.F i 6) kd = s.G i 15 := by unfold caN; rw [zc, w.1, if_neg (by decide)]
    have tm : (-1 : Int32).toInt = -1 := by decide
    have kf : k_fail i kd s = ovr i 4 (C9.mk s.n s.f s.T (u2 (u2 s.G i 17 kd) i 18 (s.G i 6)) s.K s.F) := by
      unfold k_fail sco ovr
      dsimp +instances only [c9n, c9f, c9T, c9G, c9K, c9F, q10F, q10n]
      rw [hA, hB, hC, sco0, u2_id, u2_id, u2_id, u2_id, if_neg (fun z => z tm), sco14, u2_n2 _ _ _ _ (show (6 : Nat) ≠ 17 by decide)] <;> rfl
    unfold c_fails
    rw [kf, w.2, if_neg (by rw [tm]; decide), ix_nat hv]
    have hP : Rl R kp (C9.mk s.n s.f s.T (u2 (u2 s.G i 17 kd) i 18 (s.G i 6)) s.K s.F) ⟨upF (upF (upF (upF q.F 28 (upd (q.F 28) i kd)) 29 (upd (q.F 29) i (q.F 20 i))) 30 (upd (q.F 30) i ca)) 31 (upd (q.F 31) i ot), q.n⟩ :=
      ⟨h.u, h.z, h.l, (h.t.fG _ _ _ (by decide)).fG _ _ _ (by decide), (h.a.fG _ _ _ (by decide)).fG _ _ _ (by decide), (h.b.fG _ _ _ (by decide)).fG _ _ _ (by decide), (h.c.fG _ _ _ (by decide)).fG _ _ _ (by decide), (h.d.fG _ _ _ (by decide)).fG _ _ _ (by decide), ((h.e.own i 17 kd n4).own i 18 (s.G i 6) n4).ownQ i n4 kd (q.F 20 i) ca ot, h.f, (h.g.fG _ _ _ (by decide)).fG _ _ _ (by decide), (h.p.fG _ _ _ (by decide)).fG _ _ _ (by decide), (h.x.fG _ _ _ (by decide)).fG _ _ _ (by decide), h.j, (h.k.fG _ _ _ (by decide)).fG _ _ _ (by decide)⟩
    refine goes_sim hP hi hv hs hb ht (by show (u2 (u2 s.G i 17 kd) i 18 (s.G i 6) i 9).toInt = 0; rw [u2_n2 _ _ _ _ (by decide), u2_n2 _ _ _ _ (by decide)]; exact h9) (st := 4) (by decide) (fun _ => ?_)
    refine ⟨?_, ?_, ?_, ?_, ?_, ?_, ?_⟩
    · show u2 (u2 s.G i 17 kd) i 18 (s.G i 6) i 17 = upd (q.F 28) i kd i
      rw [u2_n2 _ _ _ _ (by decide), u2_eq, upd_s] <;> rfl
    · show u2 (u2 s.G i 17 kd) i 18 (s.G i 6) i 18 = upd (q.F 29) i (q.F 20 i) i
      rw [u2_eq, upd_s, e6] <;> rfl
    · show u2 (u2 s.G i 17 kd) i 18 (s.G i 6) i 19 = upd (q.F 30) i ca i
      rw [u2_n2 _ _ _ _ (by decide), u2_n2 _ _ _ _ (by decide), upd_s, hca] <;> rfl
    · show u2 (u2 s.G i 17 kd) i 18 (s.G i 6) i 20 = upd (q.F 31) i ot i
      rw [u2_n2 _ _ _ _ (by decide), u2_n2 _ _ _ _ (by decide), upd_s, hot] <;> rfl
    · show (u2 (u2 s.G i 17 kd) i 18 (s.G i 6) i 21).toInt = 0
      rw [u2_n2 _ _ _ _ (by decide), u2_n2 _ _ _ _ (by decide)]; exact h21
    · show 0 ≤ (upd (q.F 28) i kd i).toInt; rw [upd_s]; exact hkd.1
    · show (upd (q.F 28) i kd i).toInt ≤ 7; rw [upd_s]; exact hkd.2
  · -- the TRY k catches it
    obtain ⟨⟨u1_, u2_, u3, u4, u5, u6⟩, u7⟩ := t5 k (by omega)
    have hk24 : k < 24 := by omega
    have ok : (Int32.ofNat k).toInt = (k : Int) := ofNat_toInt (by omega)
    have ofk : Int32.ofInt (k : Int) = Int32.ofNat k := rfl
    obtain ⟨c, hc, hp⟩ := border (fun a => (q.F 43 (24 * i + k)).toInt ≤ (q.F 42 (24 * i + a)).toInt) b (fun a l h1 h2 h3 => by
      have : (q.F 42 (24 * i + a)).toInt < (q.F 42 (24 * i + l)).toInt := (g8 a l h1 (by omega)).2
      have h3 : (q.F 43 (24 * i + k)).toInt ≤ (q.F 42 (24 * i + a)).toInt := h3
      show (q.F 43 (24 * i + k)).toInt ≤ (q.F 42 (24 * i + l)).toInt
      omega)
    have hp' : ∀ a : Nat, a < b → ((s.F i 8 k).toInt < (s.F i 5 a).toInt ↔ c ≤ a) := fun a ha => (u7 a (by omega)).1.trans (hp a ha)
    have hA : caA (s.G i 15) (s.F i 6) (s.F i 7) kd = q.F 41 (24 * i + k) := by unfold caA; rw [zc, k2, if_pos (by omega)]; exact u2_
    have hC : caN (s.G i 15) (s.F i 6) kd = Int32.ofNat k := by unfold caN; rw [zc, k2, if_pos (by omega)]; exact ofk
    have hB : caB (s.G i 15) (s.F i 6) (s.F i 8) (s.F i 5) kd (s.G i 14) = Int32.ofNat c := by
      unfold caB; rw [zc, k2, if_pos (by omega)]
      exact ebs_eq (b0 := b) (by omega) hc hp' 24 _ (Nat.le_refl _) (by rw [g1, hbm]; omega)
    have htp : 0 < (q.F 41 (24 * i + k)).toInt := by have u5 : (k : Int) < (q.F 41 (24 * i + k)).toInt := u5; omega
    have hcp : (c : Int) ≤ (q.F 41 (24 * i + k)).toInt := Classical.byContradiction (fun z => by
      obtain ⟨d, hd⟩ : ∃ d : Nat, (q.F 41 (24 * i + k)).toInt = (d : Int) := ⟨(q.F 41 (24 * i + k)).toInt.toNat, by omega⟩
      have hdb : d < b := by omega
      have := (hp d hdb).mp ((u7 d (by omega)).2 (by show (q.F 41 (24 * i + k)).toInt ≤ _; omega))
      omega)
    have oc : (Int32.ofNat c).toInt = (c : Int) := ofNat_toInt (by omega)
    have kf : k_fail i kd s = (C9.mk s.n s.f s.T (u2 (u2 (u2 s.G i 14 (Int32.ofNat c)) i 15 (Int32.ofNat k)) i 6 (q.F 41 (24 * i + k))) s.K s.F) := by
      have tm : (-1 : Int32).toInt = -1 := by decide
      unfold k_fail sco
      dsimp +instances only [c9n, c9f, c9T, c9G, c9K, c9F, q10F, q10n]
      rw [hA, hB, hC, sco1415, u2_id, u2_id, u2_id, u2_id, if_pos (by omega)] <;> rfl
    have cl : c_close i (C9.mk s.n s.f s.T (u2 (u2 (u2 s.G i 14 (Int32.ofNat c)) i 15 (Int32.ofNat k)) i 6 (q.F 41 (24 * i + k))) s.K s.F) = (C9.mk s.n s.f s.T (u2 (u2 (u2 s.G i 14 (Int32.ofNat c)) i 15 (Int32.ofNat k)) i 6 (q.F 41 (24 * i + k))) s.K s.F) := by
      have e : (u2 (u2 (u2 s.G i 14 (Int32.ofNat c)) i 15 (Int32.ofNat k)) i 6 (q.F 41 (24 * i + k)) i 2).toInt = 1 := by rw [u2_n2 _ _ _ _ (by decide), u2_n2 _ _ _ _ (by decide), u2_n2 _ _ _ _ (by decide), e2]; exact hs
      unfold c_close d_close
      dsimp +instances only [c9n, c9f, c9T, c9G, c9K, c9F, q10F, q10n]
      rw [if_neg (by omega), if_neg (by omega)] <;> rfl
    have i24 := (ix24 (s := Int32.ofNat k) (j := k) hv (by omega) ok (by omega)).1
    have hrp : rpop q.F v (Int32.ofNat k) 0 (Int32.toNatClampNeg (q.F 36 i) + 1) (q.F 36) = upd (q.F 36) i (Int32.ofNat c) := rpop_eq hv (by omega) (by omega) hc i24 hp _ _ b hbm hc (Nat.le_refl _) (by rw [ix_nat hbm]; omega)
    unfold c_fails
    rw [kf, cl, k3, if_pos (by omega), ix_nat hv, i24, hrp]
    have u6 : (q.F 41 (24 * i + k)).toInt ≤ 24 := u6
    have u5 : (k : Int) < (q.F 41 (24 * i + k)).toInt := u5
    refine ⟨h.u, h.z, h.l, ((h.t.fG _ _ _ (by decide)).fG _ _ _ (by decide)).fG _ _ _ (by decide), ((h.a.fG _ _ _ (by decide)).fG _ _ _ (by decide)).place i (by omega), ((h.b.fG _ _ _ (by decide)).fG _ _ _ (by decide)).fG _ _ _ (by decide), ((h.c.fG _ _ _ (by decide)).fG _ _ _ (by decide)).place i hb, ((h.d.fG _ _ _ (by decide)).fG _ _ _ (by decide)).fG _ _ _ (by decide), ((h.e.fG _ _ _ (by decide)).fG _ _ _ (by decide)).fG _ _ _ (by decide), h.f, ?_, ((h.p.fG _ _ _ (by decide)).fG _ _ _ (by decide)).fG _ _ _ (by decide), ((h.x.fG _ _ _ (by decide)).fG _ _ _ (by decide)).fG _ _ _ (by decide), h.j, ((h.k.fG _ _ _ (by decide)).fG _ _ _ (by decide)).fG _ _ _ (by decide)⟩
    refine RS.fG ?_ _ _ _ (by decide)
    refine h.g.set i ?_ (fun a ha => by rw [u2_n1 _ _ _ ha, u2_n1 _ _ _ ha] <;> rfl) (fun _ _ => rfl) (fun _ _ => rfl) (fun a ha => upd_n _ _ ha) (fun a ha => upd_n _ _ ha) (fun _ _ _ _ => rfl) (fun _ _ _ _ => rfl) (fun _ _ _ _ => rfl) (fun _ _ _ _ => rfl) (fun _ _ _ _ => rfl) (fun _ _ _ _ => rfl) (fun a _ ha => by
      show (q.F 20 a).toInt ≤ (upd (q.F 20) i (q.F 41 (24 * i + k)) a).toInt
      rw [upd_n _ _ ha]; exact Int.le_refl _) (Int.le_refl _) (Int.le_refl _)
    have z1 := hg.less (b := Int32.ofNat c) (by omega) (by omega)
    have z2 := z1.lessT n34 (b := Int32.ofNat k) (by omega) (by omega)
    have z3 := z2.pset (p' := (upd (q.F 20) i (q.F 41 (24 * i + k)) i).toInt) (by rw [upd_s]; omega) (by rw [upd_s]; omega)
    show RS1 (upd (q.F 20) i (q.F 41 (24 * i + k)) i).toInt kp (u2 (u2 s.G i 14 (Int32.ofNat c)) i 15 (Int32.ofNat k) i) _ _ _ (upd (q.F 36) i (Int32.ofNat c) i) _ _ (upd (q.F 39) i (Int32.ofNat k) i) _ _ _ _
    rw [u2_row, u2_row, upd_s (q.F 36), upd_s (q.F 39)]
    exact z3
end

/- ---------- the end of a RUN; waiting ---------- -/
section
variable {N : Nat} {G : Nat → Nat → Int32} {K : Nat → Nat → Option Nat} {F : Nat → Nat → Nat → Int32} {pb : Nat → Int} {kp : Int} {o : Int32} {a13 a24 a25 a28 a29 a30 a31 a32 a36 a37 a38 a39 a40 a41 a42 a43 : Nat → Int32}
theorem RE.nst (h : RE N G K a13 a28 a29 a30 a31 a32) (i : Nat) {st : Int32} (h1 : ¬ ((a13 i).toInt = 3 ∨ (a13 i).toInt = 4)) (h2 : ¬ (st.toInt = 3 ∨ st.toInt = 4)) : RE N G K (upd a13 i st) a28 a29 a30 a31 a32 := fun j hj => by
  have z := h j hj
  by_cases e : j = i
  · subst e
    rw [upd_s]
    exact ⟨fun q => absurd (Or.inr q) h2, fun q => absurd (Or.inr (z.2 q).1) h1⟩
  · rw [upd_n _ _ e]
    refine ⟨z.1, fun q => ⟨(z.2 q).1, fun g hg => ?_⟩⟩
    by_cases eg : g = i
    · subst eg; exact absurd ((z.2 q).2 g hg) h1
    · rw [upd_n _ _ eg]; exact (z.2 q).2 g hg
theorem RS.nst (h : RS N pb kp G F o a13 a36 a37 a38 a39 a40 a41 a42 a43) (i : Nat) {st : Int32} (h1 : ¬ ((a13 i).toInt = 3 ∨ (a13 i).toInt = 4)) : RS N pb kp G F o (upd a13 i st) a36 a37 a38 a39 a40 a41 a42 a43 := fun j hj => by
  have z := h j hj
  by_cases e : j = i
  · subst e; rw [upd_s]; exact ⟨z.1, z.2.1, z.2.2.1, fun _ => z.2.2.2 h1⟩
  · rw [upd_n _ _ e]; exact z
end
theorem close_stay {i : Nat} {s : C9} : k_close i (-2) s = c_close i s := by
  have t : (-2 : Int32).toInt = -2 := by decide
  unfold k_close
  rw [if_neg (by rw [t]; decide), if_pos t] <;> rfl
theorem end_eq (i : Nat) (s : C9) : k_end i s = (ovr i 3 s, -2) := by
  unfold k_end sco ovr
  dsimp +instances only [c9n, c9f, c9T, c9G, c9K, c9F, q10F, q10n]
  rw [sco14] <;> rfl
section
variable {R : Nat} {kp : Int} {bk : Nat → Nat → Prop} {s : C9} {q : Q10} {i : Nat} {v : Int32}
theorem end_sim (h : Rl R kp s q) (hi : i < (Int.toNat (Int32.toInt (s.n 0)))) (hv : v.toInt = (i : Int)) (hs : (q.F 13 i).toInt = 1) (hb : (q.F 24 i).toInt = 0) (ht : (q.F 25 i).toInt = 0) (h9 : (s.G i 9).toInt = 0) : Rl R kp (k_close i (k_end i s).2 (k_end i s).1) (r_goes v 3 q) := by
  rw [end_eq]
  show Rl R kp (k_close i (-2) (ovr i 3 s)) _
  rw [close_stay]
  exact goes_sim h hi hv hs hb ht h9 (by decide) (fun z => absurd z (by decide))
theorem waits_sim (h : Rel R kp (pb0 q) bk s q) (hbk : ∀ g c : Nat, bk g c → g = i ∨ bk0 q g c) (hi : i < (Int.toNat (Int32.toInt (s.n 0)))) (hv : v.toInt = (i : Int)) (hs : (q.F 13 i).toInt = 1) (ht : (q.F 25 i).toInt = 0) (h9 : (s.G i 9).toInt = 0) (hp : (q.F 20 i).toInt < 24) : Rl R kp (k_close i (-2) (C9.mk s.n s.f s.T (u2 s.G i 2 2) s.K s.F)) (r_waits v q) := by
  have hN := h.N200
  have hB := (h.b i hi).2.2.2.1 hs
  have e3 : s.G i 3 = q.F 18 i := (h.a i hi).1.2.2.1
  have t2 : (2 : Int32).toInt = 2 := by decide
  have t1 : (1 : Int32).toInt = 1 := by decide
  have n34 : ¬ ((q.F 13 i).toInt = 3 ∨ (q.F 13 i).toInt = 4) := by omega
  obtain ⟨t, htt⟩ : ∃ t : Nat, (q.F 18 i).toInt = (t : Int) := ⟨(q.F 18 i).toInt.toNat, by omega⟩
  obtain ⟨s1, hs1⟩ : ∃ s1 : C9, s1 = (C9.mk s.n s.f s.T (u2 s.G i 2 2) s.K s.F) := ⟨_, rfl⟩
  have g3 : s1.G i 3 = q.F 18 i := by rw [hs1]; show u2 s.G i 2 2 i 3 = _; rw [u2_n2 _ _ _ _ (by decide), e3]
  have g2 : s1.G i 2 = 2 := by rw [hs1]; exact u2_eq _ _ _ _
  obtain ⟨F', l1, l2, l3, l4⟩ := leave_spec i s1 (by rw [g3]; exact hB)
  have gl : (k_leave i s1).G i 2 = 2 := by rw [l1]; show u2 s1.G i 3 (-1) i 2 = 2; rw [u2_n2 _ _ _ _ (by decide), g2]
  rw [close_stay, ← hs1]
  have hcl : c_close i s1 = k_leave i s1 := by
    unfold c_close d_close
    rw [if_pos (show ¬ (s1.G i 2).toInt = 1 by rw [g2]; decide), if_neg (show ¬ (((k_leave i s1).G i 2).toInt = 3 ∨ ((k_leave i s1).G i 2).toInt = 4) by rw [gl]; decide)] <;> rfl
  rw [hcl, l1, g3, show (q.F 18 i).toInt.toNat = t by omega]
  have hL : r_waits v q = ⟨upF (upF (upF (upF q.F 13 (upd (q.F 13) i 2)) 24 (upd (q.F 24) i 1)) 10 (upd (q.F 10) t (-1))) 18 (upd (q.F 18) i (-1)), q.n⟩ := by
    unfold r_waits r_leaves
    rw [ix_nat hv]
    show Q10.mk (upF (upF _ 10 (upd (q.F 10) (Int32.toNatClampNeg (q.F 18 i)) (-1))) 18 _) _ = _
    rw [ix_nat htt]
    rfl
  rw [hL, hs1]
  refine ⟨h.u, h.z, h.l, RT.leave (h.t.fG i 2 2 (by decide)) hi (by show (u2 s.G i 2 2 i 3).toInt = _; rw [u2_n2 _ _ _ _ (by decide), e3]; exact htt) (by omega), (h.a.fG i 2 2 (by decide)).thr i (-1), (h.b.st i (v := 2) (t := -1) (by omega) (fun z => by omega) (fun _ => rfl)).fG i 3 (-1) (by decide), ?_, ?_, ((h.e.nst i n34 (st := 2) (by omega)).fG i 2 2 (by decide)).fG i 3 (-1) (by decide), ?_, ?_, (h.p.fG i 2 2 (by decide)).fG i 3 (-1) (by decide), ?_, h.j, (h.k.fG i 2 2 (by decide)).fG i 3 (-1) (by decide)⟩
  · refine RC.fG (RC.fG ?_ i 2 2 (by decide)) i 3 (-1) (by decide)
    intro j hj
    have z := h.c j hj
    show s.G j 8 = q.F 25 j ∧ _ ∧ (_ → (¬ (upd (q.F 24) i 1 j).toInt = 0 ↔ ((upd (q.F 13) i 2 j).toInt = 2 ∨ _))) ∧ ((upd (q.F 13) i 2 j).toInt = 2 → _) ∧ (((upd (q.F 13) i 2 j).toInt = 3 ∨ (upd (q.F 13) i 2 j).toInt = 4) → _ ∧ (upd (q.F 24) i 1 j).toInt = 0 ∧ _) ∧ (¬ (upd (q.F 24) i 1 j).toInt = 0 → _)
    by_cases e : j = i
    · subst e; rw [upd_s, upd_s]
      exact ⟨z.1, z.2.1, fun _ => ⟨fun _ => Or.inl t2, fun _ => by omega⟩, fun _ => ⟨ht, h9⟩, fun w => by omega, fun _ => by rw [(h.a _ hj).1.2.2.2.2.1]; exact hp⟩
    · rw [upd_n _ _ e, upd_n _ _ e]; exact z
  · refine RD.mono ((h.d.fG i 2 2 (by decide)).fG i 3 (-1) (by decide)) (fun g c hg => ?_)
    show ¬ (upd (q.F 24) i 1 g).toInt = 0 ∧ ((upd (q.F 13) i 2 g).toInt = 2 ∨ (upd (q.F 13) i 2 c).toInt = 3 ∨ (upd (q.F 13) i 2 c).toInt = 4)
    by_cases e : g = i
    · subst e; rw [upd_s, upd_s]; exact ⟨by omega, Or.inl t2⟩
    · rw [upd_n _ _ e, upd_n _ _ e]
      have w := (hbk g c hg).resolve_left e
      refine ⟨w.1, ?_⟩
      by_cases ec : c = i
      · subst ec; exact Or.inl (w.2.resolve_right (by omega))
      · rw [upd_n _ _ ec]; exact w.2
  · exact h.f.leave i (fun a ha => by rw [hs1] at l2; exact l2 a ha) (fun k hk => by rw [hs1] at l3; exact l3 k hk) (fun j hj => by rw [hs1] at l4; show F' i 0 j = _; rw [l4 j hj]; show (if (s.f 0 j).toInt = 0 then 0 else s.F i 0 j) = _; rw [(h.z.1 j hj).1] <;> rfl) (by omega)
  · refine RS.cF (((h.g.nst i (st := 2) n34).fG i 2 2 (by decide)).fG i 3 (-1) (by decide)) (fun a k h1 h2 => ?_)
    show F' a k = s.F a k
    by_cases e : a = i
    · subst e; rw [l3 k (by omega), hs1] <;> rfl
    · rw [l2 a e, hs1] <;> rfl
  · refine RX.cF ((h.x.fG i 2 2 (by decide)).fG i 3 (-1) (by decide)) (fun a => ?_)
    show F' a 9 = s.F a 9
    by_cases e : a = i
    · subst e; rw [l3 9 (by decide), hs1] <;> rfl
    · rw [l2 a e, hs1] <;> rfl
end

/- ---------- children waited for ---------- -/
theorem cit_inv {σ ρ : Type} {P : ρ → Prop} {I : Nat → σ → Prop} {K : Nat → Nat → Option Nat} {g : Nat} {b : Nat → σ → (σ → ρ) → ρ} {fin : σ → ρ} {N : Nat}
    (hK : ∀ c, c < N → K c 0 = some g → K c 4 = nxk K g (c + 1) (N - (c + 1))) (hf : ∀ s, I N s → P (fin s))
    (hb : ∀ c s k, c < N → K c 0 = some g → I c s → (∀ s', I (c + 1) s' → P (k s')) → P (b c s k)) (hn : ∀ c s, c < N → K c 0 ≠ some g → I c s → I (c + 1) s) :
    ∀ n c s m, c + n = N → n ≤ m → I c s → P (cit K b fin m (nxk K g c n) s) := by
  intro n
  induction n with
  | zero =>
    intro c s m h _ hI
    rw [nxk_0]
    have : cit K b fin m none s = fin s := by
      cases m with
      | zero => rw [cit_0]
      | succ m => rw [cit_n] <;> rfl
    rw [this]; exact hf _ (by rw [← h]; exact hI)
  | succ n ih =>
    intro c s m h hm hI
    rw [nxk_s]
    by_cases e : K c 0 = some g
    · rw [if_pos e]
      cases m with
      | zero => omega
      | succ m =>
        rw [cit_s, hK c (by omega) e, show N - (c + 1) = n by omega]
        exact hb c s _ (by omega) e hI (fun s' h' => ih (c + 1) s' m (by omega) (by omega) h')
    · rw [if_neg e]; exact ih (c + 1) s m (by omega) (by omega) (hn c s (by omega) e hI)
theorem cit_itr2 {σ τ ρ ρ' : Type} {P : ρ → ρ' → Prop} {I : Nat → σ → τ → Prop} {K : Nat → Nat → Option Nat} {g : Nat} {b : Nat → σ → (σ → ρ) → ρ} {b' : Nat → τ → (τ → ρ') → ρ'} {fin : σ → ρ} {fin' : τ → ρ'} {N : Nat}
    (hK : ∀ c, c < N → K c 0 = some g → K c 4 = nxk K g (c + 1) (N - (c + 1)))
    (hf : ∀ s t, I N s t → P (fin s) (fin' t))
    (hb : ∀ c s t k, c < N → K c 0 = some g → I c s t → (∀ s' t', I (c + 1) s' t' → P (k s') (itr b' fin' (c + 1) (N - (c + 1)) t')) → P (b c s k) (b' c t (itr b' fin' (c + 1) (N - (c + 1)))))
    (hn : ∀ c s t k', c < N → K c 0 ≠ some g → I c s t → ∃ t', b' c t k' = k' t' ∧ I (c + 1) s t') :
    ∀ n c s t m, c + n = N → n ≤ m → I c s t → P (cit K b fin m (nxk K g c n) s) (itr b' fin' c n t) := by
  intro n
  induction n with
  | zero =>
    intro c s t m h _ hI
    rw [itr_0, nxk_0]
    have : cit K b fin m none s = fin s := by
      cases m with
      | zero => rw [cit_0]
      | succ m => rw [cit_n] <;> rfl
    rw [this]; exact hf _ _ (by rw [← h]; exact hI)
  | succ n ih =>
    intro c s t m h hm hI
    rw [itr_s, nxk_s]
    by_cases e : K c 0 = some g
    · rw [if_pos e]
      cases m with
      | zero => omega
      | succ m =>
        have hx := hb c s t (cit K b fin m (nxk K g (c + 1) n)) (by omega) e hI
        rw [show N - (c + 1) = n by omega] at hx
        rw [cit_s, hK c (by omega) e, show N - (c + 1) = n by omega]
        exact hx (fun s' t' h' => ih (c + 1) s' t' m (by omega) (by omega) h')
    · rw [if_neg e]
      obtain ⟨t', h1, h2⟩ := hn c s t (itr b' fin' (c + 1) n) (by omega) e hI
      rw [h1]
      exact ih (c + 1) s t' m (by omega) (by omega) h2
/-- the claims of i's children from x to y, below c -/
def stG (c : Nat) (K : Nat → Nat → Option Nat) (i : Nat) (x : Int) (y : Int32) (G : Nat → Nat → Int32) : Nat → Nat → Int32 := fun a b => if b = 12 ∧ i < a ∧ a < c ∧ K a 0 = some i ∧ (G a 12).toInt = x then y else G a b
theorem stG_ne {c : Nat} {K : Nat → Nat → Option Nat} {i : Nat} {x : Int} {y : Int32} {G : Nat → Nat → Int32} {a b : Nat} (h : b ≠ 12) : stG c K i x y G a b = G a b := by unfold stG; rw [if_neg (fun z => h z.1)]
theorem stG_0 (K : Nat → Nat → Option Nat) (i : Nat) (x : Int) (y : Int32) (G : Nat → Nat → Int32) : stG (i + 1) K i x y G = G := by
  funext a b; unfold stG; rw [if_neg (fun z => by omega)] <;> rfl
theorem stG_s {c : Nat} {K : Nat → Nat → Option Nat} {i : Nat} {x : Int} {y : Int32} {G : Nat → Nat → Int32} (hK : K c 0 = some i) (hi : i < c) : stG (c + 1) K i x y G = if (stG c K i x y G c 12).toInt = x then u2 (stG c K i x y G) c 12 y else stG c K i x y G := by
  have e0 : stG c K i x y G c 12 = G c 12 := by unfold stG; rw [if_neg (fun z => by omega)]
  rw [e0]
  funext a b
  by_cases ea : a = c
  · subst ea
    by_cases eb : b = 12
    · subst eb
      by_cases ex : (G a 12).toInt = x
      · rw [if_pos ex, u2_eq]; unfold stG; rw [if_pos ⟨rfl, hi, by omega, hK, ex⟩] <;> rfl
      · rw [if_neg ex]; unfold stG; rw [if_neg (fun z => ex z.2.2.2.2), if_neg (fun z => ex z.2.2.2.2)] <;> rfl
    · by_cases ex : (G a 12).toInt = x
      · rw [if_pos ex, u2_n2 _ _ _ _ eb, stG_ne eb, stG_ne eb] <;> rfl
      · rw [if_neg ex, stG_ne eb, stG_ne eb] <;> rfl
  · have : stG (c + 1) K i x y G a b = stG c K i x y G a b := by
      unfold stG
      by_cases z : b = 12 ∧ i < a ∧ a < c ∧ K a 0 = some i ∧ (G a 12).toInt = x
      · rw [if_pos z, if_pos ⟨z.1, z.2.1, by omega, z.2.2.2⟩] <;> rfl
      · rw [if_neg z, if_neg (fun w => z ⟨w.1, w.2.1, by omega, w.2.2.2⟩)] <;> rfl
    rw [this]
    by_cases ex : (G c 12).toInt = x
    · rw [if_pos ex, u2_n1 _ _ _ ea] <;> rfl
    · rw [if_neg ex] <;> rfl
theorem stG_n {c : Nat} {K : Nat → Nat → Option Nat} {i : Nat} {x : Int} {y : Int32} {G : Nat → Nat → Int32} (hK : K c 0 ≠ some i) : stG (c + 1) K i x y G = stG c K i x y G := by
  funext a b; unfold stG
  by_cases z : b = 12 ∧ i < a ∧ a < c ∧ K a 0 = some i ∧ (G a 12).toInt = x
  · rw [if_pos z, if_pos ⟨z.1, z.2.1, by omega, z.2.2.2⟩] <;> rfl
  · rw [if_neg z, if_neg (fun w => z ⟨w.1, w.2.1, by
      have : a ≠ c := fun e => hK (by rw [← e]; exact w.2.2.2.1)
      omega, w.2.2.2⟩)] <;> rfl
section
variable {N : Nat} {i : Nat} {s : C9}
theorem settle_spec (hN : N ≤ 200) (hi : i < N) (h2 : s.K i 2 = nxk s.K i (i + 1) (N - (i + 1))) (h4 : ∀ c : Nat, c < N → s.K c 0 = some i → s.K c 4 = nxk s.K i (c + 1) (N - (c + 1))) (hl : ∀ c : Nat, s.K c 0 = some i → c < N → i < c) : k_settle i s = (C9.mk s.n s.f s.T (stG N s.K i 1 2 s.G) s.K s.F) := by
  unfold k_settle
  rw [h2]
  refine cit_inv (P := fun r : C9 => r = (C9.mk s.n s.f s.T (stG N s.K i 1 2 s.G) s.K s.F)) (I := fun c (r : C9) => r = (C9.mk s.n s.f s.T (stG c s.K i 1 2 s.G) s.K s.F)) (N := N) h4 (fun r hr => hr) ?_ ?_ _ (i + 1) s 201 (by omega) (by omega) (by rw [stG_0] <;> rfl)
  · intro c r k hc hk hI hkk
    unfold b_settle
    rw [hI]
    dsimp +instances only [c9n, c9f, c9T, c9G, c9K, c9F, q10F, q10n]
    have z := stG_s (x := 1) (y := 2) (G := s.G) hk (hl c hk hc)
    by_cases e : (stG c s.K i 1 2 s.G c 12).toInt = 1
    · rw [if_pos e]; rw [if_pos e] at z; exact hkk _ (by rw [z] <;> rfl)
    · rw [if_neg e]; rw [if_neg e] at z; exact hkk _ (by rw [z] <;> rfl)
  · intro c r hc hk hI
    rw [hI, stG_n hk] <;> rfl
end
section
variable {R : Nat} {kp : Int} {pb : Nat → Int} {bk : Nat → Nat → Prop} {s : C9} {q : Q10} {i : Nat} {v : Int32}
theorem Rel.settle (h : Rel R kp pb bk s q) (hi : i < (Int.toNat (Int32.toInt (s.n 0)))) {s' : C9} (hK : s'.K = s.K) : k_settle i s' = (C9.mk s'.n s'.f s'.T (stG ((Int.toNat (Int32.toInt (s.n 0)))) s'.K i 1 2 s'.G) s'.K s'.F) :=
  settle_spec h.N200 hi (by rw [hK]; exact (h.p i hi).1) (fun c hc hk => by rw [hK] at hk ⊢; exact (h.p c hc).2.1 i hk) (fun c hk hc => by rw [hK] at hk; exact ((h.a c hc).2.1.2.2.2 i hk).1)
/-- are all over that it waits for -/
theorem aw_sim (h : Rel R kp pb bk s q) (hi : i < (Int.toNat (Int32.toInt (s.n 0)))) (hv : v.toInt = (i : Int)) (ht : (q.F 25 i).toInt = 0) : (k_aw s.K s.G i = true ∧ ¬ (r_aw v q).toInt = 0 ∧ ∀ c : Nat, c < (Int.toNat (Int32.toInt (s.n 0))) → s.K c 0 = some i → (s.G c 12).toInt = 1 → (q.F 13 c).toInt = 3 ∨ (q.F 13 c).toInt = 4) ∨ (k_aw s.K s.G i = false ∧ (r_aw v q).toInt = 0) := by
  have hN := h.N200
  have e11 : Int32.toNatClampNeg (q.n 11) = (Int.toNat (Int32.toInt (s.n 0))) := by show (q.n 11).toInt.toNat = _; rw [h.u.1.1]
  have e1 : Int32.toNatClampNeg (v + 1) = i + 1 := ix_nat (by rw [inc_toInt (by omega), hv]; omega)
  have t1 : (1 : Int32).toInt = 1 := by decide
  have t0 : (0 : Int32).toInt = 0 := by decide
  unfold k_aw r_aw
  rw [e11, e1, (h.p i hi).1]
  have stuck : ∀ n c : Nat, (itr (raB q.F v) (fun a => a) c n 0).toInt = 0 := by
    intro n
    induction n with
    | zero => intro c; rw [itr_0]; exact t0
    | succ n ih => intro c; rw [itr_s]; unfold raB; rw [if_pos t0]; exact ih (c + 1)
  have key := cit_itr2 (P := fun (b : Bool) (x : Int32) => (b = true ∧ ¬ x.toInt = 0 ∧ ∀ c : Nat, c < (Int.toNat (Int32.toInt (s.n 0))) → s.K c 0 = some i → (s.G c 12).toInt = 1 → (q.F 13 c).toInt = 3 ∨ (q.F 13 c).toInt = 4) ∨ (b = false ∧ x.toInt = 0))
    (I := fun c (_ : Unit) (a : Int32) => (a = 1 ∧ ∀ d : Nat, d < c → d < (Int.toNat (Int32.toInt (s.n 0))) → s.K d 0 = some i → (s.G d 12).toInt = 1 → (q.F 13 d).toInt = 3 ∨ (q.F 13 d).toInt = 4)) (K := s.K) (g := i) (b := awB s.G) (b' := raB q.F v) (fin := fun _ => true) (fin' := fun a => a) (N := (Int.toNat (Int32.toInt (s.n 0))))
    (fun c hc hk => (h.p c hc).2.1 i hk) (fun u a hI => Or.inl ⟨rfl, by rw [hI.1]; omega, fun c hc hk => hI.2 c hc hc hk⟩) ?_ ?_ ((Int.toNat (Int32.toInt (s.n 0))) - (i + 1)) (i + 1) () 1 201 (by omega) (by omega) ⟨rfl, fun d hd hdn hk => by
      have := ((h.a d hdn).2.1.2.2.2 i hk).1
      omega⟩
  · exact key
  · intro c u a k hc hk hI hkk
    obtain ⟨ha, hI⟩ := hI
    have g15 := (h.giver hc hv (by omega)).mpr hk
    have e2 : s.G c 2 = q.F 13 c := (h.b c hc).1
    have cl : (s.G c 12).toInt = 1 ↔ ¬ (q.F 27 c).toInt = 0 := by
      rcases (h.d c hc).2 i hk with z | z | z | z
      · exact ⟨fun w => by omega, fun w => absurd z.2.2 w⟩
      · exact ⟨fun _ => z.2.1, fun _ => z.1⟩
      · exact absurd ht z.2.2.2
      · exact ⟨fun w => by omega, fun w => absurd z.2.1 w⟩
    unfold awB raB
    rw [ha, e2, if_neg (show ¬ (1 : Int32).toInt = 0 by rw [t1]; decide)]
    by_cases w : (s.G c 12).toInt = 1 ∧ ¬ ((q.F 13 c).toInt = 3 ∨ (q.F 13 c).toInt = 4)
    · rw [if_pos w, if_neg (fun z => by
        rcases z with z | z | z | z
        · exact z g15
        · exact (cl.mp w.1) z
        · exact w.2 (Or.inl z)
        · exact w.2 (Or.inr z))]
      -- what comes behind is 0 as well
      right
      exact ⟨rfl, stuck _ _⟩
    · rw [if_neg w, if_pos (show _ ∨ _ from ?_)]
      · exact hkk () 1 ⟨rfl, fun d hd hdn hkd h1 => by
          by_cases e : d = c
          · subst e; exact Classical.byContradiction (fun z => w ⟨h1, z⟩)
          · exact hI d (by omega) hdn hkd h1⟩
      · right
        by_cases z : (q.F 27 c).toInt = 0
        · exact Or.inl z
        · exact Or.inr (Classical.byContradiction (fun y => w ⟨cl.mpr z, y⟩))
  · intro c u a k' hc hk hI
    refine ⟨1, ?_, rfl, fun d hd hdn hkd => ?_⟩
    · unfold raB
      rw [hI.1, if_neg (show ¬ (1 : Int32).toInt = 0 by rw [t1]; decide), if_pos (Or.inl (fun z => hk ((h.giver hc hv (by omega)).mp z)))] <;> rfl
    · by_cases e : d = c
      · subst e; exact absurd hkd hk
      · exact hI.2 d (by omega) hdn hkd
end

section
variable {R : Nat} {kp : Int} {bk : Nat → Nat → Prop} {s : C9} {q0 : Q10} {i : Nat} {v : Int32}
theorem u2_u2s {α : Type} (G : Nat → Nat → α) (i k : Nat) (x y : α) : u2 (u2 G i k x) i k y = u2 G i k y := by
  funext a b; rw [u2_at, u2_at, u2_at]
  by_cases e : a = i ∧ b = k
  · rw [if_pos e, if_pos e] <;> rfl
  · rw [if_neg e, if_neg e, if_neg e] <;> rfl
def TkI (N : Nat) (s : C9) (q0 : Q10) (i c : Nat) (p : C9 × Option Nat × Int32) (p' : Q10 × Int32 × Int32) : Prop := (p.1 = (C9.mk s.n s.f s.T (u2 s.G i 5 (p'.1.F 19 i)) s.K s.F)) ∧ (p'.1.n = q0.n) ∧ (∀ k : Nat, k ≠ 19 → k ≠ 26 → k ≠ 27 → p'.1.F k = upF q0.F 24 (upd (q0.F 24) i 0) k) ∧ (∀ a : Nat, a ≠ i → p'.1.F 19 a = q0.F 19 a) ∧ (∀ a : Nat, p'.1.F 26 a = if i < a ∧ a < c ∧ s.K a 0 = some i ∧ ¬ (q0.F 27 a).toInt = 0 then 1 else q0.F 26 a) ∧ (∀ a : Nat, p'.1.F 27 a = if i < a ∧ a < c ∧ s.K a 0 = some i ∧ ¬ (q0.F 27 a).toInt = 0 then 0 else q0.F 27 a) ∧ (p.2.1.elim (-1) Int32.ofNat = p'.2.1) ∧ (p.2.2 = p'.2.2) ∧ (∀ j : Nat, p.2.1 = some j → j < N ∧ s.K j 0 = some i ∧ (q0.F 13 j).toInt = 4)
theorem TkI.e1 {N : Nat} {s : C9} {q0 : Q10} {i c : Nat} {p : C9 × Option Nat × Int32} {p' : Q10 × Int32 × Int32} (hh_ : TkI N s q0 i c p p') : p.1 = (C9.mk s.n s.f s.T (u2 s.G i 5 (p'.1.F 19 i)) s.K s.F) := hh_.1
theorem TkI.e2 {N : Nat} {s : C9} {q0 : Q10} {i c : Nat} {p : C9 × Option Nat × Int32} {p' : Q10 × Int32 × Int32} (hh_ : TkI N s q0 i c p p') : p'.1.n = q0.n := hh_.2.1
theorem TkI.e3 {N : Nat} {s : C9} {q0 : Q10} {i c : Nat} {p : C9 × Option Nat × Int32} {p' : Q10 × Int32 × Int32} (hh_ : TkI N s q0 i c p p') : ∀ k : Nat, k ≠ 19 → k ≠ 26 → k ≠ 27 → p'.1.F k = upF q0.F 24 (upd (q0.F 24) i 0) k := hh_.2.2.1
theorem TkI.e4 {N : Nat} {s : C9} {q0 : Q10} {i c : Nat} {p : C9 × Option Nat × Int32} {p' : Q10 × Int32 × Int32} (hh_ : TkI N s q0 i c p p') : ∀ a : Nat, a ≠ i → p'.1.F 19 a = q0.F 19 a := hh_.2.2.2.1
theorem TkI.e5 {N : Nat} {s : C9} {q0 : Q10} {i c : Nat} {p : C9 × Option Nat × Int32} {p' : Q10 × Int32 × Int32} (hh_ : TkI N s q0 i c p p') : ∀ a : Nat, p'.1.F 26 a = if i < a ∧ a < c ∧ s.K a 0 = some i ∧ ¬ (q0.F 27 a).toInt = 0 then 1 else q0.F 26 a := hh_.2.2.2.2.1
theorem TkI.e6 {N : Nat} {s : C9} {q0 : Q10} {i c : Nat} {p : C9 × Option Nat × Int32} {p' : Q10 × Int32 × Int32} (hh_ : TkI N s q0 i c p p') : ∀ a : Nat, p'.1.F 27 a = if i < a ∧ a < c ∧ s.K a 0 = some i ∧ ¬ (q0.F 27 a).toInt = 0 then 0 else q0.F 27 a := hh_.2.2.2.2.2.1
theorem TkI.e7 {N : Nat} {s : C9} {q0 : Q10} {i c : Nat} {p : C9 × Option Nat × Int32} {p' : Q10 × Int32 × Int32} (hh_ : TkI N s q0 i c p p') : p.2.1.elim (-1) Int32.ofNat = p'.2.1 := hh_.2.2.2.2.2.2.1
theorem TkI.e8 {N : Nat} {s : C9} {q0 : Q10} {i c : Nat} {p : C9 × Option Nat × Int32} {p' : Q10 × Int32 × Int32} (hh_ : TkI N s q0 i c p p') : p.2.2 = p'.2.2 := hh_.2.2.2.2.2.2.2.1
theorem TkI.e9 {N : Nat} {s : C9} {q0 : Q10} {i c : Nat} {p : C9 × Option Nat × Int32} {p' : Q10 × Int32 × Int32} (hh_ : TkI N s q0 i c p p') : ∀ j : Nat, p.2.1 = some j → j < N ∧ s.K j 0 = some i ∧ (q0.F 13 j).toInt = 4 := hh_.2.2.2.2.2.2.2.2
theorem take_end (h : Rel R kp (pb0 q0) bk s q0) (hbk : ∀ g c : Nat, bk g c → g = i ∨ bk0 q0 g c) (hi : i < (Int.toNat (Int32.toInt (s.n 0)))) (hv : v.toInt = (i : Int)) (hs : (q0.F 13 i).toInt = 1) (ht : (q0.F 25 i).toInt = 0) (hp : (q0.F 20 i).toInt < 24) (h19 : s.G i 19 = -1) (h20 : s.G i 20 = 0) (h21 : (s.G i 21).toInt = 0)
    {p : C9 × Option Nat × Int32} {p' : Q10 × Int32 × Int32} (hI : TkI ((Int.toNat (Int32.toInt (s.n 0)))) s q0 i ((Int.toNat (Int32.toInt (s.n 0)))) p p') : Rl R kp (k_close i (f_take i p).2 (f_take i p).1) (f_gathers v p') := by
  obtain ⟨s', cs, fl⟩ := p
  obtain ⟨q', ca, mn⟩ := p'
  obtain ⟨e1, e2, e3, e4, e5, e6, e7, e8, e9⟩ := hI
  dsimp +instances only [c9n, c9f, c9T, c9G, c9K, c9F, q10F, q10n] at e1 e2 e3 e4 e5 e6 e7 e8 e9
  have hN := h.N200
  have t0 : (0 : Int32).toInt = 0 := by decide
  have t1 : (1 : Int32).toInt = 1 := by decide
  have t2 : (2 : Int32).toInt = 2 := by decide
  have tm : (-1 : Int32).toInt = -1 := by decide
  have f0 : q'.F 0 = q0.F 0 := (e3 0 (by decide) (by decide) (by decide)).trans rfl
  have f1 : q'.F 1 = q0.F 1 := (e3 1 (by decide) (by decide) (by decide)).trans rfl
  have f2 : q'.F 2 = q0.F 2 := (e3 2 (by decide) (by decide) (by decide)).trans rfl
  have f3 : q'.F 3 = q0.F 3 := (e3 3 (by decide) (by decide) (by decide)).trans rfl
  have f4 : q'.F 4 = q0.F 4 := (e3 4 (by decide) (by decide) (by decide)).trans rfl
  have f5 : q'.F 5 = q0.F 5 := (e3 5 (by decide) (by decide) (by decide)).trans rfl
  have f6 : q'.F 6 = q0.F 6 := (e3 6 (by decide) (by decide) (by decide)).trans rfl
  have f7 : q'.F 7 = q0.F 7 := (e3 7 (by decide) (by decide) (by decide)).trans rfl
  have f8 : q'.F 8 = q0.F 8 := (e3 8 (by decide) (by decide) (by decide)).trans rfl
  have f10 : q'.F 10 = q0.F 10 := (e3 10 (by decide) (by decide) (by decide)).trans rfl
  have f13 : q'.F 13 = q0.F 13 := (e3 13 (by decide) (by decide) (by decide)).trans rfl
  have f14 : q'.F 14 = q0.F 14 := (e3 14 (by decide) (by decide) (by decide)).trans rfl
  have f15 : q'.F 15 = q0.F 15 := (e3 15 (by decide) (by decide) (by decide)).trans rfl
  have f16 : q'.F 16 = q0.F 16 := (e3 16 (by decide) (by decide) (by decide)).trans rfl
  have f17 : q'.F 17 = q0.F 17 := (e3 17 (by decide) (by decide) (by decide)).trans rfl
  have f18 : q'.F 18 = q0.F 18 := (e3 18 (by decide) (by decide) (by decide)).trans rfl
  have f20 : q'.F 20 = q0.F 20 := (e3 20 (by decide) (by decide) (by decide)).trans rfl
  have f21 : q'.F 21 = q0.F 21 := (e3 21 (by decide) (by decide) (by decide)).trans rfl
  have f22 : q'.F 22 = q0.F 22 := (e3 22 (by decide) (by decide) (by decide)).trans rfl
  have f23 : q'.F 23 = q0.F 23 := (e3 23 (by decide) (by decide) (by decide)).trans rfl
  have f25 : q'.F 25 = q0.F 25 := (e3 25 (by decide) (by decide) (by decide)).trans rfl
  have f28 : q'.F 28 = q0.F 28 := (e3 28 (by decide) (by decide) (by decide)).trans rfl
  have f29 : q'.F 29 = q0.F 29 := (e3 29 (by decide) (by decide) (by decide)).trans rfl
  have f30 : q'.F 30 = q0.F 30 := (e3 30 (by decide) (by decide) (by decide)).trans rfl
  have f31 : q'.F 31 = q0.F 31 := (e3 31 (by decide) (by decide) (by decide)).trans rfl
  have f32 : q'.F 32 = q0.F 32 := (e3 32 (by decide) (by decide) (by decide)).trans rfl
  have f33 : q'.F 33 = q0.F 33 := (e3 33 (by decide) (by decide) (by decide)).trans rfl
  have f34 : q'.F 34 = q0.F 34 := (e3 34 (by decide) (by decide) (by decide)).trans rfl
  have f35 : q'.F 35 = q0.F 35 := (e3 35 (by decide) (by decide) (by decide)).trans rfl
  have f36 : q'.F 36 = q0.F 36 := (e3 36 (by decide) (by decide) (by decide)).trans rfl
  have f37 : q'.F 37 = q0.F 37 := (e3 37 (by decide) (by decide) (by decide)).trans rfl
  have f38 : q'.F 38 = q0.F 38 := (e3 38 (by decide) (by decide) (by decide)).trans rfl
  have f39 : q'.F 39 = q0.F 39 := (e3 39 (by decide) (by decide) (by decide)).trans rfl
  have f40 : q'.F 40 = q0.F 40 := (e3 40 (by decide) (by decide) (by decide)).trans rfl
  have f41 : q'.F 41 = q0.F 41 := (e3 41 (by decide) (by decide) (by decide)).trans rfl
  have f42 : q'.F 42 = q0.F 42 := (e3 42 (by decide) (by decide) (by decide)).trans rfl
  have f43 : q'.F 43 = q0.F 43 := (e3 43 (by decide) (by decide) (by decide)).trans rfl
  have f49 : q'.F 49 = q0.F 49 := (e3 49 (by decide) (by decide) (by decide)).trans rfl
  have f50 : q'.F 50 = q0.F 50 := (e3 50 (by decide) (by decide) (by decide)).trans rfl
  have f51 : q'.F 51 = q0.F 51 := (e3 51 (by decide) (by decide) (by decide)).trans rfl
  have f52 : q'.F 52 = q0.F 52 := (e3 52 (by decide) (by decide) (by decide)).trans rfl
  have f53 : q'.F 53 = q0.F 53 := (e3 53 (by decide) (by decide) (by decide)).trans rfl
  have f54 : q'.F 54 = q0.F 54 := (e3 54 (by decide) (by decide) (by decide)).trans rfl
  have f55 : q'.F 55 = q0.F 55 := (e3 55 (by decide) (by decide) (by decide)).trans rfl
  have f56 : q'.F 56 = q0.F 56 := (e3 56 (by decide) (by decide) (by decide)).trans rfl
  have f57 : q'.F 57 = q0.F 57 := (e3 57 (by decide) (by decide) (by decide)).trans rfl
  have f58 : q'.F 58 = q0.F 58 := (e3 58 (by decide) (by decide) (by decide)).trans rfl
  have f59 : q'.F 59 = q0.F 59 := (e3 59 (by decide) (by decide) (by decide)).trans rfl
  have f24 : q'.F 24 = upd (q0.F 24) i 0 := (e3 24 (by decide) (by decide) (by decide)).trans rfl
  have hst := h.settle hi (s' := s') (by rw [e1] <;> rfl)
  obtain ⟨GF, hGF⟩ : ∃ GF : Nat → Nat → Int32, GF = u2 (stG ((Int.toNat (Int32.toInt (s.n 0)))) s.K i 1 2 (u2 s.G i 5 (q'.F 19 i))) i 9 0 := ⟨_, rfl⟩
  have G1 : ∀ a b : Nat, b ≠ 5 → b ≠ 9 → b ≠ 12 → GF a b = s.G a b := fun a b h5 h9 h12 => by rw [hGF, u2_n2 _ _ _ _ h9, stG_ne h12, u2_n2 _ _ _ _ h5] <;> rfl
  have G5 : ∀ a : Nat, GF a 5 = u2 s.G i 5 (q'.F 19 i) a 5 := fun a => by rw [hGF, u2_n2 _ _ _ _ (by decide), stG_ne (by decide)] <;> rfl
  have G9i : GF i 9 = 0 := by rw [hGF, u2_eq] <;> rfl
  have G9 : ∀ a : Nat, a ≠ i → GF a 9 = s.G a 9 := fun a ha => by rw [hGF, u2_n1 _ _ _ ha, stG_ne (by decide), u2_n1 _ _ _ ha] <;> rfl
  have G12 : ∀ a : Nat, GF a 12 = if i < a ∧ a < (Int.toNat (Int32.toInt (s.n 0))) ∧ s.K a 0 = some i ∧ (s.G a 12).toInt = 1 then 2 else s.G a 12 := fun a => by
    rw [hGF, u2_n2 _ _ _ _ (by decide)]
    unfold stG
    rw [u2_n2 _ _ _ _ (show (12 : Nat) ≠ 5 by decide)]
    by_cases z : i < a ∧ a < (Int.toNat (Int32.toInt (s.n 0))) ∧ s.K a 0 = some i ∧ (s.G a 12).toInt = 1
    · rw [if_pos z, if_pos ⟨rfl, z⟩] <;> rfl
    · rw [if_neg z, if_neg (fun w => z w.2)] <;> rfl
  have hF : Rel R kp (pb0 q') (bk0 q') (C9.mk s.n s.f s.T (GF) s.K s.F) q' := by
    refine ⟨by rw [e2]; exact h.u, by rw [f0, f1, f2, f3, f4, f5, f6, f7, f8]; exact h.z, by rw [e2, f49, f50, f51, f52, f55, f56, f57, f58, f59]; exact h.l, ?_, ?_, ?_, ?_, ?_, ?_, ?_, ?_, ?_, ?_, ?_, h.k.cG (fun a b hb => G1 a b (by rintro rfl; simp at hb) (by rintro rfl; simp at hb) (by rintro rfl; simp at hb))⟩
    · rw [f10]; exact h.t.cG (fun a b hb => G1 a b (by rintro rfl; simp at hb) (by rintro rfl; simp at hb) (by rintro rfl; simp at hb))
    · rw [f14, f15, f16, f17, f18, f20, f21, f22, f23]; exact h.a.cG (fun a b hb => G1 a b (by rintro rfl; simp at hb) (by rintro rfl; simp at hb) (by rintro rfl; simp at hb))
    · intro j hj
      have z := h.b j hj
      show GF j 2 = q'.F 13 j ∧ GF j 5 = q'.F 19 j ∧ _
      rw [f13, f18, G1 j 2 (by decide) (by decide) (by decide), G5]
      refine ⟨z.1, ?_, z.2.2⟩
      by_cases e : j = i
      · subst e; rw [u2_eq] <;> rfl
      · rw [u2_n1 _ _ _ e, e4 j e]; exact z.2.1
    · intro j hj
      have z := h.c j hj
      show GF j 8 = q'.F 25 j ∧ _ ∧ (_ → (¬ (q'.F 24 j).toInt = 0 ↔ ((q'.F 13 j).toInt = 2 ∨ ¬ (GF j 9).toInt = 0))) ∧ (_ → _ ∧ (GF j 9).toInt = 0) ∧ (_ → _ ∧ (q'.F 24 j).toInt = 0 ∧ (GF j 9).toInt = 0) ∧ (¬ (q'.F 24 j).toInt = 0 → (GF j 6).toInt < 24)
      rw [f25, f24, f13, G1 j 8 (by decide) (by decide) (by decide), G1 j 6 (by decide) (by decide) (by decide)]
      by_cases e : j = i
      · subst e; rw [upd_s, G9i]
        exact ⟨z.1, z.2.1, fun _ => ⟨fun w => absurd t0 w, fun w => by omega⟩, fun w => by omega, fun w => by omega, fun w => absurd t0 w⟩
      · rw [upd_n _ _ e, G9 j e]; exact z
    · intro j hj
      have z := h.d j hj
      show (_ → (GF j 12).toInt = 0 ∧ (q'.F 26 j).toInt = 0 ∧ (q'.F 27 j).toInt = 0) ∧ _
      refine ⟨fun w => ?_, fun g hg => ?_⟩
      · have w : s.K j 0 = none := w
        rw [G12, e5, e6, if_neg (fun y => by rw [w] at y; cases y.2.2.1), if_neg (fun y => by rw [w] at y; cases y.2.2.1), if_neg (fun y => by rw [w] at y; cases y.2.2.1)]
        exact z.1 w
      · have hg : s.K j 0 = some g := hg
        show ((GF j 12).toInt = 0 ∧ (q'.F 26 j).toInt = 0 ∧ (q'.F 27 j).toInt = 0) ∨ ((GF j 12).toInt = 1 ∧ ¬ (q'.F 27 j).toInt = 0 ∧ (q'.F 26 j).toInt = 0 ∧ (q'.F 25 g).toInt = 0 ∧ bk0 q' g j) ∨ ((GF j 12).toInt = 1 ∧ (q'.F 27 j).toInt = 0 ∧ ¬ (q'.F 26 j).toInt = 0 ∧ ¬ (q'.F 25 g).toInt = 0) ∨ ((GF j 12).toInt = 2 ∧ (q'.F 27 j).toInt = 0 ∧ ¬ (q'.F 26 j).toInt = 0)
        rw [G12, e5, e6, f25]
        by_cases eg : g = i
        · subst eg
          have hl := ((h.a j hj).2.1.2.2.2 g hg).1
          rcases z.2 g hg with y | y | y | y
          · rw [if_neg (fun w => by omega), if_neg (fun w => w.2.2.2 y.2.2), if_neg (fun w => w.2.2.2 y.2.2)]; exact Or.inl y
          · rw [if_pos ⟨hl, hj, hg, y.1⟩, if_pos ⟨hl, hj, hg, y.2.1⟩, if_pos ⟨hl, hj, hg, y.2.1⟩]; exact Or.inr (Or.inr (Or.inr ⟨t2, t0, by omega⟩))
          · exact absurd ht y.2.2.2
          · rw [if_neg (fun w => by omega), if_neg (fun w => w.2.2.2 y.2.1), if_neg (fun w => w.2.2.2 y.2.1)]; exact Or.inr (Or.inr (Or.inr y))
        · have ng : s.K j 0 ≠ some i := fun w => eg (by rw [hg] at w; cases w; rfl)
          rw [if_neg (fun w => ng w.2.2.1), if_neg (fun w => ng w.2.2.1), if_neg (fun w => ng w.2.2.1)]
          rcases z.2 g hg with y | y | y | y
          · exact Or.inl y
          · refine Or.inr (Or.inl ⟨y.1, y.2.1, y.2.2.1, y.2.2.2.1, ?_⟩)
            have w := (hbk g j y.2.2.2.2).resolve_left eg
            show ¬ (q'.F 24 g).toInt = 0 ∧ ((q'.F 13 g).toInt = 2 ∨ (q'.F 13 j).toInt = 3 ∨ (q'.F 13 j).toInt = 4)
            rw [f24, f13, upd_n _ _ eg]; exact w
          · exact Or.inr (Or.inr (Or.inl y))
          · exact Or.inr (Or.inr (Or.inr y))
    · rw [f13, f28, f29, f30, f31, f32]; exact h.e.cG (fun a b hb => G1 a b (by rintro rfl; simp at hb) (by rintro rfl; simp at hb) (by rintro rfl; simp at hb))
    · rw [f0, f18, f33, f34, f35]; exact h.f
    · rw [e2, f13, f36, f37, f38, f39, f40, f41, f42, f43]
      have := h.g.cG (G' := GF) (fun a b hb => G1 a b (by rintro rfl; simp at hb) (by rintro rfl; simp at hb) (by rintro rfl; simp at hb))
      exact this.mono (fun a _ => by show (q0.F 20 a).toInt ≤ (q'.F 20 a).toInt; rw [f20]; exact Int.le_refl _) (Int.le_refl _)
    · exact h.p.cG (fun a b hb => G1 a b (by rintro rfl; simp at hb) (by rintro rfl; simp at hb) (by rintro rfl; simp at hb))
    · rw [e2, f53, f54]; exact h.x.cG (fun a b hb => G1 a b (by rintro rfl; simp at hb) (by rintro rfl; simp at hb) (by rintro rfl; simp at hb))
    · rw [e2, f32]; exact h.j
  have kF : k_settle i s' = (C9.mk s.n s.f s.T (stG ((Int.toNat (Int32.toInt (s.n 0)))) s.K i 1 2 (u2 s.G i 5 (q'.F 19 i))) s.K s.F) := by rw [hst, e1] <;> rfl
  have g2 : (GF i 2).toInt = 1 := by rw [G1 i 2 (by decide) (by decide) (by decide), (h.b i hi).1]; exact hs
  unfold f_take f_gathers
  dsimp +instances only [c9n, c9f, c9T, c9G, c9K, c9F, q10F, q10n]
  rw [kF]
  dsimp +instances only [c9n, c9f, c9T, c9G, c9K, c9F, q10F, q10n]
  rw [← hGF]
  cases hcs : cs with
  | none =>
    rw [hcs] at e7
    have e7 : (-1 : Int32) = ca := e7
    rw [← e7, if_pos tm]
    show Rl R kp (k_close i (-1) (C9.mk s.n s.f s.T (GF) s.K s.F)) _
    rw [close_on (i := i) (s := (C9.mk s.n s.f s.T (GF) s.K s.F)) g2]
    exact on_sim hF hv hi (by rw [f24, upd_s]; exact t0) (by rw [f20]; exact hp) (fun j => by
      show (q'.F 20 j).toInt ≤ _
      by_cases e : j = i
      · rw [if_pos e, e]; omega
      · rw [if_neg e]; exact Int.le_refl _)
  | some j =>
    rw [hcs] at e7
    have e7 : Int32.ofNat j = ca := e7
    obtain ⟨j1, j2, j3⟩ := e9 j hcs
    have oj : (Int32.ofNat j).toInt = (j : Int) := ofNat_toInt (by omega)
    have jl := ((h.a j j1).2.1.2.2.2 i j2).1
    have hj := (h.e j j1).1 j3
    rw [← e7, if_neg (by omega), ix_nat oj]
    have n4 : ¬ (q'.F 13 i).toInt = 4 := by rw [f13]; omega
    have gj0 : GF j 0 = Int32.ofNat j := by rw [G1 j 0 (by decide) (by decide) (by decide)]; exact (h.a j j1).1.1
    have gj17 : u2 (u2 GF i 19 (Int32.ofNat j)) i 20 (fl - 1) j 17 = q'.F 28 j := by rw [u2_n2 _ _ _ _ (by decide), u2_n2 _ _ _ _ (by decide), G1 j 17 (by decide) (by decide) (by decide), f28]; exact hj.1
    show Rl R kp (k_close i (u2 (u2 GF i 19 (GF j 0)) i 20 (fl - 1) j 17) (C9.mk s.n s.f s.T (u2 (u2 GF i 19 (GF j 0)) i 20 (fl - 1)) s.K s.F)) _
    rw [gj0, gj17, ← e8]
    refine fails_sim (s := (C9.mk s.n s.f s.T (u2 (u2 GF i 19 (Int32.ofNat j)) i 20 (fl - 1)) s.K s.F)) (q := q') ⟨hF.u, hF.z, hF.l, (hF.t.fG _ _ _ (by decide)).fG _ _ _ (by decide), (hF.a.fG _ _ _ (by decide)).fG _ _ _ (by decide), (hF.b.fG _ _ _ (by decide)).fG _ _ _ (by decide), (hF.c.fG _ _ _ (by decide)).fG _ _ _ (by decide), (hF.d.fG _ _ _ (by decide)).fG _ _ _ (by decide), (hF.e.own i 19 _ n4).own i 20 _ n4, hF.f, (hF.g.fG _ _ _ (by decide)).fG _ _ _ (by decide), (hF.p.fG _ _ _ (by decide)).fG _ _ _ (by decide), (hF.x.fG _ _ _ (by decide)).fG _ _ _ (by decide), hF.j, (hF.k.fG _ _ _ (by decide)).fG _ _ _ (by decide)⟩ hi hv (by rw [f13]; exact hs) (by rw [f24, upd_s]; exact t0) (by rw [f25]; exact ht) ?_ (by rw [f28]; exact ⟨hj.2.2.2.2.2.1, hj.2.2.2.2.2.2⟩) ?_ ?_ ?_
    · show (u2 (u2 GF i 19 (Int32.ofNat j)) i 20 (fl - 1) i 9).toInt = 0
      rw [u2_n2 _ _ _ _ (by decide), u2_n2 _ _ _ _ (by decide), G9i]; exact t0
    · show u2 (u2 GF i 19 (Int32.ofNat j)) i 20 (fl - 1) i 19 = Int32.ofNat j
      rw [u2_n2 _ _ _ _ (by decide), u2_eq] <;> rfl
    · show u2 (u2 GF i 19 (Int32.ofNat j)) i 20 (fl - 1) i 20 = fl - 1
      rw [u2_eq] <;> rfl
    · show (u2 (u2 GF i 19 (Int32.ofNat j)) i 20 (fl - 1) i 21).toInt = 0
      rw [u2_n2 _ _ _ _ (by decide), u2_n2 _ _ _ _ (by decide), G1 i 21 (by decide) (by decide) (by decide)]; exact h21
end

section
variable {R : Nat} {kp : Int} {bk : Nat → Nat → Prop} {s : C9} {q0 : Q10} {i : Nat} {v : Int32}
theorem take_sim (h : Rel R kp (pb0 q0) bk s q0) (hbk : ∀ g c : Nat, bk g c → g = i ∨ bk0 q0 g c) (hi : i < (Int.toNat (Int32.toInt (s.n 0)))) (hv : v.toInt = (i : Int)) (hs : (q0.F 13 i).toInt = 1) (ht : (q0.F 25 i).toInt = 0) (hp : (q0.F 20 i).toInt < 24) (h19 : s.G i 19 = -1) (h20 : s.G i 20 = 0) (h21 : (s.G i 21).toInt = 0)
    (hov : ∀ c : Nat, c < (Int.toNat (Int32.toInt (s.n 0))) → s.K c 0 = some i → (s.G c 12).toInt = 1 → (q0.F 13 c).toInt = 3 ∨ (q0.F 13 c).toInt = 4) :
    Rl R kp (k_close i (k_take i s).2 (k_take i s).1) (r_gathers v ⟨upF q0.F 24 (upd (q0.F 24) i 0), q0.n⟩) := by
  have hN := h.N200
  have e11 : Int32.toNatClampNeg (q0.n 11) = (Int.toNat (Int32.toInt (s.n 0))) := by show (q0.n 11).toInt.toNat = _; rw [h.u.1.1]
  have e1 : Int32.toNatClampNeg (v + 1) = i + 1 := ix_nat (by rw [inc_toInt (by omega), hv]; omega)
  have t0 : (0 : Int32).toInt = 0 := by decide
  have t1 : (1 : Int32).toInt = 1 := by decide
  have tm : (-1 : Int32).toInt = -1 := by decide
  unfold k_take r_gathers
  dsimp +instances only [c9n, c9f, c9T, c9G, c9K, c9F, q10F, q10n]
  rw [e11, e1, (h.p i hi).1]
  refine cit_itr (P := fun (r : C9 × Int32) (r' : Q10) => Rl R kp (k_close i r.2 r.1) r') (I := fun c p p' => TkI ((Int.toNat (Int32.toInt (s.n 0)))) s q0 i c p p') (N := (Int.toNat (Int32.toInt (s.n 0)))) (fun c hc hk => (h.p c hc).2.1 i hk)
    (fun p p' hI => take_end h hbk hi hv hs ht hp h19 h20 h21 hI) ?_ ?_ _ (i + 1) _ _ 201 (by omega) (by omega) ?_
  · intro c p p' k k' hc hk hI hkk
    obtain ⟨s', cs, fl⟩ := p
    obtain ⟨q', ca, mn⟩ := p'
    obtain ⟨e1, e2, e3, e4, e5, e6, e7, e8, e9⟩ := hI
    dsimp +instances only [c9n, c9f, c9T, c9G, c9K, c9F, q10F, q10n] at e1 e2 e3 e4 e5 e6 e7 e8 e9
    have hl := ((h.a c hc).2.1.2.2.2 i hk).1
    have f13 : q'.F 13 = q0.F 13 := (e3 13 (by decide) (by decide) (by decide)).trans rfl
    have f15 : q'.F 15 = q0.F 15 := (e3 15 (by decide) (by decide) (by decide)).trans rfl
    have g15 := (h.giver hc hv (by omega)).mpr hk
    have g12 : s'.G c 12 = s.G c 12 := by rw [e1]; exact u2_n2 _ _ _ _ (by decide)
    have g2 : s'.G c 2 = q0.F 13 c := by rw [e1]; show u2 s.G i 5 _ c 2 = _; rw [u2_n2 _ _ _ _ (by decide)]; exact (h.b c hc).1
    have g5c : s'.G c 5 = q'.F 19 c := by rw [e1]; show u2 s.G i 5 _ c 5 = _; rw [u2_n1 _ _ _ (show c ≠ i by omega), e4 c (by omega)]; exact (h.b c hc).2.1
    have g5i : s'.G i 5 = q'.F 19 i := by rw [e1]; exact u2_eq _ _ _ _
    have f27 : q'.F 27 c = q0.F 27 c := by rw [e6, if_neg (fun w => by omega)] <;> rfl
    have cl : (s.G c 12).toInt = 1 ↔ ¬ (q0.F 27 c).toInt = 0 := by
      rcases (h.d c hc).2 i hk with z | z | z | z
      · exact ⟨fun w => by omega, fun w => absurd z.2.2 w⟩
      · exact ⟨fun _ => z.2.1, fun _ => z.1⟩
      · exact absurd ht z.2.2.2
      · exact ⟨fun w => by omega, fun w => absurd z.2.1 w⟩
    unfold b_take b_gathers
    dsimp +instances only [c9n, c9f, c9T, c9G, c9K, c9F, q10F, q10n]
    rw [g12, g2, f15, f13, f27]
    -- the two rows of claims
    have r26 : ∀ x : Int32, ¬ (q0.F 27 c).toInt = 0 → ∀ a : Nat, upd (q'.F 26) c 1 a = if i < a ∧ a < c + 1 ∧ s.K a 0 = some i ∧ ¬ (q0.F 27 a).toInt = 0 then 1 else q0.F 26 a := fun _ hne a => by
      by_cases e : a = c
      · subst e; rw [upd_s, if_pos ⟨hl, by omega, hk, hne⟩] <;> rfl
      · rw [upd_n _ _ e, e5]
        by_cases z : i < a ∧ a < c ∧ s.K a 0 = some i ∧ ¬ (q0.F 27 a).toInt = 0
        · rw [if_pos z, if_pos ⟨z.1, by omega, z.2.2⟩] <;> rfl
        · rw [if_neg z, if_neg (fun w => z ⟨w.1, by omega, w.2.2⟩)] <;> rfl
    have r27 : ¬ (q0.F 27 c).toInt = 0 → ∀ a : Nat, upd (q'.F 27) c 0 a = if i < a ∧ a < c + 1 ∧ s.K a 0 = some i ∧ ¬ (q0.F 27 a).toInt = 0 then 0 else q0.F 27 a := fun hne a => by
      by_cases e : a = c
      · subst e; rw [upd_s, if_pos ⟨hl, by omega, hk, hne⟩] <;> rfl
      · rw [upd_n _ _ e, e6]
        by_cases z : i < a ∧ a < c ∧ s.K a 0 = some i ∧ ¬ (q0.F 27 a).toInt = 0
        · rw [if_pos z, if_pos ⟨z.1, by omega, z.2.2⟩] <;> rfl
        · rw [if_neg z, if_neg (fun w => z ⟨w.1, by omega, w.2.2⟩)] <;> rfl
    by_cases w : (s.G c 12).toInt = 1
    · have hne := cl.mp w
      rw [if_pos (show (q0.F 15 c).toInt = v.toInt ∧ ¬ (q0.F 27 c).toInt = 0 from ⟨g15, hne⟩)]
      by_cases c3 : (q0.F 13 c).toInt = 3
      · rw [if_pos ⟨w, c3⟩, if_pos c3, ix_nat hv]
        refine hkk _ _ ⟨?_, e2, ?_, ?_, r26 0 hne, r27 hne, e7, e8, e9⟩
        · show ((C9.mk s'.n s'.f s'.T (u2 s'.G i 5 (s'.G i 5 + s'.G c 5)) s'.K s'.F) : C9) = (C9.mk s.n s.f s.T (u2 s.G i 5 (upd (q'.F 19) i (q'.F 19 i + q'.F 19 c) i)) s.K s.F)
          rw [upd_s, g5i, g5c, e1]
          dsimp +instances only [c9n, c9f, c9T, c9G, c9K, c9F, q10F, q10n]
          rw [u2_u2s] <;> rfl
        · intro k h1 h2 h3
          show upF (upF (upF q'.F 19 _) 26 _) 27 _ k = _
          unfold upF
          rw [if_neg h3, if_neg h2, if_neg h1]
          exact e3 k h1 h2 h3
        · intro a ha
          show upd (q'.F 19) i _ a = _
          rw [upd_n _ _ ha]; exact e4 a ha
      · have c4 : (q0.F 13 c).toInt = 4 := (hov c hc hk w).resolve_left c3
        rw [if_neg (fun z => c3 z.2), if_pos ⟨w, c4⟩, if_neg c3]
        refine hkk _ _ ⟨e1, e2, ?_, e4, r26 0 hne, r27 hne, ?_, by show fl + 1 = mn + 1; rw [e8] <;> rfl, ?_⟩
        · intro k h1 h2 h3
          show upF (upF q'.F 26 _) 27 _ k = _
          unfold upF
          rw [if_neg h3, if_neg h2]
          exact e3 k h1 h2 h3
        · show (cs.elim (some c) some).elim (-1) Int32.ofNat = if ca.toInt = -1 then Int32.ofNat c else ca
          cases hcs : cs with
          | none =>
            rw [hcs] at e7
            have e7 : (-1 : Int32) = ca := e7
            rw [← e7, if_pos tm]; rfl
          | some j =>
            rw [hcs] at e7
            have e7 : Int32.ofNat j = ca := e7
            have := (e9 j hcs).1
            rw [← e7, if_neg (by rw [ofNat_toInt (by omega)]; omega)]; rfl
        · intro j hj
          have hj : cs.elim (some c) some = some j := hj
          cases hcs : cs with
          | none => rw [hcs] at hj; cases hj; exact ⟨hc, hk, c4⟩
          | some j' => rw [hcs] at hj; cases hj; exact e9 j hcs
    · have hz : (q0.F 27 c).toInt = 0 := Classical.byContradiction (fun z => w (cl.mpr z))
      rw [if_neg (fun z => w z.1), if_neg (fun z => w z.1), if_neg (fun z => z.2 hz)]
      refine hkk _ _ ⟨e1, e2, e3, e4, fun a => ?_, fun a => ?_, e7, e8, e9⟩
      · show q'.F 26 a = _
        rw [e5]
        by_cases z : i < a ∧ a < c ∧ s.K a 0 = some i ∧ ¬ (q0.F 27 a).toInt = 0
        · rw [if_pos z, if_pos ⟨z.1, by omega, z.2.2⟩] <;> rfl
        · rw [if_neg z, if_neg (fun y => z ⟨y.1, by
            have : a ≠ c := fun e => y.2.2.2 (by rw [e]; exact hz)
            omega, y.2.2⟩)] <;> rfl
      · show q'.F 27 a = _
        rw [e6]
        by_cases z : i < a ∧ a < c ∧ s.K a 0 = some i ∧ ¬ (q0.F 27 a).toInt = 0
        · rw [if_pos z, if_pos ⟨z.1, by omega, z.2.2⟩] <;> rfl
        · rw [if_neg z, if_neg (fun y => z ⟨y.1, by
            have : a ≠ c := fun e => y.2.2.2 (by rw [e]; exact hz)
            omega, y.2.2⟩)] <;> rfl
  · intro c p p' k' hc hk hI
    obtain ⟨q', ca, mn⟩ := p'
    obtain ⟨e1, e2, e3, e4, e5, e6, e7, e8, e9⟩ := hI
    dsimp +instances only [c9n, c9f, c9T, c9G, c9K, c9F, q10F, q10n] at e1 e2 e3 e4 e5 e6 e7 e8 e9
    have f15 : q'.F 15 = q0.F 15 := (e3 15 (by decide) (by decide) (by decide)).trans rfl
    refine ⟨(q', ca, mn), ?_, e1, e2, e3, e4, fun a => ?_, fun a => ?_, e7, e8, e9⟩
    · unfold b_gathers
      dsimp +instances only [c9n, c9f, c9T, c9G, c9K, c9F, q10F, q10n]
      rw [f15, if_neg (fun z => hk ((h.giver hc hv (by omega)).mp z.1))] <;> rfl
    · show q'.F 26 a = _
      rw [e5]
      by_cases z : i < a ∧ a < c ∧ s.K a 0 = some i ∧ ¬ (q0.F 27 a).toInt = 0
      · rw [if_pos z, if_pos ⟨z.1, by omega, z.2.2⟩] <;> rfl
      · rw [if_neg z, if_neg (fun y => z ⟨y.1, by
          have : a ≠ c := fun e => hk (by rw [← e]; exact y.2.2.1)
          omega, y.2.2⟩)] <;> rfl
    · show q'.F 27 a = _
      rw [e6]
      by_cases z : i < a ∧ a < c ∧ s.K a 0 = some i ∧ ¬ (q0.F 27 a).toInt = 0
      · rw [if_pos z, if_pos ⟨z.1, by omega, z.2.2⟩] <;> rfl
      · rw [if_neg z, if_neg (fun y => z ⟨y.1, by
          have : a ≠ c := fun e => hk (by rw [← e]; exact y.2.2.1)
          omega, y.2.2⟩)] <;> rfl
  · refine ⟨?_, rfl, fun k _ _ _ => rfl, fun _ _ => rfl, fun a => ?_, fun a => ?_, rfl, rfl, fun j hj => by cases hj⟩
    · show s = (C9.mk s.n s.f s.T (u2 s.G i 5 (q0.F 19 i)) s.K s.F)
      rw [u2_same (h.b i hi).2.1] <;> rfl
    · show q0.F 26 a = _
      rw [if_neg (fun y => by omega)] <;> rfl
    · show q0.F 27 a = _
      rw [if_neg (fun y => by omega)] <;> rfl
end

section
variable {R : Nat} {kp : Int} {s : C9} {q : Q10} {i : Nat} {v : Int32}
theorem notice_sim (h : Rl R kp s q) (hi : i < (Int.toNat (Int32.toInt (s.n 0)))) (hv : v.toInt = (i : Int)) (hs : (q.F 13 i).toInt = 1) (ht : ¬ (q.F 25 i).toInt = 0) (h19 : s.G i 19 = -1) (h20 : s.G i 20 = 0) (h21 : (s.G i 21).toInt = 0) :
    Rl R kp (k_close i (k_notice i s).2 (k_notice i s).1) (r_fails v 4 (-1) 0 ⟨upF (upF q.F 24 (upd (q.F 24) i 0)) 25 (upd (q.F 25) i 0), q.n⟩) := by
  have t0 : (0 : Int32).toInt = 0 := by decide
  have t2 : (2 : Int32).toInt = 2 := by decide
  have kn : k_notice i s = ((C9.mk s.n s.f s.T (stG ((Int.toNat (Int32.toInt (s.n 0)))) s.K i 1 2 (u2 (u2 s.G i 8 0) i 9 0)) s.K s.F), 4) := by
    unfold k_notice
    rw [h.settle hi (s' := (C9.mk s.n s.f s.T (u2 (u2 s.G i 8 0) i 9 0) s.K s.F)) rfl] <;> rfl
  obtain ⟨GF, hGF⟩ : ∃ GF : Nat → Nat → Int32, GF = stG ((Int.toNat (Int32.toInt (s.n 0)))) s.K i 1 2 (u2 (u2 s.G i 8 0) i 9 0) := ⟨_, rfl⟩
  rw [kn, ← hGF]
  have G1 : ∀ a b : Nat, b ≠ 8 → b ≠ 9 → b ≠ 12 → GF a b = s.G a b := fun a b h5 h9 h12 => by rw [hGF, stG_ne h12, u2_n2 _ _ _ _ h9, u2_n2 _ _ _ _ h5] <;> rfl
  have G8i : GF i 8 = 0 := by rw [hGF, stG_ne (by decide), u2_n2 _ _ _ _ (by decide), u2_eq] <;> rfl
  have G9i : GF i 9 = 0 := by rw [hGF, stG_ne (by decide), u2_eq] <;> rfl
  have Gn : ∀ a b : Nat, a ≠ i → b ≠ 12 → GF a b = s.G a b := fun a b ha hb => by rw [hGF, stG_ne hb, u2_n1 _ _ _ ha, u2_n1 _ _ _ ha] <;> rfl
  have G12 : ∀ a : Nat, GF a 12 = if i < a ∧ a < (Int.toNat (Int32.toInt (s.n 0))) ∧ s.K a 0 = some i ∧ (s.G a 12).toInt = 1 then 2 else s.G a 12 := fun a => by
    rw [hGF]
    unfold stG
    rw [u2_n2 _ _ _ _ (show (12 : Nat) ≠ 9 by decide), u2_n2 _ _ _ _ (show (12 : Nat) ≠ 8 by decide)]
    by_cases z : i < a ∧ a < (Int.toNat (Int32.toInt (s.n 0))) ∧ s.K a 0 = some i ∧ (s.G a 12).toInt = 1
    · rw [if_pos z, if_pos ⟨rfl, z⟩] <;> rfl
    · rw [if_neg z, if_neg (fun w => z w.2)] <;> rfl
  have hF : Rl R kp (C9.mk s.n s.f s.T (GF) s.K s.F) ⟨upF (upF q.F 24 (upd (q.F 24) i 0)) 25 (upd (q.F 25) i 0), q.n⟩ := by
    refine ⟨h.u, h.z, h.l, h.t.cG (fun a b hb => G1 a b (by rintro rfl; simp at hb) (by rintro rfl; simp at hb) (by rintro rfl; simp at hb)), h.a.cG (fun a b hb => G1 a b (by rintro rfl; simp at hb) (by rintro rfl; simp at hb) (by rintro rfl; simp at hb)), h.b.cG (fun a b hb => G1 a b (by rintro rfl; simp at hb) (by rintro rfl; simp at hb) (by rintro rfl; simp at hb)), ?_, ?_, h.e.cG (fun a b hb => G1 a b (by rintro rfl; simp at hb) (by rintro rfl; simp at hb) (by rintro rfl; simp at hb)), h.f, h.g.cG (fun a b hb => G1 a b (by rintro rfl; simp at hb) (by rintro rfl; simp at hb) (by rintro rfl; simp at hb)), h.p.cG (fun a b hb => G1 a b (by rintro rfl; simp at hb) (by rintro rfl; simp at hb) (by rintro rfl; simp at hb)), h.x.cG (fun a b hb => G1 a b (by rintro rfl; simp at hb) (by rintro rfl; simp at hb) (by rintro rfl; simp at hb)), h.j, h.k.cG (fun a b hb => G1 a b (by rintro rfl; simp at hb) (by rintro rfl; simp at hb) (by rintro rfl; simp at hb))⟩
    · intro j hj
      have z := h.c j hj
      show GF j 8 = upd (q.F 25) i 0 j ∧ ((upd (q.F 25) i 0 j).toInt = 0 ∨ (upd (q.F 25) i 0 j).toInt = 1) ∧ ((upd (q.F 25) i 0 j).toInt = 0 → (¬ (upd (q.F 24) i 0 j).toInt = 0 ↔ ((q.F 13 j).toInt = 2 ∨ ¬ (GF j 9).toInt = 0))) ∧ ((q.F 13 j).toInt = 2 → (upd (q.F 25) i 0 j).toInt = 0 ∧ (GF j 9).toInt = 0) ∧ (((q.F 13 j).toInt = 3 ∨ (q.F 13 j).toInt = 4) → (upd (q.F 25) i 0 j).toInt = 0 ∧ (upd (q.F 24) i 0 j).toInt = 0 ∧ (GF j 9).toInt = 0) ∧ (¬ (upd (q.F 24) i 0 j).toInt = 0 → (GF j 6).toInt < 24)
      by_cases e : j = i
      · subst e; rw [upd_s, upd_s, G8i, G9i]
        exact ⟨rfl, Or.inl t0, fun _ => ⟨fun w => absurd t0 w, fun w => by omega⟩, fun _ => ⟨t0, t0⟩, fun _ => ⟨t0, t0, t0⟩, fun w => absurd t0 w⟩
      · rw [upd_n _ _ e, upd_n _ _ e, Gn j 8 e (by decide), Gn j 9 e (by decide), Gn j 6 e (by decide)]; exact z
    · intro j hj
      have z := h.d j hj
      refine ⟨fun w => ?_, fun g hg => ?_⟩
      · have w : s.K j 0 = none := w
        show (GF j 12).toInt = 0 ∧ _
        rw [G12, if_neg (fun y => by rw [w] at y; cases y.2.2.1)]
        exact z.1 w
      · have hg : s.K j 0 = some g := hg
        show ((GF j 12).toInt = 0 ∧ (q.F 26 j).toInt = 0 ∧ (q.F 27 j).toInt = 0) ∨ ((GF j 12).toInt = 1 ∧ ¬ (q.F 27 j).toInt = 0 ∧ (q.F 26 j).toInt = 0 ∧ (upd (q.F 25) i 0 g).toInt = 0 ∧ (¬ (upd (q.F 24) i 0 g).toInt = 0 ∧ ((q.F 13 g).toInt = 2 ∨ (q.F 13 j).toInt = 3 ∨ (q.F 13 j).toInt = 4))) ∨ ((GF j 12).toInt = 1 ∧ (q.F 27 j).toInt = 0 ∧ ¬ (q.F 26 j).toInt = 0 ∧ ¬ (upd (q.F 25) i 0 g).toInt = 0) ∨ ((GF j 12).toInt = 2 ∧ (q.F 27 j).toInt = 0 ∧ ¬ (q.F 26 j).toInt = 0)
        rw [G12]
        by_cases eg : g = i
        · subst eg
          have hl := ((h.a j hj).2.1.2.2.2 g hg).1
          rcases z.2 g hg with y | y | y | y
          · rw [if_neg (fun w => by omega)]; exact Or.inl y
          · exact absurd y.2.2.2.1 ht
          · rw [if_pos ⟨hl, hj, hg, y.1⟩]; exact Or.inr (Or.inr (Or.inr ⟨t2, y.2.1, y.2.2.1⟩))
          · rw [if_neg (fun w => by omega)]; exact Or.inr (Or.inr (Or.inr y))
        · have ng : s.K j 0 ≠ some i := fun w => eg (by rw [hg] at w; cases w; rfl)
          rw [if_neg (fun w => ng w.2.2.1), upd_n _ _ eg, upd_n _ _ eg]
          exact z.2 g hg
  show Rl R kp (k_close i 4 (C9.mk s.n s.f s.T (GF) s.K s.F)) _
  refine fails_sim hF hi hv hs (by show (upd (q.F 24) i 0 i).toInt = 0; rw [upd_s]; exact t0) (by show (upd (q.F 25) i 0 i).toInt = 0; rw [upd_s]; exact t0) (by show (GF i 9).toInt = 0; rw [G9i]; exact t0) (by decide) (by show GF i 19 = -1; rw [G1 i 19 (by decide) (by decide) (by decide)]; exact h19) (by show GF i 20 = 0; rw [G1 i 20 (by decide) (by decide) (by decide)]; exact h20) (by show (GF i 21).toInt = 0; rw [G1 i 21 (by decide) (by decide) (by decide)]; exact h21)
theorem gather_sim (h : Rl R kp s q) (hi : i < (Int.toNat (Int32.toInt (s.n 0)))) (hv : v.toInt = (i : Int)) (hs : (q.F 13 i).toInt = 1) (hb : (q.F 24 i).toInt = 0) (ht : (q.F 25 i).toInt = 0) (h9 : (s.G i 9).toInt = 0) (hp : (q.F 20 i).toInt < 24) (h19 : s.G i 19 = -1) (h20 : s.G i 20 = 0) (h21 : (s.G i 21).toInt = 0) :
    Rl R kp (k_close i (k_gather i s).2 (k_gather i s).1) (itr (b_claim v) (f_claim v) (Int32.toNatClampNeg (v + 1)) (Int32.toNatClampNeg (q.n 11) - Int32.toNatClampNeg (v + 1)) q) := by
  have hN := h.N200
  have e11 : Int32.toNatClampNeg (q.n 11) = (Int.toNat (Int32.toInt (s.n 0))) := by show (q.n 11).toInt.toNat = _; rw [h.u.1.1]
  have e1 : Int32.toNatClampNeg (v + 1) = i + 1 := ix_nat (by rw [inc_toInt (by omega), hv]; omega)
  have t0 : (0 : Int32).toInt = 0 := by decide
  have t1 : (1 : Int32).toInt = 1 := by decide
  have nb : ∀ c : Nat, ¬ bk0 q i c := fun c z => z.1 hb
  unfold k_gather
  rw [e11, e1, (h.p i hi).1]
  refine cit_itr (P := fun (r : C9 × Int32) (r' : Q10) => Rl R kp (k_close i r.2 r.1) r')
    (I := fun c (r : C9) (r' : Q10) => r = (C9.mk s.n s.f s.T (stG c s.K i 0 1 s.G) s.K s.F) ∧ ∃ f27 : Nat → Int32, r' = ⟨upF q.F 27 f27, q.n⟩ ∧ ∀ a : Nat, f27 a = if i < a ∧ a < c ∧ s.K a 0 = some i ∧ (q.F 26 a).toInt = 0 then 1 else q.F 27 a) (N := (Int.toNat (Int32.toInt (s.n 0)))) (fun c hc hk => (h.p c hc).2.1 i hk) ?_ ?_ ?_ _ (i + 1) _ _ 201 (by omega) (by omega) ⟨by rw [stG_0] <;> rfl, q.F 27, by rw [upF_id] <;> rfl, fun a => by rw [if_neg (fun y => by omega)] <;> rfl⟩
  · intro r r' hI
    obtain ⟨hr, f27, hr', hf⟩ := hI
    obtain ⟨GF, hGF⟩ : ∃ GF : Nat → Nat → Int32, GF = stG ((Int.toNat (Int32.toInt (s.n 0)))) s.K i 0 1 s.G := ⟨_, rfl⟩
    have G1 : ∀ a b : Nat, b ≠ 12 → GF a b = s.G a b := fun a b h12 => by rw [hGF, stG_ne h12] <;> rfl
    have G12 : ∀ a : Nat, GF a 12 = if i < a ∧ a < (Int.toNat (Int32.toInt (s.n 0))) ∧ s.K a 0 = some i ∧ (s.G a 12).toInt = 0 then 1 else s.G a 12 := fun a => by
      rw [hGF]
      unfold stG
      by_cases z : i < a ∧ a < (Int.toNat (Int32.toInt (s.n 0))) ∧ s.K a 0 = some i ∧ (s.G a 12).toInt = 0
      · rw [if_pos z, if_pos ⟨rfl, z⟩] <;> rfl
      · rw [if_neg z, if_neg (fun w => z w.2)] <;> rfl
    rw [hr, hr', ← hGF]
    have hF : Rel R kp (pb0 ⟨upF q.F 27 f27, q.n⟩) (fun g c => g = i ∨ bk0 q g c) (C9.mk s.n s.f s.T (GF) s.K s.F) ⟨upF q.F 27 f27, q.n⟩ := by
      refine ⟨h.u, h.z, h.l, h.t.cG (fun a b hb => G1 a b (by rintro rfl; simp at hb)), h.a.cG (fun a b hb => G1 a b (by rintro rfl; simp at hb)), h.b.cG (fun a b hb => G1 a b (by rintro rfl; simp at hb)), h.c.cG (fun a b hb => G1 a b (by rintro rfl; simp at hb)), ?_, h.e.cG (fun a b hb => G1 a b (by rintro rfl; simp at hb)), h.f, h.g.cG (fun a b hb => G1 a b (by rintro rfl; simp at hb)), h.p.cG (fun a b hb => G1 a b (by rintro rfl; simp at hb)), h.x.cG (fun a b hb => G1 a b (by rintro rfl; simp at hb)), h.j, h.k.cG (fun a b hb => G1 a b (by rintro rfl; simp at hb))⟩
      intro j hj
      have z := h.d j hj
      refine ⟨fun w => ?_, fun g hg => ?_⟩
      · have w : s.K j 0 = none := w
        show (GF j 12).toInt = 0 ∧ _ ∧ (f27 j).toInt = 0
        rw [G12, hf, if_neg (fun y => by rw [w] at y; cases y.2.2.1), if_neg (fun y => by rw [w] at y; cases y.2.2.1)]
        exact z.1 w
      · have hg : s.K j 0 = some g := hg
        show ((GF j 12).toInt = 0 ∧ (q.F 26 j).toInt = 0 ∧ (f27 j).toInt = 0) ∨ ((GF j 12).toInt = 1 ∧ ¬ (f27 j).toInt = 0 ∧ (q.F 26 j).toInt = 0 ∧ (q.F 25 g).toInt = 0 ∧ (g = i ∨ bk0 q g j)) ∨ ((GF j 12).toInt = 1 ∧ (f27 j).toInt = 0 ∧ ¬ (q.F 26 j).toInt = 0 ∧ ¬ (q.F 25 g).toInt = 0) ∨ ((GF j 12).toInt = 2 ∧ (f27 j).toInt = 0 ∧ ¬ (q.F 26 j).toInt = 0)
        rw [G12, hf]
        by_cases eg : g = i
        · subst eg
          have hl := ((h.a j hj).2.1.2.2.2 g hg).1
          rcases z.2 g hg with y | y | y | y
          · rw [if_pos ⟨hl, hj, hg, y.1⟩, if_pos ⟨hl, hj, hg, y.2.1⟩]; exact Or.inr (Or.inl ⟨t1, by omega, y.2.1, ht, Or.inl rfl⟩)
          · exact absurd y.2.2.2.2 (nb j)
          · exact absurd ht y.2.2.2
          · rw [if_neg (fun w => by omega), if_neg (fun w => y.2.2 w.2.2.2)]; exact Or.inr (Or.inr (Or.inr y))
        · have ng : s.K j 0 ≠ some i := fun w => eg (by rw [hg] at w; cases w; rfl)
          rw [if_neg (fun w => ng w.2.2.1), if_neg (fun w => ng w.2.2.1)]
          rcases z.2 g hg with y | y | y | y
          · exact Or.inl y
          · exact Or.inr (Or.inl ⟨y.1, y.2.1, y.2.2.1, y.2.2.2.1, Or.inr y.2.2.2.2⟩)
          · exact Or.inr (Or.inr (Or.inl y))
          · exact Or.inr (Or.inr (Or.inr y))
    have hF' : Rel R kp (pb0 ⟨upF q.F 27 f27, q.n⟩) (fun g c => g = i ∨ bk0 ⟨upF q.F 27 f27, q.n⟩ g c) (C9.mk s.n s.f s.T (GF) s.K s.F) ⟨upF q.F 27 f27, q.n⟩ := hF
    unfold f_gather f_claim
    rcases aw_sim (i := i) (v := v) hF' hi hv ht with w | w
    · rw [show k_aw ((C9.mk s.n s.f s.T (GF) s.K s.F) : C9).K ((C9.mk s.n s.f s.T (GF) s.K s.F) : C9).G i = true from w.1, if_pos w.2.1]
      have z := take_sim (i := i) (v := v) hF' (fun g c y => y) hi hv hs ht hp (by show GF i 19 = -1; rw [G1 i 19 (by decide)]; exact h19) (by show GF i 20 = 0; rw [G1 i 20 (by decide)]; exact h20) (by show (GF i 21).toInt = 0; rw [G1 i 21 (by decide)]; exact h21) w.2.2
      have e24 : upd (q.F 24) i 0 = q.F 24 := upd_id _ _ (i_inj (by rw [hb]; exact t0.symm))
      have eQ : (⟨upF (upF q.F 27 f27) 24 (upd (upF q.F 27 f27 24) i 0), q.n⟩ : Q10) = ⟨upF q.F 27 f27, q.n⟩ := by
        show (⟨upF (upF q.F 27 f27) 24 (upd (q.F 24) i 0), q.n⟩ : Q10) = _
        rw [e24, upF_idg (show upF q.F 27 f27 24 = q.F 24 from rfl)] <;> rfl
      dsimp +instances only [c9n, c9f, c9T, c9G, c9K, c9F, q10F, q10n] at z
      rw [eQ] at z
      exact z
    · rw [show k_aw ((C9.mk s.n s.f s.T (GF) s.K s.F) : C9).K ((C9.mk s.n s.f s.T (GF) s.K s.F) : C9).G i = false from w.1, if_neg (fun y => y w.2)]
      exact waits_sim (i := i) (v := v) hF' (fun g c y => y) hi hv hs ht (by show (GF i 9).toInt = 0; rw [G1 i 9 (by decide)]; exact h9) hp
  · intro c r r' k k' hc hk hI hkk
    obtain ⟨hr, f27, hr', hf⟩ := hI
    have hl := ((h.a c hc).2.1.2.2.2 i hk).1
    have g15 := (h.giver hc hv (by omega)).mpr hk
    have cl := h.claim0 hc hk (nb c) ht
    have e0 : stG c s.K i 0 1 s.G c 12 = s.G c 12 := by unfold stG; rw [if_neg (fun z => by omega)]
    have z := stG_s (x := 0) (y := 1) (G := s.G) hk hl
    rw [e0] at z
    rw [hr, hr']
    unfold b_gather b_claim
    dsimp +instances only [c9n, c9f, c9T, c9G, c9K, c9F, q10F, q10n]
    rw [e0]
    show Rl R kp (k_close i _ _) (if (q.F 15 c).toInt = v.toInt ∧ (q.F 26 c).toInt = 0 then _ else _)
    by_cases w : (s.G c 12).toInt = 0
    · rw [if_pos w, if_pos ⟨g15, cl.mp w⟩]
      rw [if_pos w] at z
      refine hkk _ _ ⟨by rw [z] <;> rfl, upd f27 c 1, by show Q10.mk (upF (upF q.F 27 f27) 27 (upd f27 c 1)) q.n = _; rw [upF_self] <;> rfl, fun a => ?_⟩
      by_cases e : a = c
      · subst e; rw [upd_s, if_pos ⟨hl, by omega, hk, cl.mp w⟩] <;> rfl
      · rw [upd_n _ _ e, hf]
        by_cases y : i < a ∧ a < c ∧ s.K a 0 = some i ∧ (q.F 26 a).toInt = 0
        · rw [if_pos y, if_pos ⟨y.1, by omega, y.2.2⟩] <;> rfl
        · rw [if_neg y, if_neg (fun x => y ⟨x.1, by omega, x.2.2⟩)] <;> rfl
    · rw [if_neg w, if_neg (fun y => w (cl.mpr y.2))]
      rw [if_neg w] at z
      refine hkk _ _ ⟨by rw [z] <;> rfl, f27, rfl, fun a => ?_⟩
      rw [hf]
      by_cases y : i < a ∧ a < c ∧ s.K a 0 = some i ∧ (q.F 26 a).toInt = 0
      · rw [if_pos y, if_pos ⟨y.1, by omega, y.2.2⟩] <;> rfl
      · rw [if_neg y, if_neg (fun x => y ⟨x.1, by
          have : a ≠ c := fun e => w (cl.mpr (by rw [← e]; exact x.2.2.2))
          omega, x.2.2⟩)] <;> rfl
  · intro c r r' k' hc hk hI
    obtain ⟨hr, f27, hr', hf⟩ := hI
    refine ⟨r', ?_, by rw [hr, stG_n hk] <;> rfl, f27, hr', fun a => ?_⟩
    · unfold b_claim
      rw [hr']
      show (if (q.F 15 c).toInt = v.toInt ∧ (q.F 26 c).toInt = 0 then _ else _) = _
      rw [if_neg (fun z => hk ((h.giver hc hv (by omega)).mp z.1))] <;> rfl
    · rw [hf]
      by_cases y : i < a ∧ a < c ∧ s.K a 0 = some i ∧ (q.F 26 a).toInt = 0
      · rw [if_pos y, if_pos ⟨y.1, by omega, y.2.2⟩] <;> rfl
      · rw [if_neg y, if_neg (fun x => y ⟨x.1, by
          have : a ≠ c := fun e => hk (by rw [← e]; exact x.2.2.1)
          omega, x.2.2⟩)] <;> rfl
end

/- ---------- a new RUN ---------- -/
theorem read_congr {s s' : C9} {g : Nat} (hf : s'.f = s.f) (hK : s'.K g = s.K g) (hG : s'.G g = s.G g) (hF : s'.F g = s.F g) (hR : s'.F (rt9 s.K g) = s.F (rt9 s.K g)) (x : Int32) : k_read s' g x = k_read s g x := by
  have hr : rt9 s'.K g = rt9 s.K g := by unfold rt9; rw [hK]
  unfold k_read
  rw [hf, hr, hR, hF, hG] <;> rfl
theorem openR_spec {s : C9} {g : Nat} (e : Int32) (hn : 0 ≤ (s.n 0).toInt ∧ (s.n 0).toInt < 200) (hg : g < (Int.toNat (Int32.toInt (s.n 0)))) (hr : rt9 s.K g < (Int.toNat (Int32.toInt (s.n 0)))) :
    ∃ F' : Nat → Nat → Nat → Int32, k_openR g e s = ⟨u1 s.n 0 (s.n 0 + 1), s.f, s.T, (k_begR ((Int.toNat (Int32.toInt (s.n 0)))) g e s).G, (k_begR ((Int.toNat (Int32.toInt (s.n 0)))) g e s).K, F'⟩ ∧ (∀ a : Nat, a ≠ (Int.toNat (Int32.toInt (s.n 0))) → F' a = s.F a) ∧ (∀ j : Nat, j < 8 → F' ((Int.toNat (Int32.toInt (s.n 0)))) 0 j = 0) ∧ ∀ j : Nat, j < 8 → F' ((Int.toNat (Int32.toInt (s.n 0)))) 2 j = k_read s g (Int32.ofNat j) := by
  obtain ⟨N, hN⟩ : ∃ N : Nat, N = (Int.toNat (Int32.toInt (s.n 0))) := ⟨_, rfl⟩
  rw [← hN] at hg hr ⊢
  obtain ⟨b, hb⟩ : ∃ b : C9, b = k_begR N g e s := ⟨_, rfl⟩
  have bn : b.n = s.n := by rw [hb]; rfl
  have bf : b.f = s.f := by rw [hb]; rfl
  have bT : b.T = s.T := by rw [hb]; rfl
  have bG : ∀ a : Nat, a ≠ N → b.G a = s.G a := fun a ha => by
    rw [hb]; unfold k_begR k_beg1 k_clrF sco k_kinR k_beg0
    dsimp +instances only [c9n, c9f, c9T, c9G, c9K, c9F, q10F, q10n]
    simp only [u2_n1 _ _ _ ha]
  have bK : ∀ a : Nat, a ≠ N → b.K a = s.K a := fun a ha => by
    rw [hb]; unfold k_begR k_beg1 k_clrF sco k_kinR k_beg0
    dsimp +instances only [c9n, c9f, c9T, c9G, c9K, c9F, q10F, q10n]
    simp only [u2_n1 _ _ _ ha]
  have bF : ∀ a : Nat, a ≠ N → b.F a = s.F a := fun a ha => by
    rw [hb]; unfold k_begR k_beg1 k_clrF sco k_kinR k_beg0
    dsimp +instances only [c9n, c9f, c9T, c9G, c9K, c9F, q10F, q10n]
    simp only [u2_n1 _ _ _ ha]
  have bF0 : ∀ j : Nat, j < 8 → b.F N 0 j = 0 := fun j hj => by
    rw [hb]; unfold k_begR k_beg1 k_clrF sco k_kinR k_beg0
    dsimp +instances only [c9n, c9f, c9T, c9G, c9K, c9F, q10F, q10n]
    rw [u2_n2 _ _ _ _ (by decide), u2_eq]
    unfold clr8
    rw [if_pos hj] <;> rfl
  unfold k_openR
  rw [if_pos hn.2, ← hN, ← hb]
  refine itr_inv (P := fun r : C9 => ∃ F' : Nat → Nat → Nat → Int32, r = ⟨u1 s.n 0 (s.n 0 + 1), s.f, s.T, b.G, b.K, F'⟩ ∧ (∀ a : Nat, a ≠ N → F' a = s.F a) ∧ (∀ j : Nat, j < 8 → F' N 0 j = 0) ∧ ∀ j : Nat, j < 8 → F' N 2 j = k_read s g (Int32.ofNat j))
    (I := fun c (r : C9) => ∃ F' : Nat → Nat → Nat → Int32, r = ⟨s.n, s.f, s.T, b.G, b.K, F'⟩ ∧ (∀ a : Nat, a ≠ N → F' a = s.F a) ∧ (∀ j : Nat, j < 8 → F' N 0 j = 0) ∧ ∀ j : Nat, j < 8 → j < c → F' N 2 j = k_read s g (Int32.ofNat j)) (N := 8) ?_ ?_ 8 0 _ rfl ⟨b.F, by rw [← bn, ← bf, ← bT] <;> rfl, bF, bF0, fun j _ h => by omega⟩
  · intro r hr'
    obtain ⟨F', e1, e2, e3, e4⟩ := hr'
    exact ⟨F', by rw [e1]; rfl, e2, e3, fun j hj => e4 j hj hj⟩
  · intro c r k hc hI hk
    obtain ⟨F', e1, e2, e3, e4⟩ := hI
    unfold b_giveR
    have er : k_read r g (Int32.ofNat c) = k_read s g (Int32.ofNat c) := by
      rw [e1]
      exact read_congr (s := s) (s' := ⟨s.n, s.f, s.T, b.G, b.K, F'⟩) rfl (bK g (by omega)) (bG g (by omega)) (e2 g (by omega)) (e2 (rt9 s.K g) (by omega)) _
    rw [er, e1]
    refine hk _ ⟨u2 F' N 2 (st8 (F' N 2) (Int32.ofNat c) (k_read s g (Int32.ofNat c))), rfl, fun a ha => by rw [u2_n1 _ _ _ ha]; exact e2 a ha, fun j hj => by rw [u2_n2 _ _ _ _ (by decide)]; exact e3 j hj, fun j hj hjc => ?_⟩
    rw [u2_eq, st8_eq (ofNat_toInt (by omega)) hc]
    by_cases e : j = c
    · subst e; rw [upd_s] <;> rfl
    · rw [upd_n _ _ e]; exact e4 j hj (by omega)

/- ---------- one RUN more ---------- -/
def NewC (s s' : C9) (N : Nat) (og : Option Nat) (e dp w : Int32) : Prop := (s'.n = u1 s.n 0 (s.n 0 + 1)) ∧ (s'.f = s.f) ∧ (s'.T = s.T) ∧ (∀ a b : Nat, a ≠ N → b ≠ 13 → s'.G a b = s.G a b) ∧ (s'.G N 0 = s.G N 0 ∧ s'.G N 22 = s.G N 22) ∧ (s'.G N 1 = e ∧ s'.G N 2 = 0 ∧ s'.G N 3 = -1 ∧ s'.G N 4 = 0 ∧ s'.G N 5 = 0 ∧ s'.G N 6 = 0 ∧ s'.G N 7 = -1 ∧ s'.G N 8 = 0 ∧ s'.G N 9 = 0) ∧ (s'.G N 10 = dp ∧ s'.G N 12 = w ∧ s'.G N 14 = 0 ∧ s'.G N 15 = 0 ∧ s'.G N 16 = 0 ∧ s'.G N 23 = 0) ∧ (∀ a : Nat, a ≠ N → s'.K a 0 = s.K a 0 ∧ s'.K a 1 = s.K a 1) ∧ (s'.K N 0 = og ∧ s'.K N 1 = og.map (rt9 s.K)) ∧ (∀ a : Nat, a ≠ N → s'.F a = s.F a) ∧ (∀ j : Nat, j < 8 → s'.F N 0 j = 0)
theorem NewC.n {s s' : C9} {N : Nat} {og : Option Nat} {e dp w : Int32} (hh_ : NewC s s' N og e dp w) : s'.n = u1 s.n 0 (s.n 0 + 1) := hh_.1
theorem NewC.f {s s' : C9} {N : Nat} {og : Option Nat} {e dp w : Int32} (hh_ : NewC s s' N og e dp w) : s'.f = s.f := hh_.2.1
theorem NewC.T {s s' : C9} {N : Nat} {og : Option Nat} {e dp w : Int32} (hh_ : NewC s s' N og e dp w) : s'.T = s.T := hh_.2.2.1
theorem NewC.G {s s' : C9} {N : Nat} {og : Option Nat} {e dp w : Int32} (hh_ : NewC s s' N og e dp w) : ∀ a b : Nat, a ≠ N → b ≠ 13 → s'.G a b = s.G a b := hh_.2.2.2.1
theorem NewC.g0 {s s' : C9} {N : Nat} {og : Option Nat} {e dp w : Int32} (hh_ : NewC s s' N og e dp w) : s'.G N 0 = s.G N 0 ∧ s'.G N 22 = s.G N 22 := hh_.2.2.2.2.1
theorem NewC.g1 {s s' : C9} {N : Nat} {og : Option Nat} {e dp w : Int32} (hh_ : NewC s s' N og e dp w) : s'.G N 1 = e ∧ s'.G N 2 = 0 ∧ s'.G N 3 = -1 ∧ s'.G N 4 = 0 ∧ s'.G N 5 = 0 ∧ s'.G N 6 = 0 ∧ s'.G N 7 = -1 ∧ s'.G N 8 = 0 ∧ s'.G N 9 = 0 := hh_.2.2.2.2.2.1
theorem NewC.g2 {s s' : C9} {N : Nat} {og : Option Nat} {e dp w : Int32} (hh_ : NewC s s' N og e dp w) : s'.G N 10 = dp ∧ s'.G N 12 = w ∧ s'.G N 14 = 0 ∧ s'.G N 15 = 0 ∧ s'.G N 16 = 0 ∧ s'.G N 23 = 0 := hh_.2.2.2.2.2.2.1
theorem NewC.K {s s' : C9} {N : Nat} {og : Option Nat} {e dp w : Int32} (hh_ : NewC s s' N og e dp w) : ∀ a : Nat, a ≠ N → s'.K a 0 = s.K a 0 ∧ s'.K a 1 = s.K a 1 := hh_.2.2.2.2.2.2.2.1
theorem NewC.k {s s' : C9} {N : Nat} {og : Option Nat} {e dp w : Int32} (hh_ : NewC s s' N og e dp w) : s'.K N 0 = og ∧ s'.K N 1 = og.map (rt9 s.K) := hh_.2.2.2.2.2.2.2.2.1
theorem NewC.F {s s' : C9} {N : Nat} {og : Option Nat} {e dp w : Int32} (hh_ : NewC s s' N og e dp w) : ∀ a : Nat, a ≠ N → s'.F a = s.F a := hh_.2.2.2.2.2.2.2.2.2.1
theorem NewC.F0 {s s' : C9} {N : Nat} {og : Option Nat} {e dp w : Int32} (hh_ : NewC s s' N og e dp w) : ∀ j : Nat, j < 8 → s'.F N 0 j = 0 := hh_.2.2.2.2.2.2.2.2.2.2
abbrev runK : List Nat := [13, 14, 15, 16, 17, 18, 19, 20, 21, 22, 23, 24, 25, 26, 27, 32, 36, 39]
def NewQ (q q' : Q10) (N : Nat) (og : Option Nat) (e dp w : Int32) : Prop := (q'.n = upn q.n 11 (q.n 11 + 1)) ∧ (∀ k a : Nat, k ∈ runK → a ≠ N → q'.F k a = q.F k a) ∧ (∀ k : Nat, k ∈ [0, 1, 2, 3, 4, 5, 6, 7, 8, 10, 28, 29, 30, 31, 34, 37, 38, 40, 41, 42, 43, 49, 50, 51, 52, 53, 54, 55, 56, 57, 58, 59] → q'.F k = q.F k) ∧ (q'.F 13 N = 0 ∧ q'.F 14 N = e ∧ q'.F 15 N = og.elim (-1) Int32.ofNat ∧ q'.F 16 N = og.elim (Int32.ofNat N) (q.F 16) ∧ q'.F 17 N = dp ∧ q'.F 18 N = -1 ∧ q'.F 19 N = 0 ∧ q'.F 20 N = 0) ∧ (q'.F 22 N = -1 ∧ q'.F 23 N = 0 ∧ q'.F 24 N = 0 ∧ q'.F 25 N = 0 ∧ q'.F 26 N = 0 ∧ q'.F 27 N = w ∧ q'.F 32 N = 0 ∧ q'.F 36 N = 0 ∧ q'.F 39 N = 0) ∧ (∀ a j : Nat, a ≠ N → j < 8 → q'.F 33 (8 * a + j) = q.F 33 (8 * a + j) ∧ q'.F 35 (8 * a + j) = q.F 35 (8 * a + j)) ∧ (∀ j : Nat, j < 8 → q'.F 35 (8 * N + j) = 0)
theorem NewQ.n {q q' : Q10} {N : Nat} {og : Option Nat} {e dp w : Int32} (hh_ : NewQ q q' N og e dp w) : q'.n = upn q.n 11 (q.n 11 + 1) := hh_.1
theorem NewQ.F {q q' : Q10} {N : Nat} {og : Option Nat} {e dp w : Int32} (hh_ : NewQ q q' N og e dp w) : ∀ k a : Nat, k ∈ runK → a ≠ N → q'.F k a = q.F k a := hh_.2.1
theorem NewQ.E {q q' : Q10} {N : Nat} {og : Option Nat} {e dp w : Int32} (hh_ : NewQ q q' N og e dp w) : ∀ k : Nat, k ∈ [0, 1, 2, 3, 4, 5, 6, 7, 8, 10, 28, 29, 30, 31, 34, 37, 38, 40, 41, 42, 43, 49, 50, 51, 52, 53, 54, 55, 56, 57, 58, 59] → q'.F k = q.F k := hh_.2.2.1
theorem NewQ.v1 {q q' : Q10} {N : Nat} {og : Option Nat} {e dp w : Int32} (hh_ : NewQ q q' N og e dp w) : q'.F 13 N = 0 ∧ q'.F 14 N = e ∧ q'.F 15 N = og.elim (-1) Int32.ofNat ∧ q'.F 16 N = og.elim (Int32.ofNat N) (q.F 16) ∧ q'.F 17 N = dp ∧ q'.F 18 N = -1 ∧ q'.F 19 N = 0 ∧ q'.F 20 N = 0 := hh_.2.2.2.1
theorem NewQ.v2 {q q' : Q10} {N : Nat} {og : Option Nat} {e dp w : Int32} (hh_ : NewQ q q' N og e dp w) : q'.F 22 N = -1 ∧ q'.F 23 N = 0 ∧ q'.F 24 N = 0 ∧ q'.F 25 N = 0 ∧ q'.F 26 N = 0 ∧ q'.F 27 N = w ∧ q'.F 32 N = 0 ∧ q'.F 36 N = 0 ∧ q'.F 39 N = 0 := hh_.2.2.2.2.1
theorem NewQ.m {q q' : Q10} {N : Nat} {og : Option Nat} {e dp w : Int32} (hh_ : NewQ q q' N og e dp w) : ∀ a j : Nat, a ≠ N → j < 8 → q'.F 33 (8 * a + j) = q.F 33 (8 * a + j) ∧ q'.F 35 (8 * a + j) = q.F 35 (8 * a + j) := hh_.2.2.2.2.2.1
theorem NewQ.o {q q' : Q10} {N : Nat} {og : Option Nat} {e dp w : Int32} (hh_ : NewQ q q' N og e dp w) : ∀ j : Nat, j < 8 → q'.F 35 (8 * N + j) = 0 := hh_.2.2.2.2.2.2
section
variable {R : Nat} {kp : Int} {s s' : C9} {q q' : Q10} {N : Nat} {og : Option Nat} {e dp w : Int32}
theorem new_sim (h : Rl R kp s q) (hN : N = (Int.toNat (Int32.toInt (s.n 0)))) (hN2 : N < 200) (c : NewC s s' N og e dp w) (d : NewQ q q' N og e dp w) (he : 0 ≤ e.toInt ∧ e.toInt < 8)
    (h21 : ∀ g : Nat, og = some g → g < N ∧ s'.G N 11 = q'.F 21 N ∧ dp.toInt = (s.G g 10).toInt + 1 ∧ dp.toInt ≤ 6 ∧ (¬ w.toInt = 0 → (q.F 25 g).toInt = 0)) (hno : og = none → dp.toInt = 0 ∧ w.toInt = 0) (hw : w.toInt = 0 ∨ w.toInt = 1)
    (hP : RP (N + 1) s'.G s'.K) (h33 : ∀ j : Nat, j < 8 → s'.F N 2 j = q'.F 33 (8 * N + j)) :
    Rel R kp (pb0 q') (fun g c => (og = some g ∧ ¬ w.toInt = 0) ∨ bk0 q' g c) s' q' := by
  have hu := h.u
  have i0 : (s.n 0).toInt = (N : Int) := by have := hu.2.1; rw [← hu.1.1] at this; omega
  have i1 : (s.n 0 + 1).toInt = ((N + 1 : Nat) : Int) := by rw [inc_toInt (by omega), i0]; omega
  have eN : (Int.toNat (Int32.toInt (s'.n 0))) = N + 1 := by rw [c.n, u1_eq, i1]; omega
  have t0 : (0 : Int32).toInt = 0 := by decide
  have tm : (-1 : Int32).toInt = -1 := by decide
  have eK : ∀ a : Nat, a ≠ N → rt9 s'.K a = rt9 s.K a := fun a ha => by unfold rt9; rw [(c.K a ha).2]
  have cases_ : ∀ j : Nat, j < N + 1 → j < N ∨ j = N := fun j hj => by omega
  have hE : ∀ k : Nat, k ∈ [0, 1, 2, 3, 4, 5, 6, 7, 8, 10, 28, 29, 30, 31, 34, 37, 38, 40, 41, 42, 43, 49, 50, 51, 52, 53, 54, 55, 56, 57, 58, 59] → q'.F k = q.F k := d.E
  have qn : ∀ k : Nat, k ≠ 11 → q'.n k = q.n k := fun k hk => by rw [d.n]; unfold upn; rw [if_neg hk]
  have sn : ∀ k : Nat, k ≠ 0 → s'.n k = s.n k := fun k hk => by rw [c.n, u1_ne _ _ hk] <;> rfl
  refine ⟨?_, ?_, ?_, ?_, ?_, ?_, ?_, ?_, ?_, ?_, ?_, ?_, ?_, ?_, ?_⟩
  · -- RU
    unfold RU
    rw [qn 9 (by decide), qn 12 (by decide), qn 45 (by decide), qn 47 (by decide), qn 48 (by decide), qn 44 (by decide), sn 1 (by decide), sn 2 (by decide), sn 3 (by decide), sn 4 (by decide), sn 5 (by decide), sn 14 (by decide), sn 15 (by decide), sn 17 (by decide), sn 18 (by decide), sn 20 (by decide)]
    have e11 : q'.n 11 = s.n 0 + 1 := by rw [d.n, hu.1.1]; exact upn_eq _ _ _
    have e0 : s'.n 0 = s.n 0 + 1 := by rw [c.n, u1_eq] <;> rfl
    rw [e11, e0, i1]
    exact ⟨⟨rfl, hu.1.2⟩, ⟨by omega, by omega⟩, hu.2.2⟩
  · -- RZ
    have hz := h.z
    unfold RZ at *
    rw [hE 0 (by decide), hE 1 (by decide), hE 2 (by decide), hE 3 (by decide), hE 4 (by decide), hE 5 (by decide), hE 6 (by decide), hE 7 (by decide), hE 8 (by decide), c.f]
    refine ⟨fun j hj => ?_, hz.2⟩
    rw [sn (6 + j) (by omega)]
    exact hz.1 j hj
  · have hl := h.l
    unfold RLg at *
    rw [hE 49 (by decide), hE 50 (by decide), hE 51 (by decide), hE 52 (by decide), hE 55 (by decide), hE 56 (by decide), hE 57 (by decide), hE 58 (by decide), hE 59 (by decide), c.f, sn 16 (by decide), sn 19 (by decide), sn 21 (by decide), qn 45 (by decide), qn 47 (by decide), qn 48 (by decide)]
    exact hl
  · rw [eN]
    have hT := h.t
    rw [← hN] at hT
    unfold RT at *
    rw [hE 10 (by decide), c.T]
    refine ⟨hT.1, fun t i hti => ?_, fun i hi h0 => ?_⟩
    · have z := hT.2.1 t i hti
      rw [c.G i 3 (by omega) (by decide)]
      exact ⟨by omega, z.2⟩
    · rcases cases_ i hi with z | z
      · rw [c.G i 3 (by omega) (by decide)] at h0 ⊢
        exact hT.2.2 i z h0
      · rw [z, c.g1.2.2.1] at h0; omega
  · rw [eN]
    have hA := h.a
    rw [← hN] at hA
    intro i hi
    rcases cases_ i hi with z | z
    · have ne : i ≠ N := by omega
      have y := hA i z
      rw [c.G i 0 ne (by decide), c.G i 1 ne (by decide), c.G i 3 ne (by decide), c.G i 4 ne (by decide), c.G i 6 ne (by decide), c.G i 7 ne (by decide), c.G i 10 ne (by decide), c.G i 11 ne (by decide), (c.K i ne).1, eK i ne, d.F 14 i (by decide) ne, d.F 15 i (by decide) ne, d.F 16 i (by decide) ne, d.F 17 i (by decide) ne, d.F 18 i (by decide) ne, d.F 20 i (by decide) ne, d.F 21 i (by decide) ne, d.F 22 i (by decide) ne, d.F 23 i (by decide) ne]
      refine ⟨y.1, ⟨y.2.1.1, y.2.1.2.1, y.2.1.2.2.1, fun g hg => ?_⟩, ⟨by have := y.2.2.1.1; omega, ?_⟩, y.2.2.2⟩
      · have x := y.2.1.2.2.2 g hg
        rw [c.G g 10 (by omega) (by decide)]
        exact x
      · have := y.2.2.1.1
        rw [(c.K (rt9 s.K i) (by omega)).1]
        exact y.2.2.1.2
    · subst z
      have k0 := (h.k i).1
      have d17 : 0 ≤ dp.toInt ∧ dp.toInt ≤ 6 := by
        cases eo : og with
        | none => have := (hno eo).1; omega
        | some g =>
          have x := h21 g eo
          have y := (hA g x.1)
          have : s.G g 10 = q.F 17 g := y.1.2.2.2.2.2.2
          have := y.2.2.2.2.1
          rw [← ‹s.G g 10 = q.F 17 g›] at this
          omega
      refine ⟨⟨by rw [c.g0.1, k0] <;> rfl, by rw [c.g1.1, d.v1.2.1] <;> rfl, by rw [c.g1.2.2.1, d.v1.2.2.2.2.2.1] <;> rfl, by rw [c.g1.2.2.2.1, d.v2.2.1] <;> rfl, by rw [c.g1.2.2.2.2.2.1, d.v1.2.2.2.2.2.2.2] <;> rfl, by rw [c.g1.2.2.2.2.2.2.1, d.v2.1] <;> rfl, by rw [c.g2.1, d.v1.2.2.2.2.1] <;> rfl⟩, ⟨by rw [c.k.1, d.v1.2.2.1] <;> rfl, ?_, fun z => ?_, fun g hg => ?_⟩, ?_, by rw [d.v1.2.1]; exact he, by rw [d.v1.2.2.2.2.1]; exact d17, by rw [d.v1.2.2.2.2.2.2.2]; decide⟩
      · rw [d.v1.2.2.2.1]
        unfold rt9
        rw [c.k.2]
        cases eo : og with
        | none => rfl
        | some g =>
          show Int32.ofNat (rt9 s.K g) = q.F 16 g
          exact (hA g (h21 g eo).1).2.1.2.1
      · rw [c.k.1] at z
        rw [c.g2.1]; exact (hno z).1
      · rw [c.k.1] at hg
        have x := h21 g hg
        rw [c.g2.1, c.G g 10 (by omega) (by decide)]
        exact ⟨x.1, x.2.1, x.2.2.1⟩
      · unfold rt9
        rw [c.k.2]
        cases eo : og with
        | none =>
          show i < i + 1 ∧ s'.K i 0 = none
          exact ⟨by omega, by rw [c.k.1, eo] <;> rfl⟩
        | some g =>
          have x := (hA g (h21 g eo).1).2.2.1
          show rt9 s.K g < i + 1 ∧ s'.K (rt9 s.K g) 0 = none
          rw [(c.K (rt9 s.K g) (by omega)).1]
          exact ⟨by omega, x.2⟩
  · rw [eN]
    have hB := h.b
    rw [← hN] at hB
    intro i hi
    rcases cases_ i hi with z | z
    · have ne : i ≠ N := by omega
      rw [c.G i 2 ne (by decide), c.G i 5 ne (by decide), d.F 13 i (by decide) ne, d.F 18 i (by decide) ne, d.F 19 i (by decide) ne]
      exact hB i z
    · subst z
      rw [c.g1.2.1, c.g1.2.2.2.2.1, d.v1.1, d.v1.2.2.2.2.2.1, d.v1.2.2.2.2.2.2.1]
      exact ⟨rfl, rfl, by decide, fun z => absurd z (by decide), fun _ => rfl⟩
  · rw [eN]
    have hC := h.c
    rw [← hN] at hC
    intro i hi
    rcases cases_ i hi with z | z
    · have ne : i ≠ N := by omega
      rw [c.G i 8 ne (by decide), c.G i 9 ne (by decide), c.G i 6 ne (by decide), d.F 13 i (by decide) ne, d.F 24 i (by decide) ne, d.F 25 i (by decide) ne]
      exact hC i z
    · subst z
      rw [c.g1.2.2.2.2.2.2.2.1, c.g1.2.2.2.2.2.2.2.2, d.v1.1, d.v2.2.2.1, d.v2.2.2.2.1]
      exact ⟨rfl, Or.inl t0, fun _ => ⟨fun z => absurd t0 z, fun z => by omega⟩, fun z => by omega, fun z => by omega, fun z => absurd t0 z⟩
  · rw [eN]
    have hD := h.d
    rw [← hN] at hD
    intro i hi
    rcases cases_ i hi with z | z
    · have ne : i ≠ N := by omega
      rw [c.G i 12 ne (by decide), (c.K i ne).1, d.F 26 i (by decide) ne, d.F 27 i (by decide) ne]
      refine ⟨(hD i z).1, fun g hg => ?_⟩
      have y := h.a i (by omega)
      have gl := (y.2.1.2.2.2 g hg).1
      have ng : g ≠ N := by omega
      rw [d.F 25 g (by decide) ng]
      rcases (hD i z).2 g hg with x | x | x | x
      · exact Or.inl x
      · refine Or.inr (Or.inl ⟨x.1, x.2.1, x.2.2.1, x.2.2.2.1, Or.inr ?_⟩)
        show ¬ (q'.F 24 g).toInt = 0 ∧ ((q'.F 13 g).toInt = 2 ∨ (q'.F 13 i).toInt = 3 ∨ (q'.F 13 i).toInt = 4)
        rw [d.F 24 g (by decide) ng, d.F 13 g (by decide) ng, d.F 13 i (by decide) ne]
        exact x.2.2.2.2
      · exact Or.inr (Or.inr (Or.inl x))
      · exact Or.inr (Or.inr (Or.inr x))
    · subst z
      rw [c.g2.2.1, c.k.1, d.v2.2.2.2.2.1, d.v2.2.2.2.2.2.1]
      refine ⟨fun z => ⟨(hno z).2, t0, (hno z).2⟩, fun g hg => ?_⟩
      have x := h21 g hg
      by_cases y : w.toInt = 0
      · exact Or.inl ⟨y, t0, y⟩
      · refine Or.inr (Or.inl ⟨by omega, y, t0, ?_, Or.inl ⟨hg, y⟩⟩)
        rw [d.F 25 g (by decide) (by omega)]
        exact x.2.2.2.2 y
  · rw [eN]
    have hR := h.e
    rw [← hN] at hR
    intro i hi
    rcases cases_ i hi with z | z
    · have ne : i ≠ N := by omega
      rw [c.G i 17 ne (by decide), c.G i 18 ne (by decide), c.G i 19 ne (by decide), c.G i 20 ne (by decide), c.G i 21 ne (by decide), (c.K i ne).1, d.F 13 i (by decide) ne, d.F 32 i (by decide) ne, hE 28 (by decide), hE 29 (by decide), hE 30 (by decide), hE 31 (by decide)]
      refine ⟨(hR i z).1, fun y => ⟨((hR i z).2 y).1, fun g hg => ?_⟩⟩
      have gl := ((h.a i (by omega)).2.1.2.2.2 g hg).1
      rw [d.F 13 g (by decide) (by omega)]
      exact ((hR i z).2 y).2 g hg
    · subst z
      rw [d.v1.1, d.v2.2.2.2.2.2.2.1]
      exact ⟨fun z => by omega, fun z => absurd t0 z⟩
  · rw [eN]
    have hF := h.f
    rw [← hN] at hF
    intro i j hi hj
    rcases cases_ i hi with z | z
    · have ne : i ≠ N := by omega
      rw [c.F i ne, hE 0 (by decide), d.F 18 i (by decide) ne, (d.m i j ne hj).1, (d.m i j ne hj).2, hE 34 (by decide)]
      exact hF i j z hj
    · subst z
      rw [c.F0 j hj, d.o j hj]
      exact ⟨h33 j hj, fun _ => ⟨Iff.rfl, fun z => absurd t0 z⟩, fun _ _ => t0⟩
  · rw [eN]
    have hS := h.g
    rw [← hN] at hS
    intro i hi
    rcases cases_ i hi with z | z
    · have ne : i ≠ N := by omega
      have y := hS i z
      show RS1 (q'.F 20 i).toInt kp _ _ _ _ _ _ _ _ _ _ _ _
      rw [qn 44 (by decide), d.F 20 i (by decide) ne, c.F i ne, d.F 13 i (by decide) ne, d.F 36 i (by decide) ne, d.F 39 i (by decide) ne, hE 37 (by decide), hE 38 (by decide), hE 40 (by decide), hE 41 (by decide), hE 42 (by decide), hE 43 (by decide)]
      unfold RS1 at *
      rw [c.G i 14 ne (by decide), c.G i 15 ne (by decide), c.G i 16 ne (by decide)]
      exact y
    · subst z
      have hk0 : 0 ≤ kp := by have := hu.2.2.2.1; omega
      show RS1 (q'.F 20 i).toInt kp _ _ _ _ _ _ _ _ _ _ _ _
      rw [d.v1.2.2.2.2.2.2.2, d.v1.1, d.v2.2.2.2.2.2.2.2.1, d.v2.2.2.2.2.2.2.2.2]
      unfold RS1
      rw [c.g2.2.2.1, c.g2.2.2.2.1, c.g2.2.2.2.2.1]
      exact ⟨⟨rfl, by decide, by decide, by decide, by decide, by rw [t0]; exact hk0⟩, fun k hk => by omega, fun k l _ hk => by omega, fun _ => ⟨⟨rfl, by decide, by decide, by decide⟩, fun t hk => by omega⟩⟩
  · rw [eN]; exact hP
  · rw [eN]
    have hX := h.x
    rw [← hN] at hX
    unfold RX at *
    rw [qn 46 (by decide), hE 53 (by decide), hE 54 (by decide)]
    refine ⟨hX.1, fun k hk => by have := hX.2.1 k hk; exact ⟨this.1, by omega, by rw [(c.K _ (by omega)).1]; exact this.2.2⟩, fun i hi h0 => ?_⟩
    rcases cases_ i hi with z | z
    · have ne : i ≠ N := by omega
      rw [(c.K i ne).1] at h0
      rw [c.G i 22 ne (by decide), c.G i 23 ne (by decide), c.F i ne]
      exact hX.2.2 i z h0
    · subst z
      rw [c.g0.2, c.g2.2.2.2.2.2, (h.k i).2, t0]
      refine ⟨rfl, ⟨by omega, by omega⟩, ?_⟩
      have : (List.range (q.n 46).toInt.toNat).filter (fun k => decide ((q.F 53 k).toInt = (i : Int))) = [] := by
        rw [List.filter_eq_nil_iff]
        intro k hk
        have hk := List.mem_range.mp hk
        have := hX.2.1 k (by omega)
        simp only [decide_eq_true_eq]
        omega
      rw [this]
      rfl
  · rw [eN]
    have hJ := h.j
    rw [← hN] at hJ
    unfold Q6 at *
    rw [qn 47 (by decide)]
    have : cU9 (q'.F 32) (N + 1) = cU9 (q.F 32) N := by
      show cU9 (q'.F 32) N + _ = _
      rw [d.v2.2.2.2.2.2.2.1, if_pos rfl]
      have cg : ∀ (k : Nat), k ≤ N → cU9 (q'.F 32) k = cU9 (q.F 32) k := by
        intro k
        induction k with
        | zero => intro _; rfl
        | succ k ih => intro hk; show cU9 (q'.F 32) k + _ = cU9 (q.F 32) k + _; rw [ih (by omega), d.F 32 k (by decide) (by omega)] <;> rfl
      rw [cg N (Nat.le_refl _)]
      rfl
    rw [this]
    exact hJ
  · intro i
    by_cases z : i = N
    · subst z; rw [c.g0.1, c.g0.2]; exact h.k i
    · rw [c.G i 0 z (by decide), c.G i 22 z (by decide)]; exact h.k i
end

/- ---------- a new RUN, on both sides ---------- -/
theorem rbind_congr {F F' : Nat → Nat → Int32} (h : F' 37 = F 37) (v x : Int32) : ∀ k : Nat, rbind F' v x k = rbind F v x k
  | 0 => by rw [rbind_0, rbind_0] <;> rfl
  | k + 1 => by rw [rbind_s, rbind_s, h, rbind_congr h v x k] <;> rfl
theorem reads_congr10 {q q' : Q10} {v x : Int32} (h0 : q'.F 0 = q.F 0) (h1 : q'.F 1 = q.F 1) (h16 : q'.F 16 (Int32.toNatClampNeg v) = q.F 16 (Int32.toNatClampNeg v)) (h18 : q'.F 18 (Int32.toNatClampNeg v) = q.F 18 (Int32.toNatClampNeg v)) (h33 : q'.F 33 (Int32.toNatClampNeg (8 * v + x)) = q.F 33 (Int32.toNatClampNeg (8 * v + x))) (h34 : q'.F 34 = q.F 34) (h35 : q'.F 35 (Int32.toNatClampNeg (8 * v + x)) = q.F 35 (Int32.toNatClampNeg (8 * v + x))) (hr : q'.F 35 (Int32.toNatClampNeg (8 * q.F 16 (Int32.toNatClampNeg v) + x)) = q.F 35 (Int32.toNatClampNeg (8 * q.F 16 (Int32.toNatClampNeg v) + x))) (h36 : q'.F 36 (Int32.toNatClampNeg v) = q.F 36 (Int32.toNatClampNeg v)) (h37 : q'.F 37 = q.F 37) (h38 : q'.F 38 = q.F 38) : r_reads v x q' = r_reads v x q := by
  have hb : r_binding v x q' = r_binding v x q := by unfold r_binding; rw [h36, rbind_congr h37]
  unfold r_reads
  rw [hb, h0, h1, h16, h18, h33, h34, h35, hr, h38] <;> rfl
section
variable {q : Q10} {N i : Nat} {e v : Int32}
theorem comes_loop {og : Option Nat} {ro de ga : Int32} {g : Nat → Int32} (hN : (q.n 11).toInt = (N : Int)) (hN2 : N < 200)
    (hro : ro = og.elim (Int32.ofNat N) (q.F 16)) (hv : v = og.elim (-1) Int32.ofNat)
    (hb : ∀ (c : Nat) (p : Q10), c < 8 → p.F 0 = q.F 0 → p.F 1 = q.F 1 → (∀ k a : Nat, k ∈ runK → a ≠ N → p.F k a = q.F k a) → p.F 34 = q.F 34 → p.F 37 = q.F 37 → p.F 38 = q.F 38 → (∀ a j : Nat, a ≠ N → j < 8 → p.F 33 (8 * a + j) = q.F 33 (8 * a + j) ∧ p.F 35 (8 * a + j) = q.F 35 (8 * a + j)) →
      (if v.toInt = -1 then q.F 1 c else r_reads v (Int32.ofNat c) p) = g c) :
    ∃ q' : Q10, itr (b_comes (q.n 11) v) (fun p => (p, q.n 11)) 0 8 (c_comes e v ro de ga q) = (q', q.n 11) ∧ NewQ q q' N og e de 0 ∧ q'.F 21 N = ga ∧ ∀ j : Nat, j < 8 → q'.F 33 (8 * N + j) = g j := by
  have eN : Int32.toNatClampNeg (q.n 11) = N := ix_nat hN
  obtain ⟨q1, hq1⟩ : ∃ q1 : Q10, q1 = c_comes e v ro de ga q := ⟨_, rfl⟩
  rw [← hq1]
  refine itr_inv (P := fun r : Q10 × Int32 => ∃ q' : Q10, r = (q', q.n 11) ∧ NewQ q q' N og e de 0 ∧ q'.F 21 N = ga ∧ ∀ j : Nat, j < 8 → q'.F 33 (8 * N + j) = g j)
    (I := fun c (p : Q10) => ∃ g33 g35 : Nat → Int32, p = ⟨upF (upF q1.F 33 g33) 35 g35, q1.n⟩ ∧ (∀ a j : Nat, a ≠ N → j < 8 → g33 (8 * a + j) = q.F 33 (8 * a + j) ∧ g35 (8 * a + j) = q.F 35 (8 * a + j)) ∧ ∀ j : Nat, j < 8 → j < c → g33 (8 * N + j) = g j ∧ g35 (8 * N + j) = 0) (N := 8) ?_ ?_ 8 0 q1 rfl ⟨q1.F 33, q1.F 35, by rw [upF_id, upF_id] <;> rfl, fun a j _ _ => by rw [hq1]; exact ⟨rfl, rfl⟩, fun j _ h => by omega⟩
  · rintro p ⟨g33, g35, rfl, h1, h2⟩
    refine ⟨_, rfl, ⟨?_, ?_, ?_, ?_, ?_, h1, fun j hj => (h2 j hj hj).2⟩, ?_, fun j hj => (h2 j hj hj).1⟩
    · rw [hq1]; rfl
    · intro k a hk ha
      rw [hq1]
      unfold c_comes
      rw [eN]
      simp only [runK, List.mem_cons, List.not_mem_nil, or_false] at hk
      rcases hk with rfl | rfl | rfl | rfl | rfl | rfl | rfl | rfl | rfl | rfl | rfl | rfl | rfl | rfl | rfl | rfl | rfl | rfl <;> exact upd_n _ _ ha
    · intro k hk
      rw [hq1]
      unfold c_comes
      simp only [List.mem_cons, List.not_mem_nil, or_false] at hk
      rcases hk with rfl | rfl | rfl | rfl | rfl | rfl | rfl | rfl | rfl | rfl | rfl | rfl | rfl | rfl | rfl | rfl | rfl | rfl | rfl | rfl | rfl | rfl | rfl | rfl | rfl | rfl | rfl | rfl | rfl | rfl | rfl | rfl <;> rfl
    · rw [hq1]
      unfold c_comes
      rw [eN, ← hro, ← hv]
      exact ⟨upd_s _ _ _, upd_s _ _ _, upd_s _ _ _, upd_s _ _ _, upd_s _ _ _, upd_s _ _ _, upd_s _ _ _, upd_s _ _ _⟩
    · rw [hq1]
      unfold c_comes
      rw [eN]
      exact ⟨upd_s _ _ _, upd_s _ _ _, upd_s _ _ _, upd_s _ _ _, upd_s _ _ _, upd_s _ _ _, upd_s _ _ _, upd_s _ _ _, upd_s _ _ _⟩
    · rw [hq1]
      unfold c_comes
      rw [eN]
      exact upd_s _ _ _
  · rintro c p k hc ⟨g33, g35, rfl, h1, h2⟩ hk
    have ei : Int32.toNatClampNeg (8 * q.n 11 + Int32.ofNat c) = 8 * N + c := ix8 hN hN2 (ofNat_toInt (by omega)) hc
    have row : ∀ a j : Nat, a ≠ N → j < 8 → 8 * a + j ≠ 8 * N + c := fun a j ha hj => by omega
    have e1 : q1.F 1 = q.F 1 := by rw [hq1]; rfl
    have fb := hb c ⟨upF (upF (upF q1.F 33 g33) 35 g35) 35 (upd g35 (8 * N + c) 0), q1.n⟩ hc (by rw [hq1]; rfl) e1 (fun k a hk' ha => by
        rw [hq1]
        unfold c_comes
        rw [eN]
        simp only [runK, List.mem_cons, List.not_mem_nil, or_false] at hk'
        rcases hk' with rfl | rfl | rfl | rfl | rfl | rfl | rfl | rfl | rfl | rfl | rfl | rfl | rfl | rfl | rfl | rfl | rfl | rfl <;> exact upd_n _ _ ha) (by rw [hq1]; rfl) (by rw [hq1]; rfl) (by rw [hq1]; rfl) (fun a j ha hj => ⟨(h1 a j ha hj).1, by show upd g35 (8 * N + c) 0 (8 * a + j) = _; rw [upd_n _ _ (row a j ha hj)]; exact (h1 a j ha hj).2⟩)
    have fin : ∀ x : Int32, x = g c → (∃ a b : Nat → Int32, (⟨upF (upF (upF (upF q1.F 33 g33) 35 g35) 33 (upd g33 (8 * N + c) x)) 35 (upd g35 (8 * N + c) 0), q1.n⟩ : Q10) = ⟨upF (upF q1.F 33 a) 35 b, q1.n⟩ ∧ (∀ a' j : Nat, a' ≠ N → j < 8 → a (8 * a' + j) = q.F 33 (8 * a' + j) ∧ b (8 * a' + j) = q.F 35 (8 * a' + j)) ∧ ∀ j : Nat, j < 8 → j < c + 1 → a (8 * N + j) = g j ∧ b (8 * N + j) = 0) := by
      intro x hx
      refine ⟨upd g33 (8 * N + c) x, upd g35 (8 * N + c) 0, ?_, fun a' j ha hj => ?_, fun j hj hjc => ?_⟩
      · rw [upF_comm _ _ _ (show 33 < 35 by decide), upF_self, upF_self] <;> rfl
      · rw [upd_n _ _ (row a' j ha hj), upd_n _ _ (row a' j ha hj)]; exact h1 a' j ha hj
      · by_cases ej : j = c
        · subst ej; rw [upd_s, upd_s]; exact ⟨hx, rfl⟩
        · rw [upd_n _ _ (by omega), upd_n _ _ (by omega)]; exact h2 j hj (by omega)
    unfold b_comes
    dsimp +instances only [c9n, c9f, c9T, c9G, c9K, c9F, q10F, q10n]
    rw [ei]
    by_cases hm : v.toInt = -1
    · rw [if_pos hm] at fb ⊢
      exact hk _ (fin (q1.F 1 c) (by rw [e1]; exact fb))
    · rw [if_neg hm] at fb ⊢
      exact hk _ (fin _ fb)
theorem comesR (hN : (q.n 11).toInt = (N : Int)) (hN2 : N < 200) (hv : v.toInt = (i : Int)) (hi : i < N) {r : Nat} (hr : q.F 16 i = Int32.ofNat r) (hr2 : r < N) :
    ∃ q' : Q10, r_comes e v q = (q', q.n 11) ∧ NewQ q q' N (some i) e (q.F 17 i + 1) 0 ∧ q'.F 21 N = q.F 20 i ∧ ∀ j : Nat, j < 8 → q'.F 33 (8 * N + j) = r_reads v (Int32.ofNat j) q := by
  have hm : ¬ v.toInt = -1 := by omega
  unfold r_comes
  rw [if_neg hm, ix_nat hv, ix_nat hN, upd_n _ _ (show i ≠ N by omega)]
  have ev : v = Int32.ofNat i := i_inj (by rw [hv, ofNat_toInt (by omega)] <;> rfl)
  have rt : (q.F 16 i).toInt = (r : Int) := by rw [hr, ofNat_toInt (by omega)] <;> rfl
  refine comes_loop hN hN2 rfl ev (fun c p hc h0 h1 hF h34 h37 h38 hm2 => ?_)
  rw [if_neg hm]
  have ec : (Int32.ofNat c).toInt = (c : Int) := ofNat_toInt (by omega)
  have e8 : Int32.toNatClampNeg (8 * v + Int32.ofNat c) = 8 * i + c := ix8 hv (by omega) ec hc
  have e8r : Int32.toNatClampNeg (8 * q.F 16 i + Int32.ofNat c) = 8 * r + c := ix8 rt (by omega) ec hc
  refine reads_congr10 h0 h1 ?_ ?_ ?_ h34 ?_ ?_ ?_ h37 h38
  · rw [ix_nat hv]; exact hF 16 i (by decide) (by omega)
  · rw [ix_nat hv]; exact hF 18 i (by decide) (by omega)
  · rw [e8]; exact (hm2 i c (by omega) hc).1
  · rw [e8]; exact (hm2 i c (by omega) hc).2
  · rw [ix_nat hv, e8r]; exact (hm2 r c (by omega) hc).2
  · rw [ix_nat hv]; exact hF 36 i (by decide) (by omega)
theorem comesN (hN : (q.n 11).toInt = (N : Int)) (hN2 : N < 200) :
    ∃ q' : Q10, r_comes e (-1) q = (q', q.n 11) ∧ NewQ q q' N none e 0 0 ∧ ∀ j : Nat, j < 8 → q'.F 33 (8 * N + j) = q.F 1 j := by
  have hm : (-1 : Int32).toInt = -1 := by decide
  unfold r_comes
  rw [if_pos hm]
  have en : q.n 11 = Int32.ofNat N := i_inj (by rw [hN, ofNat_toInt (by omega)] <;> rfl)
  obtain ⟨q', h1, h2, _, h4⟩ := comes_loop (q := q) (N := N) (e := e) (v := -1) (og := none) (ro := q.n 11) (de := 0) (ga := -1) (g := fun j => q.F 1 j) hN hN2 en rfl (fun c p hc _ _ _ _ _ _ _ => by rw [if_pos hm] <;> rfl)
  exact ⟨q', h1, h2, h4⟩
end

/- ---------- a new RUN of a giver, on the class's side ---------- -/
theorem lsk_none {K : Nat → Nat → Option Nat} {g : Nat} : ∀ {n : Nat}, (∀ j : Nat, j < n → K j 0 ≠ some g) → lsk K g n = none
  | 0, _ => rfl
  | n + 1, h => by rw [lsk_s, if_neg (h n (by omega))]; exact lsk_none (fun j hj => h j (by omega))
theorem cnk_none {K : Nat → Nat → Option Nat} {g : Nat} : ∀ {n : Nat}, (∀ j : Nat, j < n → K j 0 ≠ some g) → cnk K g n = 0
  | 0, _ => rfl
  | n + 1, h => by rw [cnk_s, if_neg (h n (by omega)), cnk_none (fun j hj => h j (by omega))] <;> rfl
theorem lsk_no {K : Nat → Nat → Option Nat} {g n : Nat} (h : lsk K g n = none) : ∀ j : Nat, j < n → K j 0 ≠ some g := fun j hj z => by
  obtain ⟨c, hc, _⟩ := lsk_max hj z
  rw [h] at hc; cases hc
theorem nxk_no {K : Nat → Nat → Option Nat} {g : Nat} : ∀ {n c : Nat}, (∀ j : Nat, c ≤ j → j < c + n → K j 0 ≠ some g) → nxk K g c n = none := by
  intro n
  induction n with
  | zero => intro c _; rfl
  | succ n ih => intro c h; rw [nxk_s, if_neg (h c (Nat.le_refl _) (by omega))]; exact ih (fun j h1 h2 => h j (by omega) (by omega))
theorem nxk_yes {K : Nat → Nat → Option Nat} {g n c j : Nat} (h1 : c ≤ j) (h2 : j < c + n) (h : K j 0 = some g) : ∃ d, nxk K g c n = some d := by
  cases e : nxk K g c n with
  | none => exact absurd h (nxk_none e j h1 h2)
  | some d => exact ⟨d, rfl⟩
theorem cnk_le (K : Nat → Nat → Option Nat) (g : Nat) : ∀ n : Nat, cnk K g n ≤ n
  | 0 => Nat.le_refl _
  | n + 1 => by
    rw [cnk_s]
    have := cnk_le K g n
    by_cases e : K n 0 = some g
    · rw [if_pos e]; omega
    · rw [if_neg e]; omega
section
variable {N : Nat} {G G' : Nat → Nat → Int32} {K K' : Nat → Nat → Option Nat}
/-- the ways of the children, with one RUN more that has no giver -/
theorem RP.snocN (h : RP N G K) (hg : ∀ j g : Nat, j < N → K j 0 = some g → g < j) (hK : ∀ a : Nat, a ≠ N → K' a = K a) (h0 : K' N 0 = none) (h2 : K' N 2 = none) (h3 : K' N 3 = none) (hG : ∀ a : Nat, a ≠ N → G' a 13 = G a 13) (hn : G' N 13 = 0) : RP (N + 1) G' K' := by
  have kk : ∀ j : Nat, j < N → K' j 0 = K j 0 := fun j hj => by rw [hK j (by omega)] <;> rfl
  have snoc : ∀ g a : Nat, a < N → nxk K' g (a + 1) (N + 1 - (a + 1)) = nxk K g (a + 1) (N - (a + 1)) := fun g a ha => by
    rw [show N + 1 - (a + 1) = (N - (a + 1)) + 1 by omega, nxk_snoc, show a + 1 + (N - (a + 1)) = N by omega, h0, if_neg (by intro z; cases z), nxk_congr (fun j _ h2 => kk j (by omega))]
    cases nxk K g (a + 1) (N - (a + 1)) <;> rfl
  intro a ha
  by_cases e : a = N
  · subst e
    have no : ∀ j : Nat, j < a + 1 → K' j 0 ≠ some a := fun j hj z => by
      by_cases ej : j = a
      · subst ej; rw [h0] at z; cases z
      · rw [hK j ej] at z; have := hg j a (by omega) z; omega
    refine ⟨by rw [h2, show a + 1 - (a + 1) = 0 by omega, nxk_0] <;> rfl, (fun g hgg => by rw [h0] at hgg; cases hgg), by rw [h3, lsk_none no] <;> rfl, ?_⟩
    rw [hn, cnk_none no]; decide
  · have z := h a (by omega)
    rw [hK a e, hG a e, snoc a a (by omega), lsk_s, cnk_s, h0, if_neg (by intro z; cases z), if_neg (by intro z; cases z), lsk_congr kk, cnk_congr kk]
    exact ⟨z.1, fun g hgg => by rw [snoc g a (by omega)]; exact z.2.1 g hgg, z.2.2.1, z.2.2.2⟩
/-- with one RUN more of giver i -/
theorem RP.snocR {i : Nat} (h : RP N G K) (hN : N < 200) (hi : i < N) (hg : ∀ j g : Nat, j < N → K j 0 = some g → g < j)
    (hK : ∀ a b : Nat, a ≠ N → K' a b = if a = i ∧ b = 3 then some N else if K i 3 = none ∧ a = i ∧ b = 2 then some N else if K i 3 = some a ∧ b = 4 then some N else K a b) (h0 : K' N 0 = some i) (h2 : K' N 2 = none) (h3 : K' N 3 = none) (h4 : K' N 4 = none)
    (hG : ∀ a : Nat, a ≠ N → G' a 13 = if a = i then G a 13 + 1 else G a 13) (hn : G' N 13 = 0) : RP (N + 1) G' K' := by
  have kk : ∀ j : Nat, j < N → K' j 0 = K j 0 := fun j hj => by
    rw [hK j 0 (by omega), if_neg (fun z => by omega), if_neg (fun z => by omega), if_neg (fun z => by omega)] <;> rfl
  have snoc : ∀ g a : Nat, a < N → nxk K' g (a + 1) (N + 1 - (a + 1)) = (nxk K g (a + 1) (N - (a + 1))).elim (if i = g then some N else none) some := fun g a ha => by
    rw [show N + 1 - (a + 1) = (N - (a + 1)) + 1 by omega, nxk_snoc, show a + 1 + (N - (a + 1)) = N by omega, h0, nxk_congr (fun j _ h2 => kk j (by omega))]
    by_cases e : i = g
    · rw [if_pos e, if_pos (by rw [e] <;> rfl)] <;> rfl
    · rw [if_neg e, if_neg (fun z => e (by cases z; rfl))] <;> rfl
  have li := (h i hi).2.2.1
  intro a ha
  by_cases e : a = N
  · subst e
    have no : ∀ j : Nat, j < a + 1 → K' j 0 ≠ some a := fun j hj z => by
      by_cases ej : j = a
      · subst ej; rw [h0] at z; cases z; omega
      · rw [kk j (by omega)] at z; have := hg j a (by omega) z; omega
    refine ⟨by rw [h2, show a + 1 - (a + 1) = 0 by omega, nxk_0] <;> rfl, fun g hgg => by rw [h4, show a + 1 - (a + 1) = 0 by omega, nxk_0] <;> rfl, by rw [h3, lsk_none no] <;> rfl, ?_⟩
    rw [hn, cnk_none no]; decide
  · have aN : a < N := by omega
    have z := h a aN
    rw [lsk_s, cnk_s, h0, lsk_congr kk, cnk_congr kk, hG a e]
    refine ⟨?_, fun g hgg => ?_, ?_, ?_⟩
    · rw [snoc a a aN, hK a 2 e, if_neg (fun y => by omega)]
      by_cases ea : a = i
      · subst ea
        rw [if_pos rfl]
        cases e3 : K a 3 with
        | none =>
          rw [e3] at li
          rw [if_pos ⟨rfl, rfl, rfl⟩, nxk_no (fun j _ hj => lsk_no li.symm j (by omega))]; rfl
        | some j =>
          rw [e3] at li
          rw [if_neg (fun y => by cases y.1), if_neg (fun y => by omega)]
          have hj := lsk_lt li.symm
          have hl := hg j a hj.1 hj.2
          obtain ⟨d, hd⟩ := nxk_yes (K := K) (g := a) (c := a + 1) (n := N - (a + 1)) (j := j) (by omega) (by omega) hj.2
          rw [z.1, hd]; rfl
      · rw [if_neg (fun y => ea y.2.1), if_neg (fun y => by omega), if_neg (fun y => ea y.symm), z.1]
        cases nxk K a (a + 1) (N - (a + 1)) <;> rfl
    · rw [kk a aN] at hgg
      rw [snoc g a aN, hK a 4 e, if_neg (fun y => by omega), if_neg (fun y => by omega)]
      by_cases eg : i = g
      · subst eg
        rw [if_pos rfl]
        obtain ⟨c, hc, hac⟩ := lsk_max aN hgg
        by_cases ec : a = c
        · subst ec
          rw [if_pos ⟨by rw [li]; exact hc, rfl⟩]
          rw [nxk_no (fun j h1 h2 z => by
            obtain ⟨c', hc', hjc⟩ := lsk_max (K := K) (g := i) (n := N) (j := j) (by omega) z
            rw [hc] at hc'; cases hc'; omega)]
          rfl
        · rw [if_neg (fun y => by rw [li, hc] at y; exact ec (by cases y.1; rfl)), z.2.1 i hgg]
          have hcl := lsk_lt hc
          obtain ⟨d, hd⟩ := nxk_yes (K := K) (g := i) (c := a + 1) (n := N - (a + 1)) (j := c) (by omega) (by omega) hcl.2
          rw [hd]; rfl
      · rw [if_neg eg, if_neg (fun y => by
          have := (lsk_lt (li.symm.trans y.1)).2
          rw [hgg] at this; cases this; exact eg rfl), z.2.1 g hgg]
        cases nxk K g (a + 1) (N - (a + 1)) <;> rfl
    · rw [hK a 3 e]
      by_cases ea : a = i
      · subst ea; rw [if_pos ⟨rfl, rfl⟩, if_pos rfl] <;> rfl
      · rw [if_neg (fun y => ea y.1), if_neg (fun y => by omega), if_neg (fun y => by omega), if_neg (fun y => ea (by cases y; rfl)), z.2.2.1] <;> rfl
    · have cl := cnk_le K a N
      by_cases ea : a = i
      · subst ea
        rw [if_pos rfl, if_pos rfl, inc_toInt (by rw [z.2.2.2]; omega), z.2.2.2]; omega
      · rw [if_neg ea, if_neg (fun y => ea (by cases y; rfl)), z.2.2.2]; omega
end
section
variable {R : Nat} {kp : Int} {s : C9} {q : Q10} {i N : Nat} {e : Int32}
theorem openR_new (h : Rl R kp s q) (hN : N = (Int.toNat (Int32.toInt (s.n 0)))) (hN2 : N < 200) (hi : i < N) (w : Int32) {s2 s' : C9} (hs2 : s2 = k_adopt i N (k_openR i e s)) (hs' : s' = (C9.mk s2.n s2.f s2.T (u2 s2.G N 12 w) s2.K s2.F)) :
    NewC s s' N (some i) e (s.G i 10 + 1) w ∧ RP (N + 1) s'.G s'.K ∧ s'.G N 11 = s.G i 6 ∧ s2.G N 12 = 0 ∧ ∀ j : Nat, j < 8 → s'.F N 2 j = k_read s i (Int32.ofNat j) := by
  have hu := h.u
  have i0 : (s.n 0).toInt = (N : Int) := by have := hu.2.1; rw [← hu.1.1] at this; omega
  have ni : i ≠ N := by omega
  have hA := h.a
  rw [← hN] at hA
  have hP := h.p
  rw [← hN] at hP
  have hr := (hA i hi).2.2.1.1
  obtain ⟨F', o1, o2, o3, o4⟩ := openR_spec (s := s) (g := i) e (by omega) (by rw [← hN]; exact hi) (by rw [← hN]; exact hr)
  rw [← hN] at o1 o2 o3 o4
  obtain ⟨b, hb⟩ : ∃ b : C9, b = k_begR N i e s := ⟨_, rfl⟩
  rw [← hb] at o1
  have bG : ∀ a : Nat, a ≠ N → b.G a = s.G a := fun a ha => by
    rw [hb]; unfold k_begR k_beg1 k_clrF sco k_kinR k_beg0
    dsimp +instances only [c9n, c9f, c9T, c9G, c9K, c9F, q10F, q10n]
    simp only [u2_n1 _ _ _ ha]
  have bK : ∀ a : Nat, a ≠ N → b.K a = s.K a := fun a ha => by
    rw [hb]; unfold k_begR k_beg1 k_clrF sco k_kinR k_beg0
    dsimp +instances only [c9n, c9f, c9T, c9G, c9K, c9F, q10F, q10n]
    simp only [u2_n1 _ _ _ ha]
  have bKN : b.K N 0 = some i ∧ b.K N 1 = some (rt9 s.K i) ∧ b.K N 2 = none ∧ b.K N 3 = none ∧ b.K N 4 = none := by
    rw [hb]; unfold k_begR k_beg1 k_clrF sco k_kinR k_beg0 rt9
    dsimp +instances only [c9n, c9f, c9T, c9G, c9K, c9F, q10F, q10n]
    simp [u2_at, ni]
  have bGN : (b.G N 0 = s.G N 0 ∧ b.G N 22 = s.G N 22) ∧ (b.G N 1 = e ∧ b.G N 2 = 0 ∧ b.G N 3 = -1 ∧ b.G N 4 = 0 ∧ b.G N 5 = 0 ∧ b.G N 6 = 0 ∧ b.G N 7 = -1 ∧ b.G N 8 = 0 ∧ b.G N 9 = 0) ∧ (b.G N 10 = s.G i 10 + 1 ∧ b.G N 14 = 0 ∧ b.G N 15 = 0 ∧ b.G N 16 = 0 ∧ b.G N 23 = 0) ∧ b.G N 11 = s.G i 6 ∧ b.G N 12 = 0 ∧ b.G N 13 = 0 := by
    rw [hb]; unfold k_begR k_beg1 k_clrF sco k_kinR k_beg0 rt9
    dsimp +instances only [c9n, c9f, c9T, c9G, c9K, c9F, q10F, q10n]
    simp [u2_at, ni]
  have k3 : b.K i 3 = s.K i 3 := by rw [bK i ni] <;> rfl
  -- the adopted one
  have ad : s2 = ⟨u1 s.n 0 (s.n 0 + 1), s.f, s.T, u2 b.G i 13 (b.G i 13 + 1), u2 ((s.K i 3).elim (u2 b.K i 2 (some N)) (fun j => u2 b.K j 4 (some N))) i 3 (some N), F'⟩ := by
    rw [hs2, o1]
    unfold k_adopt
    dsimp +instances only [c9n, c9f, c9T, c9G, c9K, c9F, q10F, q10n]
    rw [k3]
    cases s.K i 3 <;> rfl
  have K2 : ∀ a b' : Nat, s2.K a b' = if a = i ∧ b' = 3 then some N else if s.K i 3 = none ∧ a = i ∧ b' = 2 then some N else if s.K i 3 = some a ∧ b' = 4 then some N else b.K a b' := fun a b' => by
    rw [ad]
    show u2 ((s.K i 3).elim (u2 b.K i 2 (some N)) (fun j => u2 b.K j 4 (some N))) i 3 (some N) a b' = _
    rw [u2_at]
    by_cases c1 : a = i ∧ b' = 3
    · rw [if_pos c1, if_pos c1] <;> rfl
    · rw [if_neg c1, if_neg c1]
      cases e3 : s.K i 3 with
      | none =>
        show u2 b.K i 2 (some N) a b' = _
        rw [u2_at]
        by_cases c2 : a = i ∧ b' = 2
        · rw [if_pos c2, if_pos ⟨rfl, c2⟩] <;> rfl
        · rw [if_neg c2, if_neg (fun z => c2 z.2), if_neg (fun z => by cases z.1)] <;> rfl
      | some j =>
        show u2 b.K j 4 (some N) a b' = _
        rw [u2_at]
        by_cases c2 : a = j ∧ b' = 4
        · rw [if_pos c2, if_neg (fun z => by cases z.1), if_pos ⟨by rw [c2.1] <;> rfl, c2.2⟩] <;> rfl
        · rw [if_neg c2, if_neg (fun z => by cases z.1), if_neg (fun z => c2 ⟨by cases z.1; rfl, z.2⟩)] <;> rfl
  have lN : s.K i 3 ≠ some N := fun z => by
    have := lsk_lt ((hP i hi).2.2.1.symm.trans z)
    omega
  have KN : ∀ b' : Nat, s2.K N b' = b.K N b' := fun b' => by
    rw [K2, if_neg (fun z => ni z.1.symm), if_neg (fun z => ni z.2.1.symm), if_neg (fun z => lN z.1)] <;> rfl
  have sK : s'.K = s2.K := by rw [hs'] <;> rfl
  have sF : s'.F = F' := by rw [hs', ad] <;> rfl
  have sG : ∀ a b' : Nat, s'.G a b' = if a = N ∧ b' = 12 then w else if a = i ∧ b' = 13 then s.G i 13 + 1 else b.G a b' := fun a b' => by
    rw [hs', ad]
    show u2 (u2 b.G i 13 (b.G i 13 + 1)) N 12 w a b' = _
    rw [u2_at, u2_at, bG i ni] <;> rfl
  have sGN : ∀ b' : Nat, b' ≠ 12 → s'.G N b' = b.G N b' := fun b' hb' => by rw [sG, if_neg (fun z => hb' z.2), if_neg (fun z => ni z.1.symm)] <;> rfl
  refine ⟨⟨by rw [hs', ad] <;> rfl, by rw [hs', ad] <;> rfl, by rw [hs', ad] <;> rfl, ?_, ?_, ?_, ?_, ?_, ?_, ?_, ?_⟩, ?_, ?_, ?_, ?_⟩
  · intro a b' ha hb'
    rw [sG, if_neg (fun z => ha z.1), if_neg (fun z => hb' z.2), bG a ha] <;> rfl
  · rw [sGN 0 (by decide), sGN 22 (by decide)]; exact bGN.1
  · rw [sGN 1 (by decide), sGN 2 (by decide), sGN 3 (by decide), sGN 4 (by decide), sGN 5 (by decide), sGN 6 (by decide), sGN 7 (by decide), sGN 8 (by decide), sGN 9 (by decide)]; exact bGN.2.1
  · rw [sGN 10 (by decide), sGN 14 (by decide), sGN 15 (by decide), sGN 16 (by decide), sGN 23 (by decide)]
    exact ⟨bGN.2.2.1.1, by rw [sG, if_pos ⟨rfl, rfl⟩] <;> rfl, bGN.2.2.1.2⟩
  · intro a ha
    rw [sK, K2, K2, if_neg (fun z => by omega), if_neg (fun z => by omega), if_neg (fun z => by omega), if_neg (fun z => by omega), if_neg (fun z => by omega), if_neg (fun z => by omega), bK a ha]
    exact ⟨rfl, rfl⟩
  · rw [sK, KN, KN]; exact ⟨bKN.1, bKN.2.1⟩
  · intro a ha; rw [sF]; exact o2 a ha
  · intro j hj; rw [sF]; exact o3 j hj
  · refine RP.snocR hP hN2 hi (fun j g hj hk => ((hA j hj).2.1.2.2.2 g hk).1) (fun a b' ha => ?_) (by rw [sK, KN]; exact bKN.1) (by rw [sK, KN]; exact bKN.2.2.1) (by rw [sK, KN]; exact bKN.2.2.2.1) (by rw [sK, KN]; exact bKN.2.2.2.2) (fun a ha => ?_) (by rw [sGN 13 (by decide)]; exact bGN.2.2.2.2.2)
    · rw [sK, K2, bK a ha] <;> rfl
    · rw [sG, if_neg (fun z => ha z.1), bG a ha]
      by_cases ea : a = i
      · subst ea; rw [if_pos ⟨rfl, rfl⟩, if_pos rfl] <;> rfl
      · rw [if_neg (fun z => ea z.1), if_neg ea] <;> rfl
  · rw [sGN 11 (by decide)]; exact bGN.2.2.2.1
  · rw [ad]
    show u2 b.G i 13 (b.G i 13 + 1) N 12 = 0
    rw [u2_n1 _ _ _ ni.symm]; exact bGN.2.2.2.2.1
  · intro j hj; rw [sF]; exact o4 j hj
end
