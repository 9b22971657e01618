/- ---------- HAND and SPLIT ---------- -/
def Pre (R : Nat) (kp : Int) (x : Nat) (y : Int32) (s : C9) (q : Q10) : Prop := (Rl R kp s q) ∧ (x < (Int.toNat (Int32.toInt (s.n 0)))) ∧ (y.toInt = (x : Int)) ∧ ((q.F 13 x).toInt = 1) ∧ ((q.F 24 x).toInt = 0) ∧ ((q.F 25 x).toInt = 0) ∧ ((s.G x 9).toInt = 0) ∧ ((q.F 20 x).toInt < 24) ∧ (s.G x 19 = -1) ∧ (s.G x 20 = 0) ∧ ((s.G x 21).toInt = 0)
theorem Pre.r {R : Nat} {kp : Int} {x : Nat} {y : Int32} {s : C9} {q : Q10} (hh_ : Pre R kp x y s q) : Rl R kp s q := hh_.1
theorem Pre.i {R : Nat} {kp : Int} {x : Nat} {y : Int32} {s : C9} {q : Q10} (hh_ : Pre R kp x y s q) : x < (Int.toNat (Int32.toInt (s.n 0))) := hh_.2.1
theorem Pre.v {R : Nat} {kp : Int} {x : Nat} {y : Int32} {s : C9} {q : Q10} (hh_ : Pre R kp x y s q) : y.toInt = (x : Int) := hh_.2.2.1
theorem Pre.st {R : Nat} {kp : Int} {x : Nat} {y : Int32} {s : C9} {q : Q10} (hh_ : Pre R kp x y s q) : (q.F 13 x).toInt = 1 := hh_.2.2.2.1
theorem Pre.bk {R : Nat} {kp : Int} {x : Nat} {y : Int32} {s : C9} {q : Q10} (hh_ : Pre R kp x y s q) : (q.F 24 x).toInt = 0 := hh_.2.2.2.2.1
theorem Pre.tl {R : Nat} {kp : Int} {x : Nat} {y : Int32} {s : C9} {q : Q10} (hh_ : Pre R kp x y s q) : (q.F 25 x).toInt = 0 := hh_.2.2.2.2.2.1
theorem Pre.g9 {R : Nat} {kp : Int} {x : Nat} {y : Int32} {s : C9} {q : Q10} (hh_ : Pre R kp x y s q) : (s.G x 9).toInt = 0 := hh_.2.2.2.2.2.2.1
theorem Pre.pl {R : Nat} {kp : Int} {x : Nat} {y : Int32} {s : C9} {q : Q10} (hh_ : Pre R kp x y s q) : (q.F 20 x).toInt < 24 := hh_.2.2.2.2.2.2.2.1
theorem Pre.ca {R : Nat} {kp : Int} {x : Nat} {y : Int32} {s : C9} {q : Q10} (hh_ : Pre R kp x y s q) : s.G x 19 = -1 := hh_.2.2.2.2.2.2.2.2.1
theorem Pre.ot {R : Nat} {kp : Int} {x : Nat} {y : Int32} {s : C9} {q : Q10} (hh_ : Pre R kp x y s q) : s.G x 20 = 0 := hh_.2.2.2.2.2.2.2.2.2.1
theorem Pre.un {R : Nat} {kp : Int} {x : Nat} {y : Int32} {s : C9} {q : Q10} (hh_ : Pre R kp x y s q) : (s.G x 21).toInt = 0 := hh_.2.2.2.2.2.2.2.2.2.2
section
variable {R : Nat} {kp : Int} {s : C9} {q : Q10} {i N : Nat} {v e dp w : Int32} {og : Option Nat} {pb : Nat → Int} {bk bk' : Nat → Nat → Prop}
theorem Rel.bkm (h : Rel R kp pb bk s q) (hb : ∀ g c : Nat, bk g c → bk' g c) : Rel R kp pb bk' s q := ⟨h.u, h.z, h.l, h.t, h.a, h.b, h.c, h.d.mono hb, h.e, h.f, h.g, h.p, h.x, h.j, h.k⟩
theorem NewQ.aw {q' : Q10} (d : NewQ q q' N og e dp 0) (w : Int32) : NewQ q ⟨upF q'.F 27 (upd (q'.F 27) N w), q'.n⟩ N og e dp w := by
  refine ⟨d.n, fun k a hk ha => ?_, fun k hk => ?_, d.v1, ⟨d.v2.1, d.v2.2.1, d.v2.2.2.1, d.v2.2.2.2.1, d.v2.2.2.2.2.1, upd_s _ _ _, d.v2.2.2.2.2.2.2⟩, d.m, d.o⟩
  · show upF q'.F 27 (upd (q'.F 27) N w) k a = q.F k a
    rw [upF_at]
    by_cases c : k = 27
    · rw [if_pos c, upd_n _ _ ha, ← c]; exact d.F k a hk ha
    · rw [if_neg c]; exact d.F k a hk ha
  · show upF q'.F 27 (upd (q'.F 27) N w) k = q.F k
    rw [upF_at, if_neg (fun c => by subst c; simp at hk)]; exact d.E k hk
/-- the STEP is over, the RUN goes on -/
theorem Pre.on (p : Pre R kp i v s q) : Rl R kp (k_close i (-1) s) (r_on v q) := by
  rw [close_on (by rw [(p.r.b i p.i).1]; exact p.st)]
  exact on_sim p.r p.v p.i p.bk p.pl (fun j => by
    by_cases c : j = i
    · rw [if_pos c, c]; show (q.F 20 i).toInt ≤ _; omega
    · rw [if_neg c]; exact Int.le_refl _)
theorem Pre.fail (p : Pre R kp i v s q) {kd : Int32} (hk : 0 ≤ kd.toInt ∧ kd.toInt ≤ 7) : Rl R kp (k_close i kd s) (r_fails v kd (-1) 0 q) := fails_sim p.r p.i p.v p.st p.bk p.tl p.g9 hk p.ca p.ot p.un
theorem hand_new (p : Pre R kp i v s q) (he : 0 ≤ e.toInt ∧ e.toInt < 8) (hw : w = 0 ∨ w = 1) (h6 : ¬ 6 ≤ (s.G i 10).toInt) (h200 : (s.n 0).toInt < 200) :
    ∃ s1 q1, s1 = k_adopt i ((Int.toNat (Int32.toInt (s.n 0)))) (k_openR i e s) ∧ s1.G ((Int.toNat (Int32.toInt (s.n 0)))) 12 = 0 ∧ r_hands v e w q = (q1, 1) ∧ Rel R kp (pb0 q1) (fun g c => (g = i ∧ ¬ w.toInt = 0) ∨ bk0 q1 g c) (C9.mk s1.n s1.f s1.T (u2 s1.G ((Int.toNat (Int32.toInt (s.n 0)))) 12 w) s1.K s1.F) q1 ∧
      (Int.toNat (Int32.toInt (s1.n 0))) = (Int.toNat (Int32.toInt (s.n 0))) + 1 ∧ (∀ k : Nat, k ∈ runK → q1.F k i = q.F k i) ∧ (∀ b : Nat, b ≠ 13 → s1.G i b = s.G i b) := by
  have h := p.r
  obtain ⟨N, hN⟩ : ∃ N : Nat, N = (Int.toNat (Int32.toInt (s.n 0))) := ⟨_, rfl⟩
  have hu := h.u
  have hu2 := hu.2.1
  have n11 : (q.n 11).toInt = (N : Int) := by rw [← hu.1.1] at hu2 ⊢; omega
  have hi : i < N := by rw [hN]; exact p.i
  have hA := h.a i p.i
  have ne : i ≠ N := by omega
  have d17 : s.G i 10 = q.F 17 i := hA.1.2.2.2.2.2.2
  have hN2 : N < 200 := by rw [← hu.1.1] at n11; omega
  have dp1 : (s.G i 10 + 1).toInt = (s.G i 10).toInt + 1 := inc_toInt (by omega)
  obtain ⟨q', c1, c2, c3, c4⟩ := comesR (e := e) n11 hN2 p.v hi (r := rt9 s.K i) hA.2.1.2.1.symm (by have := hA.2.2.1.1; omega)
  obtain ⟨s1, hs1⟩ : ∃ s1 : C9, s1 = k_adopt i N (k_openR i e s) := ⟨_, rfl⟩
  obtain ⟨s', hs'⟩ : ∃ s' : C9, s' = (C9.mk s1.n s1.f s1.T (u2 s1.G N 12 w) s1.K s1.F) := ⟨_, rfl⟩
  obtain ⟨o1, o2, o3, o4, o5⟩ := openR_new h hN hN2 hi w hs1 hs'
  have nw : vp_nar .boolean w = w := by rcases hw with z | z <;> subst z <;> decide
  have tw : w.toInt = 0 ∨ w.toInt = 1 := by rcases hw with z | z <;> subst z <;> decide
  have ixN : Int32.toNatClampNeg (q.n 11) = N := ix_nat n11
  have n6 : ¬ (q.F 17 i).toInt = 6 := by rw [← d17]; omega
  refine ⟨s1, ⟨upF q'.F 27 (upd (q'.F 27) N w), q'.n⟩, by rw [hs1, hN] <;> rfl, by rw [← hN]; exact o4, ?_, ?_, ?_, fun k hk => ?_, fun b hb => ?_⟩
  · unfold r_hands
    rw [ix_nat p.v, if_neg n6, if_neg (by omega), c1]
    dsimp +instances only [c9n, c9f, c9T, c9G, c9K, c9F, q10F, q10n]
    rw [nw, ixN] <;> rfl
  · rw [← hN, ← hs']
    have dq := c2.aw w
    rw [← d17] at dq
    refine (new_sim h hN hN2 o1 dq he (fun g hg => ?_) (fun z => by cases z) tw o2 (fun j hj => ?_)).bkm (fun g c z => z.imp (fun y => ⟨by cases y.1; rfl, y.2⟩) id)
    · cases hg
      refine ⟨hi, ?_, dp1, by omega, fun _ => p.tl⟩
      rw [o3]
      show s.G i 6 = q'.F 21 N
      rw [c3]; exact hA.1.2.2.2.2.1
    · rw [o5 j hj]
      show _ = q'.F 33 (8 * N + j)
      rw [c4 j hj]
      exact reads_sim h p.v p.i (ofNat_toInt (by omega)) hj
  · have := o1.n
    rw [hs'] at this
    have e0 : s1.n = u1 s.n 0 (s.n 0 + 1) := this
    rw [e0, u1_eq, inc_toInt (by omega)]
    omega
  · show upF q'.F 27 (upd (q'.F 27) N w) k i = q.F k i
    rw [upF_at]
    by_cases c : k = 27
    · rw [if_pos c, upd_n _ _ ne, ← c]; exact c2.F k i hk ne
    · rw [if_neg c]; exact c2.F k i hk ne
  · have := o1.G i b ne hb
    rw [hs'] at this
    have z : u2 s1.G N 12 w i b = s.G i b := this
    rw [u2_n1 _ _ _ ne] at z
    exact z
theorem hand6 (p : Pre R kp i v s q) : 6 ≤ (s.G i 10).toInt ↔ (q.F 17 i).toInt = 6 := by
  have hA := p.r.a i p.i
  rw [hA.1.2.2.2.2.2.2]
  have := hA.2.2.2.2.1
  omega
theorem hand200 (p : Pre R kp i v s q) : ¬ (s.n 0).toInt < 200 ↔ (q.n 11).toInt = 200 := by
  have hu := p.r.u
  have hu2 := hu.2.1
  rw [hu.1.1]; omega
theorem split_sim (he : 0 ≤ e.toInt ∧ e.toInt < 8) (n : Nat) : ∀ (t : Nat) (s : C9) (q : Q10), Pre R kp i v s q → Rl R kp (k_close i (itr (b_hand i e 0) (f_hand 0) t n s).2 (itr (b_hand i e 0) (f_hand 0) t n s).1) (itr (b_split v e) (r_on v) t n q) := by
  intro t s q p
  have t0 : (0 : Int32).toInt = 0 := by decide
  have t1 : (1 : Int32).toInt = 1 := by decide
  refine itr_itr (P := fun (r : C9 × Int32) (r' : Q10) => Rl R kp (k_close i r.2 r.1) r') (I := fun _ s q => Pre R kp i v s q) (N := t + n) ?_ ?_ n t s q rfl p
  · intro s q p
    unfold f_hand
    rw [if_neg (fun z => z t0)]
    exact p.on
  · intro c s q k k' hc p hk
    unfold b_hand b_split
    by_cases h6 : 6 ≤ (s.G i 10).toInt
    · rw [if_pos h6]
      have z : r_hands v e 0 q = (r_fails v 6 (-1) 0 q, 0) := by unfold r_hands; rw [ix_nat p.v, if_pos ((hand6 p).mp h6)]
      rw [z]
      dsimp +instances only [c9n, c9f, c9T, c9G, c9K, c9F, q10F, q10n]
      rw [if_neg (fun y => y t0)]
      exact p.fail (by decide)
    · rw [if_neg h6]
      by_cases h2 : (s.n 0).toInt < 200
      · obtain ⟨s1, q1, a1, a2, a3, a4, a5, a6, a7⟩ := hand_new (w := 0) p he (Or.inl rfl) h6 h2
        rw [a3]
        dsimp +instances only [c9n, c9f, c9T, c9G, c9K, c9F, q10F, q10n]
        rw [if_pos h2, if_neg (fun y => y t0), if_pos (by omega), ← a1]
        apply hk
        have es : ((C9.mk s1.n s1.f s1.T (u2 s1.G ((Int.toNat (Int32.toInt (s.n 0)))) 12 0) s1.K s1.F) : C9) = s1 := by rw [u2_same a2] <;> rfl
        rw [es] at a4
        exact ⟨a4.bkm (fun g c z => z.elim (fun y => absurd t0 y.2) id), by have := p.i; omega, p.v, by rw [a6 13 (by decide)]; exact p.st, by rw [a6 24 (by decide)]; exact p.bk, by rw [a6 25 (by decide)]; exact p.tl, by rw [a7 9 (by decide)]; exact p.g9, by rw [a6 20 (by decide)]; exact p.pl, by rw [a7 19 (by decide)]; exact p.ca, by rw [a7 20 (by decide)]; exact p.ot, by rw [a7 21 (by decide)]; exact p.un⟩
      · have z : r_hands v e 0 q = (r_fails v 7 (-1) 0 q, 0) := by unfold r_hands; rw [ix_nat p.v, if_neg (fun y => h6 ((hand6 p).mpr y)), if_pos ((hand200 p).mp h2)]
        rw [z]
        dsimp +instances only [c9n, c9f, c9T, c9G, c9K, c9F, q10F, q10n]
        rw [if_neg h2, if_neg (fun y => y t0)]
        have ko : k_openR i e s = s := by unfold k_openR; rw [if_neg h2]
        show Rl R kp (k_close i 7 (k_openR i e s)) _
        rw [ko]
        exact p.fail (by decide)
theorem handw_sim (he : 0 ≤ e.toInt ∧ e.toInt < 8) (p : Pre R kp i v s q) : Rl R kp (k_close i (kh_hand i e 1 1 s).2 (kh_hand i e 1 1 s).1) (if ¬ (r_hands v e 1 q).2.toInt = 0 then r_waits v (r_hands v e 1 q).1 else (r_hands v e 1 q).1) := by
  have t0 : (0 : Int32).toInt = 0 := by decide
  have t1 : (1 : Int32).toInt = 1 := by decide
  have e1 : kh_hand i e 1 1 s = b_hand i e 1 0 s (f_hand 1) := by
    unfold kh_hand
    rw [show (Int.toNat (Int32.toInt (1 : Int32))) = 0 + 1 from rfl, itr_s]
    congr 1
    funext s; rw [itr_0] <;> rfl
  rw [e1]
  unfold b_hand
  by_cases h6 : 6 ≤ (s.G i 10).toInt
  · rw [if_pos h6]
    have z : r_hands v e 1 q = (r_fails v 6 (-1) 0 q, 0) := by unfold r_hands; rw [ix_nat p.v, if_pos ((hand6 p).mp h6)]
    rw [z]
    dsimp +instances only [c9n, c9f, c9T, c9G, c9K, c9F, q10F, q10n]
    rw [if_neg (fun y => y t0)]
    exact p.fail (by decide)
  · rw [if_neg h6]
    by_cases h2 : (s.n 0).toInt < 200
    · obtain ⟨s1, q1, a1, a2, a3, a4, a5, a6, a7⟩ := hand_new (w := 1) p he (Or.inr rfl) h6 h2
      rw [a3]
      dsimp +instances only [c9n, c9f, c9T, c9G, c9K, c9F, q10F, q10n]
      rw [if_pos h2, if_pos (by omega), if_pos (by omega), ← a1]
      unfold f_hand
      rw [if_pos (by omega)]
      have ne : i ≠ (Int.toNat (Int32.toInt (s.n 0))) := by have := p.i; omega
      exact waits_sim (s := (C9.mk s1.n s1.f s1.T (u2 s1.G ((Int.toNat (Int32.toInt (s.n 0)))) 12 1) s1.K s1.F)) a4 (fun g c z => z.imp (fun y => y.1) id) (by show i < (Int.toNat (Int32.toInt (s1.n 0))); have := p.i; omega) p.v (by rw [a6 13 (by decide)]; exact p.st) (by rw [a6 25 (by decide)]; exact p.tl) (by show (u2 s1.G ((Int.toNat (Int32.toInt (s.n 0)))) 12 1 i 9).toInt = 0; rw [u2_n1 _ _ _ ne, a7 9 (by decide)]; exact p.g9) (by rw [a6 20 (by decide)]; exact p.pl)
    · have z : r_hands v e 1 q = (r_fails v 7 (-1) 0 q, 0) := by unfold r_hands; rw [ix_nat p.v, if_neg (fun y => h6 ((hand6 p).mpr y)), if_pos ((hand200 p).mp h2)]
      rw [z]
      dsimp +instances only [c9n, c9f, c9T, c9G, c9K, c9F, q10F, q10n]
      rw [if_neg h2, if_neg (fun y => y t0)]
      have ko : k_openR i e s = s := by unfold k_openR; rw [if_neg h2]
      show Rl R kp (k_close i 7 (k_openR i e s)) _
      rw [ko]
      exact p.fail (by decide)
end

/- ---------- a STEP ---------- -/
section
variable {R R' : Nat} {kp kp' : Int} {s s' : C9} {q q' : Q10} {i : Nat} {v o a b x y : Int32} {pb : Nat → Int} {bk : Nat → Nat → Prop}
theorem Rel.more (h : Rel R kp pb bk s q) (hR : R ≤ R') (hk : kp ≤ kp') : Rel R' kp' pb bk s q := by
  have g := h.mono hk
  have hx := h.x
  refine ⟨g.u, g.z, g.l, g.t, g.a, g.b, g.c, g.d, g.e, g.f, g.g, g.p, ⟨⟨hx.1.1, by have := hx.1.2; omega⟩, hx.2.1, fun i hi h0 => ?_⟩, g.j, g.k⟩
  have z := hx.2.2 i hi h0
  exact ⟨z.1, ⟨z.2.1.1, by have := z.2.1.2; omega⟩, z.2.2⟩
theorem on_gen {R0 : Nat} {kp0 : Int} (p : Pre R0 kp0 i v s q) (h : Rel R kp pb (bk0 q) s' q') (hn : q'.n 11 = q.n 11) (h13 : q'.F 13 = q.F 13) (h20 : q'.F 20 = q.F 20) (h24 : q'.F 24 = q.F 24) (hpb : ∀ j : Nat, pb j ≤ if j = i then (q.F 20 i).toInt + 1 else (q.F 20 j).toInt) : Rl R kp (k_close i (-1) s') (r_on v q') := by
  have hi : i < (Int.toNat (Int32.toInt (s'.n 0))) := by rw [h.u.1.1, hn, ← p.r.u.1.1]; exact p.i
  rw [close_on (by rw [(h.b i hi).1, h13]; exact p.st)]
  refine on_sim (h.bkm (fun g c z => ?_)) p.v hi (by rw [h24]; exact p.bk) (by rw [h20]; exact p.pl) (fun j => by rw [h20]; exact hpb j)
  show ¬ (q'.F 24 g).toInt = 0 ∧ ((q'.F 13 g).toInt = 2 ∨ (q'.F 13 c).toInt = 3 ∨ (q'.F 13 c).toInt = 4)
  rw [h24, h13]; exact z
theorem pb0_on (q : Q10) (i j : Nat) : pb0 q j ≤ if j = i then (q.F 20 i).toInt + 1 else (q.F 20 j).toInt := by
  by_cases c : j = i
  · rw [if_pos c, c]; show (q.F 20 i).toInt ≤ _; omega
  · rw [if_neg c]; exact Int.le_refl _
theorem pbi_on (q : Q10) (i j : Nat) : pbi i q j ≤ if j = i then (q.F 20 i).toInt + 1 else (q.F 20 j).toInt := by
  by_cases c : j = i
  · rw [if_pos c, c]; unfold pbi; rw [if_pos rfl]; exact Int.le_refl _
  · rw [if_neg c]; unfold pbi; rw [if_neg c]; exact Int.le_refl _
theorem wr_keep : (r_writes v x y q).1.n = q.n ∧ (r_writes v x y q).1.F 13 = q.F 13 ∧ (r_writes v x y q).1.F 20 = q.F 20 ∧ (r_writes v x y q).1.F 24 = q.F 24 := by
  unfold r_writes
  split
  · split
    · exact ⟨rfl, rfl, rfl, rfl⟩
    · exact ⟨rfl, rfl, rfl, rfl⟩
  · split
    · exact ⟨rfl, rfl, rfl, rfl⟩
    · exact ⟨rfl, rfl, rfl, rfl⟩
theorem ad_keep : (r_adds v x q).n 11 = q.n 11 ∧ (r_adds v x q).F 13 = q.F 13 ∧ (r_adds v x q).F 20 = q.F 20 ∧ (r_adds v x q).F 24 = q.F 24 := by
  unfold r_adds
  dsimp +instances only [c9n, c9f, c9T, c9G, c9K, c9F, q10F, q10n]
  split
  · exact ⟨rfl, rfl, rfl, rfl⟩
  · exact ⟨rfl, rfl, rfl, rfl⟩
theorem bd_keep : (r_binds v x y q).1.n 11 = q.n 11 ∧ (r_binds v x y q).1.F 13 = q.F 13 ∧ (r_binds v x y q).1.F 20 = q.F 20 ∧ (r_binds v x y q).1.F 24 = q.F 24 := by
  unfold r_binds
  split
  · exact ⟨rfl, rfl, rfl, rfl⟩
  · exact ⟨rfl, rfl, rfl, rfl⟩
theorem fr_keep : (r_frees v x q).1.n = q.n ∧ (r_frees v x q).1.F 13 = q.F 13 ∧ (r_frees v x q).1.F 20 = q.F 20 ∧ (r_frees v x q).1.F 24 = q.F 24 := by
  unfold r_frees
  split
  · exact ⟨rfl, rfl, rfl, rfl⟩
  · split
    · exact ⟨rfl, rfl, rfl, rfl⟩
    · exact ⟨rfl, rfl, rfl, rfl⟩
theorem op_sim (p : Pre R kp i v s q) (hk : kp ≤ 2000000000) (hR : R + 1 ≤ 310000) (ho : 0 ≤ o.toInt ∧ o.toInt ≤ 11) (h5 : o.toInt ≤ 5 → 0 ≤ a.toInt ∧ a.toInt < 8) (h8 : o.toInt = 8 → 0 ≤ a.toInt ∧ a.toInt < 4) (h9 : o.toInt = 9 → (q.F 20 i).toInt < b.toInt ∧ b.toInt ≤ 24) :
    Rl (R + 1) (kp + 1) (k_close i (kh_op i o a b s).2 (kh_op i o a b s).1) (r_op v o a b q) := by
  have t0 : (0 : Int32).toInt = 0 := by decide
  have t1 : (1 : Int32).toInt = 1 := by decide
  have h := p.r
  have hx : o.toInt ≤ 5 → a.toInt = (((Int.toNat (Int32.toInt a)) : Nat) : Int) ∧ (Int.toNat (Int32.toInt a)) < 8 := fun z => by have := h5 z; omega
  have g15 : (q.F 39 i).toInt = (q.F 39 i).toInt := rfl
  unfold kh_op r_op
  by_cases c0 : o.toInt = 0
  · rw [if_pos c0, if_pos c0]
    obtain ⟨x1, x2⟩ := hx (by omega)
    rcases write_sim h p.v p.i p.st x1 x2 b with z | z
    · rw [z.1, z.2.1]
      unfold r_wrong
      rw [if_pos (by omega)]
      obtain ⟨k1, k2, k3, k4⟩ := wr_keep (v := v) (x := a) (y := b) (q := q)
      exact (on_gen p z.2.2 (by rw [k1] <;> rfl) k2 k3 k4 (pb0_on q i)).more (by omega) (by omega)
    · rw [z.1, z.2]
      unfold r_wrong
      rw [if_neg (fun y => y t0)]
      exact (p.fail (by decide)).more (by omega) (by omega)
  rw [if_neg c0, if_neg c0]
  by_cases c1 : o.toInt = 1
  · rw [if_pos c1, if_pos c1]
    obtain ⟨x1, x2⟩ := hx (by omega)
    obtain ⟨z1, z2⟩ := reading_sim h hk p.v p.i x1 x2
    rw [z2]
    obtain ⟨k1, k2, k3, k4⟩ := ad_keep (v := v) (x := a) (q := q)
    exact (on_gen p z1 k1 k2 k3 k4 (pb0_on q i)).more (by omega) (Int.le_refl _)
  rw [if_neg c1, if_neg c1]
  by_cases c2 : o.toInt = 2
  · rw [if_pos c2, if_pos c2]
    obtain ⟨x1, x2⟩ := hx (by omega)
    rcases bop_sim h hk p.v p.i p.pl x1 x2 b with z | z
    · rw [z.2.2.1, z.2.2.2]
      unfold r_wrong
      rw [if_pos (by omega)]
      obtain ⟨k1, k2, k3, k4⟩ := bd_keep (v := v) (x := a) (y := b) (q := q)
      exact (on_gen p z.2.1 k1 k2 k3 k4 (pbi_on q i)).more (by omega) (Int.le_refl _)
    · rw [z.1, z.2]
      unfold r_wrong
      rw [if_neg (fun y => y t0)]
      exact (p.fail (by decide)).more (by omega) (by omega)
  rw [if_neg c2, if_neg c2]
  by_cases c3 : o.toInt = 3
  · rw [if_pos c3, if_pos c3]
    rcases free_sim h p.v p.i a with z | z
    · rw [z.2.1]
      dsimp +instances only [c9n, c9f, c9T, c9G, c9K, c9F, q10F, q10n]
      rw [if_pos z.1]
      unfold r_wrong
      rw [if_pos (by omega)]
      obtain ⟨k1, k2, k3, k4⟩ := fr_keep (v := v) (x := a) (q := q)
      have z3 := z.2.2.bkm (bk' := bk0 q) (fun g c y => by
        have y : ¬ ((r_frees v a q).1.F 24 g).toInt = 0 ∧ (((r_frees v a q).1.F 13 g).toInt = 2 ∨ ((r_frees v a q).1.F 13 c).toInt = 3 ∨ ((r_frees v a q).1.F 13 c).toInt = 4) := y
        rw [k2, k4] at y; exact y)
      exact (on_gen p z3 (by rw [k1] <;> rfl) k2 k3 k4 (fun j => by
        show ((r_frees v a q).1.F 20 j).toInt ≤ _
        rw [k3]; exact pb0_on q i j)).more (by omega) (by omega)
    · rw [z.2.1, z.2.2]
      dsimp +instances only [c9n, c9f, c9T, c9G, c9K, c9F, q10F, q10n]
      rw [if_neg z.1]
      unfold r_wrong
      rw [if_neg (fun y => y t0)]
      exact (p.fail (by decide)).more (by omega) (by omega)
  rw [if_neg c3, if_neg c3]
  by_cases c4 : o.toInt = 4
  · rw [if_pos c4, if_pos c4]
    have he := h5 (by omega)
    by_cases d : b.toInt = 1
    · rw [if_pos d, if_pos d]
      exact (handw_sim he p).more (by omega) (by omega)
    · rw [if_neg d, if_neg d]
      have z := split_sim (v := v) (R := R) (kp := kp) (i := i) he 1 0 s q p
      have e1 : itr (b_split v a) (r_on v) 0 1 q = (if ¬ (r_hands v a 0 q).2.toInt = 0 then r_on v (r_hands v a 0 q).1 else (r_hands v a 0 q).1) := by
        rw [show (1 : Nat) = 0 + 1 from rfl, itr_s]
        unfold b_split
        dsimp +instances only [c9n, c9f, c9T, c9G, c9K, c9F, q10F, q10n]
        rw [itr_0] <;> rfl
      rw [e1] at z
      exact z.more (by omega) (by omega)
  rw [if_neg c4, if_neg c4]
  by_cases c5 : o.toInt = 5
  · rw [if_pos c5, if_pos c5]
    exact (split_sim (h5 (by omega)) ((Int.toNat (Int32.toInt b))) 0 s q p).more (by omega) (by omega)
  rw [if_neg c5, if_neg c5]
  by_cases c6 : o.toInt = 6
  · rw [if_pos c6, if_pos c6]
    exact (gather_sim h p.i p.v p.st p.bk p.tl p.g9 p.pl p.ca p.ot p.un).more (by omega) (by omega)
  rw [if_neg c6, if_neg c6]
  by_cases c7 : o.toInt = 7
  · rw [if_pos c7, if_pos c7]
    obtain ⟨z1, z2⟩ := remark_sim h hR p.v p.i b
    rw [if_pos z1]
    exact (on_gen p z2 rfl rfl rfl rfl (pb0_on q i)).more (by omega) (by omega)
  rw [if_neg c7, if_neg c7]
  by_cases c8 : o.toInt = 8
  · rw [if_pos c8, if_pos c8]
    have := h8 c8
    exact (p.fail (by omega)).more (by omega) (by omega)
  rw [if_neg c8, if_neg c8]
  by_cases c9 : o.toInt = 9
  · rw [if_pos c9, if_pos c9]
    have w := h9 c9
    have z := try_sim (a := a) h hk p.v p.i p.st p.pl w.1 w.2
    exact (on_gen p z rfl rfl rfl rfl (pbi_on q i)).more (by omega) (Int.le_refl _)
  rw [if_neg c9, if_neg c9]
  obtain ⟨g1, g2, g3⟩ := done_sim h p.v p.i p.st
  by_cases c10 : o.toInt = 10
  · rw [if_pos c10, if_pos c10, ix_nat p.v]
    rw [ix_nat p.v] at g2
    dsimp +instances only [c9n, c9f, c9T, c9G, c9K, c9F, q10F, q10n]
    by_cases d : 0 < (q.F 39 i).toInt
    · rw [if_pos d, if_pos (by rw [g1]; exact d)]
      exact (on_gen p (g2 d) rfl rfl rfl rfl (pb0_on q i)).more (by omega) (by omega)
    · rw [if_neg d, if_neg (by rw [g1]; exact d), g3 d]
      exact (p.fail (by decide)).more (by omega) (by omega)
  rw [if_neg c10, if_neg c10]
  rw [if_pos (by omega)]
  exact (on_gen p (plus_sim h p.v p.i b) rfl rfl rfl rfl (pb0_on q i)).more (by omega) (by omega)
end

/- ---------- how many RUNS there are, in the reference ---------- -/
section
variable {M : Int} {f : Nat → Int32} {q : Q10} {v r e w o a b x : Int32}
def C11 (M : Int) (f : Nat → Int32) (x : Int32) (g : Nat → Int32) : Prop := (M ≤ x.toInt ∧ 0 ≤ x.toInt ∧ x.toInt ≤ 200) ∧ ∀ t : Nat, g t = f t ∨ g t = -1
abbrev B11 (M : Int) (f : Nat → Int32) (q : Q10) : Prop := C11 M f (q.n 11) (q.F 10)
theorem C11.of {x y : Int32} {g g' : Nat → Int32} (h : C11 M f x g) (e : y = x) (e2 : g' = g) : C11 M f y g' := by rw [e, e2]; exact h
theorem B11.leaves (h : B11 M f q) (v : Int32) : B11 M f (r_leaves v q) := by
  refine ⟨h.1, fun t => ?_⟩
  show upd (q.F 10) _ (-1) t = f t ∨ upd (q.F 10) _ (-1) t = -1
  rw [upd_at]
  split
  · exact Or.inr rfl
  · exact h.2 t
theorem wr10 {v x y : Int32} : (r_writes v x y q).1.F 10 = q.F 10 := by
  unfold r_writes
  split
  · split
    · rfl
    · rfl
  · split
    · rfl
    · rfl
theorem ad10 {v x : Int32} : (r_adds v x q).F 10 = q.F 10 := by
  unfold r_adds
  dsimp +instances only [c9n, c9f, c9T, c9G, c9K, c9F, q10F, q10n]
  split
  · rfl
  · rfl
theorem bd10 {v x y : Int32} : (r_binds v x y q).1.F 10 = q.F 10 := by
  unfold r_binds
  split
  · rfl
  · rfl
theorem fr10 {v x : Int32} : (r_frees v x q).1.F 10 = q.F 10 := by
  unfold r_frees
  split
  · rfl
  · split
    · rfl
    · rfl
theorem B11.a_asks {t : Nat} {p : Q10 × Int32} {k : Q10 × Int32 → Q10} (h : B11 M f p.1) (hk : ∀ p' : Q10 × Int32, B11 M f p'.1 → B11 M f (k p')) : B11 M f (a_asks r x t p k) := by
  delta a_asks
  dsimp +instances only [c9n, c9f, c9T, c9G, c9K, c9F, q10F, q10n]
  split
  · split
    · split
      · exact hk _ h
      · exact hk _ h
    · exact hk _ h
  · exact hk _ h
theorem B11.asks (h : B11 M f q) (r : Int32) : B11 M f (r_asks r q) := by
  unfold r_asks
  refine itr_inv (P := B11 M f) (I := fun _ (p : Q10 × Int32) => B11 M f p.1) (N := 3) (fun p h => h) ?_ 3 0 _ rfl h
  intro c p k hc h hk
  unfold b_asks
  split
  · split
    · exact B11.a_asks h hk
    · split
      · exact B11.a_asks h hk
      · exact B11.a_asks h hk
  · exact h
theorem B11.fgoes (h : B11 M f q) (r : Int32) : B11 M f (f_goes r q) := by
  unfold f_goes
  refine itr_inv (P := B11 M f) (I := fun _ p => B11 M f p) (N := Int32.toNatClampNeg (r + 1) + (Int32.toNatClampNeg (q.n 11) - Int32.toNatClampNeg (r + 1))) (fun p h => h) ?_ _ _ _ rfl h
  intro c p k hc h hk
  unfold b_goes
  split
  · exact hk _ (h.asks _)
  · exact hk _ h
theorem B11.goes (h : B11 M f q) (r st : Int32) : B11 M f (r_goes r st q) := by
  have L : ∀ q1 : Q10, B11 M f q1 → B11 M f (t_goes r st q1) := by
    intro q1 h1
    unfold t_goes
    by_cases c : st.toInt = 4
    · rw [if_pos c]
      by_cases d : (q1.F 15 (Int32.toNatClampNeg r)).toInt = -1
      · rw [if_pos d]; exact (h1.asks _).fgoes _
      · rw [if_neg d]
        by_cases fc : ((q1.F 13 (Int32.toNatClampNeg (q1.F 15 (Int32.toNatClampNeg r)))).toInt = 3 ∨ (q1.F 13 (Int32.toNatClampNeg (q1.F 15 (Int32.toNatClampNeg r)))).toInt = 4) ∧ (q1.F 26 (Int32.toNatClampNeg r)).toInt = 0
        · rw [if_pos fc]; exact (h1.asks _).fgoes _
        · rw [if_neg fc]; exact h1.fgoes _
    · rw [if_neg c]; exact h1.fgoes _
  rw [r_goes_eq]
  refine L _ (B11.leaves ?_ _)
  exact h.of rfl rfl
theorem B11.fails (h : B11 M f q) (v kd ca ot : Int32) : B11 M f (r_fails v kd ca ot q) := by
  unfold r_fails c_fails
  split
  · exact h.of rfl rfl
  · refine B11.goes ?_ _ _
    exact h.of rfl rfl
theorem B11.gathers (h : B11 M f q) (r : Int32) : B11 M f (r_gathers r q) := by
  unfold r_gathers
  refine itr_inv (P := B11 M f) (I := fun _ (p : Q10 × Int32 × Int32) => B11 M f p.1) (N := Int32.toNatClampNeg (r + 1) + (Int32.toNatClampNeg (q.n 11) - Int32.toNatClampNeg (r + 1))) ?_ ?_ _ _ _ rfl h
  · intro p h
    unfold f_gathers
    split
    · exact h
    · exact h.fails _ _ _ _
  · intro c p k hc h hk
    unfold b_gathers
    split
    · split
      · exact hk _ h
      · exact hk _ h
    · exact hk _ h
theorem B11.waits (h : B11 M f q) (v : Int32) : B11 M f (r_waits v q) := by
  unfold r_waits
  refine B11.leaves ?_ _
  exact h.of rfl rfl
theorem comes_n (e v : Int32) (q : Q10) : (r_comes e v q).1.n = upn q.n 11 (q.n 11 + 1) := by
  have L : ∀ q1 : Q10, q1.n = upn q.n 11 (q.n 11 + 1) → (itr (b_comes (q.n 11) v) (fun p => (p, q.n 11)) 0 8 q1).1.n = upn q.n 11 (q.n 11 + 1) := by
    intro q1 h
    refine itr_inv (P := fun (p : Q10 × Int32) => p.1.n = upn q.n 11 (q.n 11 + 1)) (I := fun _ (p : Q10) => p.n = upn q.n 11 (q.n 11 + 1)) (N := 8) (fun p h => h) ?_ 8 0 _ rfl h
    intro c p k hc h hk
    unfold b_comes
    dsimp +instances only [c9n, c9f, c9T, c9G, c9K, c9F, q10F, q10n]
    split
    · exact hk _ h
    · exact hk _ h
  unfold r_comes
  split
  · exact L _ rfl
  · exact L _ rfl
theorem comes_10 (e v : Int32) (q : Q10) : (r_comes e v q).1.F 10 = q.F 10 := by
  have L : ∀ q1 : Q10, q1.F 10 = q.F 10 → (itr (b_comes (q.n 11) v) (fun p => (p, q.n 11)) 0 8 q1).1.F 10 = q.F 10 := by
    intro q1 h
    refine itr_inv (P := fun (p : Q10 × Int32) => p.1.F 10 = q.F 10) (I := fun _ (p : Q10) => p.F 10 = q.F 10) (N := 8) (fun p h => h) ?_ 8 0 _ rfl h
    intro c p k hc h hk
    unfold b_comes
    dsimp +instances only [c9n, c9f, c9T, c9G, c9K, c9F, q10F, q10n]
    split
    · exact hk _ h
    · exact hk _ h
  unfold r_comes
  split
  · exact L _ rfl
  · exact L _ rfl
theorem B11.comes (h : B11 M f q) (h2 : ¬ (q.n 11).toInt = 200) (e v : Int32) : B11 M f (r_comes e v q).1 := by
  have z : (r_comes e v q).1.n 11 = q.n 11 + 1 := by rw [comes_n]; exact upn_eq _ _ _
  obtain ⟨⟨h1, h3, h4⟩, h5⟩ := h
  have y : (q.n 11 + 1).toInt = (q.n 11).toInt + 1 := inc_toInt (by omega)
  refine ⟨?_, fun t => ?_⟩
  · rw [z, y]; omega
  · rw [comes_10]; exact h5 t
theorem B11.hands (h : B11 M f q) (v e w : Int32) : B11 M f (r_hands v e w q).1 := by
  unfold r_hands
  split
  · exact h.fails _ _ _ _
  · split
    · exact h.fails _ _ _ _
    · rename_i h1 h2
      exact h.comes h2 e v
theorem B11.wrong (h : B11 M f q) (v o : Int32) : B11 M f (r_wrong v o q) := by
  unfold r_wrong
  split
  · exact h
  · exact h.fails _ _ _ _
theorem B11.op (h : B11 M f q) (v o a b : Int32) : B11 M f (r_op v o a b q) := by
  unfold r_op
  by_cases c : o.toInt = 0
  · rw [if_pos c]
    exact B11.wrong (h.of (by rw [(wr_keep (v := v) (x := a) (y := b) (q := q)).1] <;> rfl) wr10) _ _
  rw [if_neg c]; clear c
  by_cases c : o.toInt = 1
  · rw [if_pos c]
    exact h.of (ad_keep (v := v) (x := a) (q := q)).1 ad10
  rw [if_neg c]; clear c
  by_cases c : o.toInt = 2
  · rw [if_pos c]
    exact B11.wrong (h.of (bd_keep (v := v) (x := a) (y := b) (q := q)).1 bd10) _ _
  rw [if_neg c]; clear c
  by_cases c : o.toInt = 3
  · rw [if_pos c]
    exact B11.wrong (h.of (by rw [(fr_keep (v := v) (x := a) (q := q)).1] <;> rfl) fr10) _ _
  rw [if_neg c]; clear c
  by_cases c : o.toInt = 4
  · rw [if_pos c]
    by_cases d : b.toInt = 1
    · rw [if_pos d]
      by_cases fc : ¬ (r_hands v a 1 q).2.toInt = 0
      · rw [if_pos fc]; exact (h.hands v a 1).waits _
      · rw [if_neg fc]; exact h.hands v a 1
    · rw [if_neg d]
      by_cases fc : ¬ (r_hands v a 0 q).2.toInt = 0
      · rw [if_pos fc]; exact (h.hands v a 0).of rfl rfl
      · rw [if_neg fc]; exact h.hands v a 0
  rw [if_neg c]; clear c
  by_cases c : o.toInt = 5
  · rw [if_pos c]
    refine itr_inv (P := B11 M f) (I := fun _ p => B11 M f p) (N := 0 + Int32.toNatClampNeg b) ?_ ?_ _ 0 _ rfl h
    · intro p h; exact h.of rfl rfl
    intro c p k hc h hk
    unfold b_split
    dsimp +instances only [c9n, c9f, c9T, c9G, c9K, c9F, q10F, q10n]
    by_cases fc : ¬ (r_hands v a 0 p).2.toInt = 0
    · rw [if_pos fc]; exact hk _ (h.hands _ _ _)
    · rw [if_neg fc]; exact h.hands _ _ _
  rw [if_neg c]; clear c
  by_cases c : o.toInt = 6
  · rw [if_pos c]
    refine itr_inv (P := B11 M f) (I := fun _ p => B11 M f p) (N := Int32.toNatClampNeg (v + 1) + (Int32.toNatClampNeg (q.n 11) - Int32.toNatClampNeg (v + 1))) ?_ ?_ _ _ _ rfl h
    · intro p h
      unfold f_claim
      by_cases fc : ¬ (r_aw v p).toInt = 0
      · rw [if_pos fc]; exact h.gathers _
      · rw [if_neg fc]; exact h.waits _
    · intro c p k hc h hk
      unfold b_claim
      by_cases fc : (p.F 15 c).toInt = v.toInt ∧ (p.F 26 c).toInt = 0
      · rw [if_pos fc]; exact hk _ h
      · rw [if_neg fc]; exact hk _ h
  rw [if_neg c]; clear c
  by_cases c : o.toInt = 7
  · rw [if_pos c]
    by_cases fc : (q.n 46).toInt < 310000
    · rw [if_pos fc]; exact h.of rfl rfl
    · rw [if_neg fc]; exact h.of rfl rfl
  rw [if_neg c]; clear c
  by_cases c : o.toInt = 8
  · rw [if_pos c]; exact h.fails _ _ _ _
  rw [if_neg c]; clear c
  by_cases c : o.toInt = 9
  · rw [if_pos c]; exact h.of rfl rfl
  rw [if_neg c]; clear c
  by_cases c : o.toInt = 10
  · rw [if_pos c]
    by_cases fc : 0 < (q.F 39 (Int32.toNatClampNeg v)).toInt
    · rw [if_pos fc]; exact h.of rfl rfl
    · rw [if_neg fc]; exact h.fails _ _ _ _
  rw [if_neg c]; exact h.of rfl rfl
theorem B11.turn (h : B11 M f q) (v : Int32) : B11 M f (r_turn v q) := by
  have L : ∀ q1 : Q10, B11 M f q1 → B11 M f (c_turn v q1) := by
    intro q1 h
    unfold c_turn
    by_cases c : ¬ (q1.F 25 (Int32.toNatClampNeg v)).toInt = 0
    · rw [if_pos c]
      refine B11.fails ?_ _ _ _ _
      exact h.of rfl rfl
    rw [if_neg c]
    by_cases d : ¬ (q1.F 24 (Int32.toNatClampNeg v)).toInt = 0
    · rw [if_pos d]
      refine B11.gathers ?_ _
      exact h.of rfl rfl
    rw [if_neg d]
    unfold r_does
    dsimp +instances only [c9n, c9f, c9T, c9G, c9K, c9F, q10F, q10n]
    split
    · exact h.op _ _ _ _
    · exact h.goes _ _
  rw [r_turn_eq]
  refine L _ ?_
  unfold q_note
  by_cases c : (q.n 48).toInt < 2000
  · rw [if_pos c]; exact h.of rfl rfl
  · rw [if_neg c]; exact h.of rfl rfl
end

/- ---------- a turn ---------- -/
section
variable {R : Nat} {kp : Int} {s : C9} {q : Q10} {i : Nat} {v : Int32}
theorem op_end {o a b : Int32} (h : o.toInt = 12) : kh_op i o a b s = k_end i s := by
  unfold kh_op
  rw [if_neg (by omega), if_neg (by omega), if_neg (by omega), if_neg (by omega), if_neg (by omega), if_neg (by omega), if_neg (by omega), if_neg (by omega), if_neg (by omega), if_neg (by omega), if_neg (by omega), if_neg (by omega)] <;> rfl
theorem does_sim (h : Rl R kp s q) (hi : i < (Int.toNat (Int32.toInt (s.n 0)))) (hv : v.toInt = (i : Int)) (hk : kp ≤ 2000000000) (hR : R + 1 ≤ 310000) (hs : (q.F 13 i).toInt = 1) (hb : (q.F 24 i).toInt = 0) (ht : (q.F 25 i).toInt = 0) (h9 : (s.G i 9).toInt = 0) (h19 : s.G i 19 = -1) (h20 : s.G i 20 = 0) (h21 : (s.G i 21).toInt = 0) :
    Rl (R + 1) (kp + 1) (k_close i (kh_step i s).2 (kh_step i s).1) (r_does v q) := by
  have hA := h.a i hi
  have e1 : s.G i 1 = q.F 14 i := hA.1.2.1
  have e6 : s.G i 6 = q.F 20 i := hA.1.2.2.2.2.1
  have h14 := hA.2.2.2.1
  have h20' := hA.2.2.2.2.2
  obtain ⟨e, he⟩ : ∃ e : Nat, (q.F 14 i).toInt = (e : Int) := ⟨(q.F 14 i).toInt.toNat, by omega⟩
  obtain ⟨p, hp⟩ : ∃ p : Nat, (q.F 20 i).toInt = (p : Int) := ⟨(q.F 20 i).toInt.toNat, by omega⟩
  have je : (Int.toNat (Int32.toInt (q.F 14 i))) = e := by omega
  have jp : (Int.toNat (Int32.toInt (q.F 20 i))) = p := by omega
  have i24 := (ix24 (s := q.F 20 i) (j := p) he (by omega) hp (by omega)).1
  have z1 := h.z.1 e (by omega)
  unfold kh_step r_does
  rw [ix_nat hv, e1, e6, i24, ix_nat he]
  dsimp +instances only [c9n, c9f, c9T, c9G, c9K, c9F, q10F, q10n]
  rw [je, jp, z1.2.2.1]
  by_cases c : (q.F 20 i).toInt < (q.F 2 e).toInt
  · rw [if_pos ⟨h14.1, h14.2, h20'.1, c, by omega⟩]
    have z2 := h.z.2.1 e p (by omega) (by omega)
    rw [z2.1.1, z2.1.2.1, z2.1.2.2]
    by_cases d : (q.F 3 (24 * e + p)).toInt = 12
    · rw [if_neg (fun w => w.2 d), op_end d]
      exact (end_sim h hi hv hs hb ht h9).more (by omega) (by omega)
    · rw [if_pos ⟨c, d⟩]
      exact op_sim ⟨h, hi, hv, hs, hb, ht, h9, by omega, h19, h20, h21⟩ hk hR (by omega) z2.2.2.1 z2.2.2.2.1 (fun w => by have := z2.2.2.2.2 w; omega)
  · rw [if_neg (fun w => c w.2.2.2.1), if_neg (fun w => c w.1)]
    exact (end_sim h hi hv hs hb ht h9).more (by omega) (by omega)
theorem note_keep : (q_note v q).F 13 = q.F 13 ∧ (q_note v q).F 20 = q.F 20 ∧ (q_note v q).F 24 = q.F 24 ∧ (q_note v q).F 25 = q.F 25 := by
  unfold q_note
  by_cases c : (q.n 48).toInt < 2000
  · rw [if_pos c]; exact ⟨rfl, rfl, rfl, rfl⟩
  · rw [if_neg c]; exact ⟨rfl, rfl, rfl, rfl⟩
def kh_turn (i : Nat) (s : C9) : C9 :=
  let s1 := k_note i s
  let p := if ¬ (s1.G i 8).toInt = 0 ∨ ¬ (s1.G i 9).toInt = 0 then k_stand i s1 else kh_step i s1
  k_close i p.2 p.1
theorem turn_sim (h : Rl R kp s q) (hi : i < (Int.toNat (Int32.toInt (s.n 0)))) (hv : v.toInt = (i : Int)) (hk : kp + 1 ≤ 2000000000) (hR : R + 1 ≤ 310000) (hs : (q.F 13 i).toInt = 1) : Rl (R + 1) (kp + 2) (kh_turn i s) (r_turn v q) := by
  have h1 := note_sim h (by omega) hv hi (by omega)
  obtain ⟨k13, k20, k24, k25⟩ := note_keep (v := v) (q := q)
  obtain ⟨s1, hs1⟩ : ∃ s1, s1 = k_note i s := ⟨_, rfl⟩
  obtain ⟨q1, hq1⟩ : ∃ q1, q1 = q_note v q := ⟨_, rfl⟩
  have n0 : s1.n 0 = s.n 0 := by rw [hs1]; rfl
  have g19 : s1.G i 19 = -1 := by
    rw [hs1]; unfold k_note k_clrF
    show u2 (u2 (u2 (u2 (u2 _ i 17 (-1)) i 18 (-1)) i 19 (-1)) i 20 0) i 21 0 i 19 = -1
    rw [u2_n2 _ _ _ _ (by decide), u2_n2 _ _ _ _ (by decide), u2_eq] <;> rfl
  have g20 : s1.G i 20 = 0 := by
    rw [hs1]; unfold k_note k_clrF
    show u2 (u2 (u2 (u2 (u2 _ i 17 (-1)) i 18 (-1)) i 19 (-1)) i 20 0) i 21 0 i 20 = 0
    rw [u2_n2 _ _ _ _ (by decide), u2_eq] <;> rfl
  have g21 : (s1.G i 21).toInt = 0 := by
    rw [hs1]; unfold k_note k_clrF
    show Int32.toInt (u2 (u2 (u2 (u2 (u2 _ i 17 (-1)) i 18 (-1)) i 19 (-1)) i 20 0) i 21 0 i 21) = 0
    rw [u2_eq]; decide
  unfold kh_turn
  rw [r_turn_eq, ← hs1, ← hq1]
  rw [← hs1, ← hq1] at h1
  rw [← hq1] at k13 k20 k24 k25
  have hi1 : i < (Int.toNat (Int32.toInt (s1.n 0))) := by rw [n0]; exact hi
  have hC := h1.c i hi1
  have hs' : (q1.F 13 i).toInt = 1 := by rw [k13]; exact hs
  unfold c_turn
  rw [ix_nat hv]
  dsimp +instances only [c9n, c9f, c9T, c9G, c9K, c9F, q10F, q10n]
  by_cases c : (q1.F 25 i).toInt = 0
  · rw [if_neg (show ¬ ¬ (q1.F 25 i).toInt = 0 from fun w => w c)]
    have g8 : (s1.G i 8).toInt = 0 := by rw [hC.1]; exact c
    have hb := hC.2.2.1 c
    by_cases d : (q1.F 24 i).toInt = 0
    · have g9 : (s1.G i 9).toInt = 0 := Classical.byContradiction (fun w => (hb.mpr (Or.inr w)) d)
      rw [if_neg (show ¬ ¬ (q1.F 24 i).toInt = 0 from fun w => w d), if_neg (show ¬ (¬ (s1.G i 8).toInt = 0 ∨ ¬ (s1.G i 9).toInt = 0) from fun w => w.elim (fun y => y g8) (fun y => y g9))]
      exact (does_sim h1 hi1 hv (by omega) hR hs' d c g9 g19 g20 g21).more (Nat.le_refl _) (by omega)
    · have g9 : ¬ (s1.G i 9).toInt = 0 := (hb.mp d).resolve_left (by omega)
      rw [if_pos d, if_pos (show ¬ (s1.G i 8).toInt = 0 ∨ ¬ (s1.G i 9).toInt = 0 from Or.inr g9)]
      unfold k_stand
      rw [if_neg (show ¬ ¬ (s1.G i 8).toInt = 0 from fun w => w g8)]
      have pl : (q1.F 20 i).toInt < 24 := by rw [← (h1.a i hi1).1.2.2.2.2.1]; exact hC.2.2.2.2.2 d
      refine (take_sim h1 (fun g c w => Or.inr w) hi1 hv hs' c pl g19 g20 g21 (fun j hj hK h12 => ?_)).more (by omega) (by omega)
      rcases (h1.d j hj).2 i hK with z | z | z | z
      · omega
      · exact z.2.2.2.2.2.resolve_left (by omega)
      · exact absurd c z.2.2.2
      · omega
  · rw [if_pos c]
    have g8 : ¬ (s1.G i 8).toInt = 0 := by rw [hC.1]; exact c
    rw [if_pos (show ¬ (s1.G i 8).toInt = 0 ∨ ¬ (s1.G i 9).toInt = 0 from Or.inl g8)]
    unfold k_stand
    rw [if_pos g8]
    exact (notice_sim h1 hi1 hv hs' c g19 g20 g21).more (by omega) (by omega)
def cTq (g : Nat → Int32) (c : Int) : Nat → Nat
  | 0 => 0
  | k + 1 => cTq g c k + (if c ≤ (g k).toInt then 1 else 0)
theorem cTq_le (g : Nat → Int32) (c : Int) : ∀ k : Nat, cTq g c k ≤ k
  | 0 => Nat.le_refl _
  | k + 1 => by
    have := cTq_le g c k
    show cTq g c k + _ ≤ _
    split <;> omega
theorem cTq_mono {g g' : Nat → Int32} {c c' : Int} (hg : ∀ t : Nat, g' t = g t ∨ g' t = -1) (h0 : 0 ≤ c) (hc : c ≤ c') : ∀ k : Nat, cTq g' c' k ≤ cTq g c k
  | 0 => Nat.le_refl _
  | k + 1 => by
    have z := cTq_mono hg h0 hc k
    have t : (-1 : Int32).toInt = -1 := by decide
    show cTq g' c' k + (if c' ≤ (g' k).toInt then 1 else 0) ≤ cTq g c k + (if c ≤ (g k).toInt then 1 else 0)
    rcases hg k with y | y
    · rw [y]
      by_cases d : c' ≤ (g k).toInt
      · rw [if_pos d, if_pos (by omega)]; omega
      · rw [if_neg d]; omega
    · rw [y, if_neg (by omega)]; omega
theorem cTq_drop {g g' : Nat → Int32} {c : Int} {t0 : Nat} (hg : ∀ t : Nat, g' t = g t ∨ g' t = -1) (h0 : 0 ≤ c) (ht : (g t0).toInt = c) : ∀ k : Nat, t0 < k → cTq g' (c + 1) k + 1 ≤ cTq g c k
  | 0, h => by omega
  | k + 1, h => by
    have t : (-1 : Int32).toInt = -1 := by decide
    show cTq g' (c + 1) k + (if c + 1 ≤ (g' k).toInt then 1 else 0) + 1 ≤ cTq g c k + (if c ≤ (g k).toInt then 1 else 0)
    by_cases e : k = t0
    · subst e
      have z := cTq_mono (c := c) (c' := c + 1) hg h0 (by omega) k
      rw [if_pos (show c ≤ (g k).toInt by omega), if_neg (by rcases hg k with y | y <;> rw [y] <;> omega)]
      omega
    · have z := cTq_drop hg h0 ht k (by omega)
      rcases hg k with y | y
      · rw [y]
        by_cases d : c + 1 ≤ (g k).toInt
        · rw [if_pos d, if_pos (by omega)]; omega
        · rw [if_neg d]; omega
      · rw [y, if_neg (by omega)]; omega
theorem turns_sim (h : Rl R kp s q) (hk : kp + 12 ≤ 2000000000) (hR : R + 6 ≤ 310000) {fin : Q10 → Q10} {P : C9 → Q10 → Prop} (hf : ∀ (s : C9) (q : Q10), Rl (R + 6) (kp + 12) s q → P s (fin q)) :
    P (kh_turns s) (itr b_turns10 fin 0 (Int32.toNatClampNeg (q.n 11)) q) := by
  have hu := h.u
  have hN' := h.N200
  have e11 : Int32.toNatClampNeg (q.n 11) = (Int.toNat (Int32.toInt (s.n 0))) := by show (q.n 11).toInt.toNat = _; rw [hu.1.1]
  unfold kh_turns
  rw [e11]
  have h0 : 0 ≤ (q.n 11).toInt := hu.2.1.1
  have hN : (q.n 11).toInt ≤ 200 := hu.2.1.2
  have hM : (q.n 11).toInt = (((Int.toNat (Int32.toInt (s.n 0))) : Nat) : Int) := by rw [hu.1.1]; omega
  refine itr_itr (P := P) (I := fun c (s' : C9) (q' : Q10) => ∃ x : Nat, Rl (R + x) (kp + 2 * x) s' q' ∧ x + cTq (q'.F 10) c 6 ≤ 6 ∧ (q.n 11).toInt ≤ (q'.n 11).toInt) (N := (Int.toNat (Int32.toInt (s.n 0)))) ?_ ?_ _ 0 s q (by omega) ⟨0, by simpa using h, by have := cTq_le (q.F 10) (0 : Nat) 6; omega, Int.le_refl _⟩
  · intro s' q' hI
    obtain ⟨x, h1, h2, h3⟩ := hI
    exact hf _ _ (h1.more (by omega) (by omega))
  · intro c s' q' k k' hc hI hkk
    obtain ⟨x, hI, hx, hB⟩ := hI
    have u' := hI.u
    have hc' : c < (Int.toNat (Int32.toInt (s'.n 0))) := by
      rw [u'.1.1]
      omega
    have e2 : s'.G c 2 = q'.F 13 c := (hI.b c hc').1
    have hv : (Int32.ofNat c).toInt = (c : Int) := ofNat_toInt (by omega)
    unfold bh_turn b_turns10
    rw [e2]
    by_cases d : (q'.F 13 c).toInt = 1
    · rw [if_pos d, if_pos d]
      have hthr := (hI.b c hc').2.2.2.1 d
      have e3 : s'.G c 3 = q'.F 18 c := (hI.a c hc').1.2.2.1
      have hT := hI.t.2.2 c hc' (by rw [e3]; exact hthr.1)
      have ht6 : (s'.G c 3).toInt.toNat < 6 := by rw [e3]; omega
      have h10 := hI.t.1 _ ht6
      rw [hT] at h10
      have h10 : Int32.ofNat c = q'.F 10 (s'.G c 3).toInt.toNat := h10
      have hBt : B11 (q.n 11).toInt (q'.F 10) (r_turn (Int32.ofNat c) q') := B11.turn ⟨⟨hB, u'.2.1⟩, fun _ => Or.inl rfl⟩ _
      have hd := cTq_drop (c := (c : Int)) (t0 := (s'.G c 3).toInt.toNat) hBt.2 (by omega) (by rw [← h10]; exact hv) 6 ht6
      refine hkk _ _ ⟨x + 1, (turn_sim hI hc' hv (by omega) (by omega) d).more (by omega) (by omega), ?_, hBt.1.1⟩
      have hd : cTq ((r_turn (Int32.ofNat c) q').F 10) ((c + 1 : Nat) : Int) 6 + 1 ≤ cTq (q'.F 10) c 6 := hd
      omega
    · rw [if_neg d, if_neg d]
      refine hkk _ _ ⟨x, hI, ?_, hB⟩
      have := cTq_mono (g := q'.F 10) (g' := q'.F 10) (c := (c : Int)) (c' := ((c + 1 : Nat) : Int)) (fun _ => Or.inl rfl) (by omega) (by omega) 6
      omega
end

/- ---------- THREADS are filled, RUNS wake ---------- -/
section
variable {R N : Nat} {kp : Int} {s : C9} {q : Q10} {i : Nat} {v : Int32} {G : Nat → Nat → Int32} {K : Nat → Nat → Option Nat} {T : Nat → Option Nat} {F : Nat → Nat → Nat → Int32} {m a10 a13 a18 a24 a25 a33 a34 a35 : Nat → Int32}
theorem RT.come (h : RT N T G a10) {i t : Nat} (hi : i < N) (h6 : t < 6) (h0 : T t = none) (hno : (G i 3).toInt = -1) : RT N (u1 T t (some i)) (u2 G i 3 (Int32.ofNat t)) (upd a10 t (Int32.ofNat i)) := by
  obtain ⟨h1, h2, h3⟩ := h
  have ot : (Int32.ofNat t).toInt = (t : Int) := ofNat_toInt (by omega)
  refine ⟨fun b hb => ?_, fun b a hab => ?_, fun a ha h0' => ?_⟩
  · by_cases e : b = t
    · subst e; rw [u1_eq, upd_s]; rfl
    · rw [u1_ne _ _ e, upd_n _ _ e]; exact h1 b hb
  · by_cases e : b = t
    · subst e; rw [u1_eq] at hab; cases hab; rw [u2_eq]; exact ⟨hi, h6, ot⟩
    · rw [u1_ne _ _ e] at hab
      have z := h2 b a hab
      have : a ≠ i := fun q => by subst q; omega
      rw [u2_n1 _ _ _ this]; exact z
  · by_cases e : a = i
    · subst e; rw [u2_eq, ot, show ((t : Int)).toNat = t by omega, u1_eq] <;> rfl
    · rw [u2_n1 _ _ _ e] at h0' ⊢
      have z := h3 a ha h0'
      have ne : (G a 3).toInt.toNat ≠ t := fun w => by rw [w] at z; rw [h0] at z; cases z
      rw [u1_ne _ _ ne]; exact z
theorem RC.st (h : RC N G a13 a24 a25) (i : Nat) (h0 : (a13 i).toInt = 0) : RC N G (upd a13 i 1) a24 a25 := fun j hj => by
  have z := h j hj
  have t1 : (1 : Int32).toInt = 1 := by decide
  by_cases e : j = i
  · subst e; rw [upd_s]
    exact ⟨z.1, z.2.1, fun w => ⟨fun y => ((z.2.2.1 w).mp y).elim (fun x => by omega) Or.inr, fun y => (z.2.2.1 w).mpr (y.elim (fun x => by omega) Or.inr)⟩, fun w => by omega, fun w => by omega, z.2.2.2.2.2⟩
  · rw [upd_n _ _ e]; exact z
theorem RF.come {a35' : Nat → Int32} (h : RF N F m a18 a33 a34 a35) (i : Nat) {t : Int32} (hoff : (a18 i).toInt = -1) (h1 : ∀ a j : Nat, a ≠ i → j < 8 → a35' (8 * a + j) = a35 (8 * a + j)) (h2 : ∀ j : Nat, j < 8 → a35' (8 * i + j) = if (m j).toInt = 0 then 0 else a35 (8 * i + j)) : RF N F m (upd a18 i t) a33 a34 a35' := fun a j ha hj => by
  obtain ⟨z1, z2, z3⟩ := h a j ha hj
  have t0 : (0 : Int32).toInt = 0 := by decide
  by_cases e : a = i
  · subst e
    rw [h2 j hj, upd_s]
    by_cases c : (m j).toInt = 0
    · rw [if_pos c]
      have z := z3 c hoff
      exact ⟨z1, fun _ => ⟨⟨fun w => absurd z w, fun w => absurd t0 w⟩, fun w => absurd z w⟩, fun _ _ => z⟩
    · rw [if_neg c]
      exact ⟨z1, fun _ => z2 (Or.inl c), fun w => absurd w c⟩
  · rw [h1 a j e hj, upd_n _ _ e]; exact ⟨z1, z2, z3⟩
theorem come_spec (i : Nat) (s : C9) (n : Nat) : ∀ t : Nat, (itr (b_come i) (fun s => s) t n s = s ∧ ∀ b : Nat, t ≤ b → b < t + n → s.T b ≠ none) ∨ ∃ b : Nat, t ≤ b ∧ b < t + n ∧ s.T b = none ∧ (∀ c : Nat, t ≤ c → c < b → s.T c ≠ none) ∧ itr (b_come i) (fun s => s) t n s = (C9.mk s.n s.f (u1 s.T b (some i)) (u2 (u2 (u2 s.G i 3 (Int32.ofNat b)) i 2 1) i 4 (s.G i 4 + 1)) s.K s.F) := by
  induction n with
  | zero => intro t; rw [itr_0]; exact Or.inl ⟨rfl, fun b h1 h2 => by omega⟩
  | succ n ih =>
    intro t
    rw [itr_s]
    unfold b_come
    cases e : s.T t with
    | none =>
      refine Or.inr ⟨t, Nat.le_refl _, by omega, e, fun c h1 h2 => by omega, ?_⟩
      show C9.mk _ _ _ (u2 (u2 (u2 s.G i 3 (Int32.ofNat t)) i 2 1) i 4 (u2 (u2 s.G i 3 (Int32.ofNat t)) i 2 1 i 4 + 1)) _ _ = _
      rw [u2_n2 _ _ _ _ (show (4 : Nat) ≠ 2 by decide), u2_n2 _ _ _ _ (show (4 : Nat) ≠ 3 by decide)] <;> rfl
    | some j =>
      show (itr (b_come i) (fun s => s) (t + 1) n s = s ∧ _) ∨ ∃ b : Nat, t ≤ b ∧ b < t + (n + 1) ∧ s.T b = none ∧ (∀ c : Nat, t ≤ c → c < b → s.T c ≠ none) ∧ itr (b_come i) (fun s => s) (t + 1) n s = _
      rcases ih (t + 1) with z | ⟨b, z1, z2, z3, z4, z5⟩
      · refine Or.inl ⟨z.1, fun b h1 h2 => ?_⟩
        by_cases c : b = t
        · rw [c, e]; intro w; cases w
        · exact z.2 b (by omega) (by omega)
      · refine Or.inr ⟨b, by omega, by omega, z3, fun c h1 h2 => ?_, z5⟩
        by_cases d : c = t
        · rw [d, e]; intro w; cases w
        · exact z4 c (by omega) h2
theorem free_spec (q : Q10) (n : Nat) : ∀ t : Nat, t + n ≤ 6 → ((itr (rfB q.F) (fun _ => -1) t n ()).toInt = -1 ∧ ∀ b : Nat, t ≤ b → b < t + n → ¬ (q.F 10 b).toInt = -1) ∨ ∃ b : Nat, t ≤ b ∧ b < t + n ∧ (q.F 10 b).toInt = -1 ∧ (∀ c : Nat, t ≤ c → c < b → ¬ (q.F 10 c).toInt = -1) ∧ itr (rfB q.F) (fun _ => -1) t n () = Int32.ofNat b := by
  induction n with
  | zero => intro t _; rw [itr_0]; exact Or.inl ⟨by decide, fun b h1 h2 => by omega⟩
  | succ n ih =>
    intro t ht
    rw [itr_s]
    unfold rfB
    by_cases e : (q.F 10 t).toInt = -1
    · rw [if_pos e]
      exact Or.inr ⟨t, Nat.le_refl _, by omega, e, fun c h1 h2 => by omega, rfl⟩
    · rw [if_neg e]
      rcases ih (t + 1) (by omega) with z | ⟨b, z1, z2, z3, z4, z5⟩
      · refine Or.inl ⟨z.1, fun b h1 h2 => ?_⟩
        by_cases c : b = t
        · rw [c]; exact e
        · exact z.2 b (by omega) (by omega)
      · refine Or.inr ⟨b, by omega, by omega, z3, fun c h1 h2 => ?_, z5⟩
        by_cases d : c = t
        · rw [d]; exact e
        · exact z4 c (by omega) h2
theorem own_spec {ρ : Type} (q : Q10) {r : Int32} {i : Nat} (hr : r.toInt = (i : Int)) (hi : i < 200) (k : Q10 → ρ) {P : ρ → Prop} {b : Nat → Q10 → (Q10 → ρ) → ρ} (hbd : b = fun t q k => if (q.F 0 t).toInt = 0 then k ⟨upF q.F 35 (upd (q.F 35) (Int32.toNatClampNeg (8 * r + Int32.ofNat t)) 0), q.n⟩ else k q)
    (hP : ∀ a35 : Nat → Int32, (∀ a j : Nat, a ≠ i → j < 8 → a35 (8 * a + j) = q.F 35 (8 * a + j)) → (∀ j : Nat, j < 8 → a35 (8 * i + j) = if (q.F 0 j).toInt = 0 then 0 else q.F 35 (8 * i + j)) → P (k ⟨upF q.F 35 a35, q.n⟩)) : P (itr b k 0 8 q) := by
  refine itr_inv (P := P) (I := fun c (p : Q10) => ∃ a35 : Nat → Int32, p = ⟨upF q.F 35 a35, q.n⟩ ∧ (∀ a j : Nat, a ≠ i → j < 8 → a35 (8 * a + j) = q.F 35 (8 * a + j)) ∧ ∀ j : Nat, j < 8 → a35 (8 * i + j) = if j < c ∧ (q.F 0 j).toInt = 0 then 0 else q.F 35 (8 * i + j)) (N := 8) ?_ ?_ 8 0 q rfl ⟨q.F 35, by rw [upF_id] <;> rfl, fun a j _ _ => rfl, fun j _ => by rw [if_neg (fun w => by omega)] <;> rfl⟩
  · intro p hI
    obtain ⟨a35, h1, h2, h3⟩ := hI
    rw [h1]
    refine hP a35 h2 (fun j hj => ?_)
    rw [h3 j hj]
    by_cases c : (q.F 0 j).toInt = 0
    · rw [if_pos ⟨hj, c⟩, if_pos c] <;> rfl
    · rw [if_neg (fun w => c w.2), if_neg c] <;> rfl
  · intro c p kk hc hI hk
    obtain ⟨a35, h1, h2, h3⟩ := hI
    have i8 := ix8 (s := Int32.ofNat c) (j := c) hr hi (ofNat_toInt (by omega)) hc
    rw [hbd, h1]
    show P (if (q.F 0 c).toInt = 0 then kk ⟨upF (upF q.F 35 a35) 35 (upd a35 (Int32.toNatClampNeg (8 * r + Int32.ofNat c)) 0), q.n⟩ else kk _)
    rw [i8]
    by_cases d : (q.F 0 c).toInt = 0
    · rw [if_pos d]
      refine hk _ ⟨upd a35 (8 * i + c) 0, by rw [upF_self] <;> rfl, fun a j ha hj => ?_, fun j hj => ?_⟩
      · rw [upd_n _ _ (by omega)]; exact h2 a j ha hj
      · by_cases e : j = c
        · subst e; rw [upd_s, if_pos ⟨by omega, d⟩] <;> rfl
        · rw [upd_n _ _ (by omega), h3 j hj]
          by_cases w : j < c ∧ (q.F 0 j).toInt = 0
          · rw [if_pos w, if_pos ⟨by omega, w.2⟩] <;> rfl
          · rw [if_neg w, if_neg (fun y => w ⟨by omega, y.2⟩)] <;> rfl
    · rw [if_neg d]
      refine hk _ ⟨a35, rfl, h2, fun j hj => ?_⟩
      rw [h3 j hj]
      by_cases w : j < c ∧ (q.F 0 j).toInt = 0
      · rw [if_pos w, if_pos ⟨by omega, w.2⟩] <;> rfl
      · rw [if_neg w, if_neg (fun y => w ⟨by
          have : j ≠ c := fun e => by subst e; exact d y.2
          omega, y.2⟩)] <;> rfl
end

/- ---------- a BEAT ---------- -/
section
variable {R : Nat} {kp : Int} {s : C9} {q : Q10} {i : Nat}
/-- a RUN comes onto a THREAD -/
theorem come_rel (h : Rl R kp s q) (hi : i < (Int.toNat (Int32.toInt (s.n 0)))) (h0 : (q.F 13 i).toInt = 0) {t : Nat} (h6 : t < 6) (hT : s.T t = none) {a35 : Nat → Int32} (h1 : ∀ a j : Nat, a ≠ i → j < 8 → a35 (8 * a + j) = q.F 35 (8 * a + j)) (h2 : ∀ j : Nat, j < 8 → a35 (8 * i + j) = if (q.F 0 j).toInt = 0 then 0 else q.F 35 (8 * i + j)) :
    Rl R kp (C9.mk s.n s.f (u1 s.T t (some i)) (u2 (u2 (u2 s.G i 3 (Int32.ofNat t)) i 2 1) i 4 (s.G i 4 + 1)) s.K s.F)
      ⟨upF (upF (upF (upF (upF q.F 10 (upd (q.F 10) t (Int32.ofNat i))) 13 (upd (q.F 13) i 1)) 18 (upd (q.F 18) i (Int32.ofNat t))) 23 (upd (q.F 23) i (q.F 23 i + 1))) 35 a35, q.n⟩ := by
  have hN := h.N200
  have t1 : (1 : Int32).toInt = 1 := by decide
  have tm : (-1 : Int32).toInt = -1 := by decide
  have ot : (Int32.ofNat t).toInt = (t : Int) := ofNat_toInt (by omega)
  have hA := h.a i hi
  have off : q.F 18 i = -1 := (h.b i hi).2.2.2.2 (by omega)
  have e3 : s.G i 3 = q.F 18 i := hA.1.2.2.1
  have e4 : s.G i 4 = q.F 23 i := hA.1.2.2.2.1
  have n34 : ¬ ((q.F 13 i).toInt = 3 ∨ (q.F 13 i).toInt = 4) := by omega
  refine ⟨h.u, h.z, h.l, ?_, ?_, ?_, ?_, ?_, ?_, ?_, ?_, ?_, ?_, h.j, ?_⟩
  · exact ((RT.come h.t hi h6 hT (by rw [e3, off]; exact tm)).fG _ _ _ (by decide)).fG _ _ _ (by decide)
  · rw [e4]; exact (((h.a.thr i (Int32.ofNat t)).fG i 2 1 (by decide))).came i (q.F 23 i + 1)
  · refine RB.fG ?_ i 4 _ (by decide)
    exact RB.st (h.b.fG i 3 _ (by decide)) i (by omega) (fun _ => by omega) (fun w => absurd t1 w)
  · exact (((h.c.st i h0).fG i 3 (Int32.ofNat t) (by decide)).fG i 2 1 (by decide)).fG i 4 (s.G i 4 + 1) (by decide)
  · refine RD.mono (((h.d.fG i 3 (Int32.ofNat t) (by decide)).fG i 2 1 (by decide)).fG i 4 (s.G i 4 + 1) (by decide)) (fun g c w => ?_)
    show ¬ (q.F 24 g).toInt = 0 ∧ ((upd (q.F 13) i 1 g).toInt = 2 ∨ (upd (q.F 13) i 1 c).toInt = 3 ∨ (upd (q.F 13) i 1 c).toInt = 4)
    refine ⟨w.1, ?_⟩
    rcases w.2 with y | y
    · rw [upd_n _ _ (show g ≠ i from fun e => by subst e; omega)]; exact Or.inl y
    · rw [upd_n (q.F 13) (j := c) _ (show c ≠ i from fun e => by subst e; omega)]; exact Or.inr y
  · exact (((h.e.nst i n34 (st := 1) (by omega)).fG i 3 (Int32.ofNat t) (by decide)).fG i 2 1 (by decide)).fG i 4 (s.G i 4 + 1) (by decide)
  · exact h.f.come i (by rw [off]; exact tm) h1 h2
  · exact (((h.g.nst i n34 (st := 1)).fG i 3 (Int32.ofNat t) (by decide)).fG i 2 1 (by decide)).fG i 4 (s.G i 4 + 1) (by decide)
  · exact ((h.p.fG _ _ _ (by decide)).fG _ _ _ (by decide)).fG _ _ _ (by decide)
  · exact ((h.x.fG _ _ _ (by decide)).fG _ _ _ (by decide)).fG _ _ _ (by decide)
  · exact ((h.k.fG _ _ _ (by decide)).fG _ _ _ (by decide)).fG _ _ _ (by decide)
theorem fill1 {P : C9 → Q10 → Prop} {k : C9 → C9} {k' : Q10 → Q10} (h : Rl R kp s q) (hi : i < (Int.toNat (Int32.toInt (s.n 0)))) (hk : ∀ (s' : C9) (q' : Q10), Rl R kp s' q' → s'.n = s.n → P (k s') (k' q')) : P (b_fill i s k) (b_fill10 i q k') := by
  have hN := h.N200
  have hu := h.u
  have e2 : s.G i 2 = q.F 13 i := (h.b i hi).1
  have tm : (-1 : Int32).toInt = -1 := by decide
  have n1 : s.n 1 = q.n 9 := hu.1.2.1
  have h9 := hu.2.2.1
  obtain ⟨M, hM⟩ : ∃ M : Nat, (q.n 9).toInt = (M : Int) := ⟨(q.n 9).toInt.toNat, by omega⟩
  have T10 : ∀ t : Nat, t < 6 → (s.T t = none ↔ (q.F 10 t).toInt = -1) := fun t ht => by
    have z := h.t.1 t ht
    rw [← z]
    cases e : s.T t with
    | none => exact ⟨fun _ => tm, fun _ => rfl⟩
    | some j =>
      have := (h.t.2.1 t j e).1
      refine ⟨fun w => (by cases w), fun w => ?_⟩
      have w : (Int32.ofNat j).toInt = -1 := w
      rw [ofNat_toInt (by omega)] at w
      omega
  unfold b_fill b_fill10
  rw [e2]
  by_cases c : (q.F 13 i).toInt = 0
  · rw [if_pos c, if_pos c]
    have hc : k_come i s = itr (b_come i) (fun s => s) 0 M s := by unfold k_come; rw [n1, show min 6 ((Int.toNat (Int32.toInt (q.n 9)))) = M by omega]
    have hf : r_free q = itr (rfB q.F) (fun _ => -1) 0 M () := by unfold r_free; rw [ix_nat hM]
    dsimp +instances only [c9n, c9f, c9T, c9G, c9K, c9F, q10F, q10n]
    rw [hc, hf]
    rcases come_spec i s M 0 with z | ⟨b, b1, b2, b3, b4, b5⟩
    · rcases free_spec q M 0 (by omega) with y | ⟨b, y1, y2, y3, y4, y5⟩
      · rw [z.1, if_pos y.1]
        exact hk _ _ h rfl
      · exact absurd ((T10 b (by omega)).mpr y3) (z.2 b y1 y2)
    · rcases free_spec q M 0 (by omega) with y | ⟨b', y1, y2, y3, y4, y5⟩
      · exact absurd ((T10 b (by omega)).mp b3) (y.2 b b1 b2)
      · have eb : b' = b := Classical.byContradiction (fun w => by
          rcases Nat.lt_or_ge b b' with x | x
          · exact y4 b b1 x ((T10 b (by omega)).mp b3)
          · exact b4 b' y1 (by omega) ((T10 b' (by omega)).mpr y3))
        subst eb
        have ob : (Int32.ofNat b').toInt = (b' : Int) := ofNat_toInt (by omega)
        rw [b5, y5, if_neg (by omega), ix_nat ob]
        refine own_spec _ (r := Int32.ofNat i) (ofNat_toInt (by omega)) (by omega) k' (P := fun z => P _ z) rfl (fun a35 h1 h2 => ?_)
        exact hk _ _ (come_rel h hi c (by omega) b3 h1 h2) rfl
  · rw [if_neg c, if_neg c]
    exact hk _ _ h rfl
theorem fill_sim {P : C9 → Q10 → Prop} {k' : Q10 → Q10} {k : C9 → C9} (h : Rl R kp s q) (hf : ∀ (s' : C9) (q' : Q10), Rl R kp s' q' → P (k s') (k' q')) : P (k (k_fill s)) (itr b_fill10 k' 0 (Int32.toNatClampNeg (q.n 11)) q) := by
  have hu := h.u
  have e11 : Int32.toNatClampNeg (q.n 11) = (Int.toNat (Int32.toInt (s.n 0))) := by show (q.n 11).toInt.toNat = _; rw [hu.1.1]
  unfold k_fill
  rw [e11]
  refine itr_itr (P := fun a b => P (k a) b) (I := fun _ (s' : C9) (q' : Q10) => Rl R kp s' q' ∧ s'.n = s.n) (N := (Int.toNat (Int32.toInt (s.n 0)))) (fun s' q' hI => hf _ _ hI.1) ?_ _ 0 s q (by omega) ⟨h, rfl⟩
  intro c s' q' kk kk' hc hI hkk
  exact fill1 (P := fun a b => P (k a) b) hI.1 (by rw [hI.2]; exact hc) (fun s1 q1 h1 h2 => hkk _ _ ⟨h1, h2.trans hI.2⟩)
/-- a RUN that waits comes back -/
theorem wake_rel (h : Rl R kp s q) (hi : i < (Int.toNat (Int32.toInt (s.n 0)))) (h2 : (q.F 13 i).toInt = 2) (hov : ∀ c : Nat, c < (Int.toNat (Int32.toInt (s.n 0))) → s.K c 0 = some i → (s.G c 12).toInt = 1 → (q.F 13 c).toInt = 3 ∨ (q.F 13 c).toInt = 4) :
    Rl R kp (C9.mk s.n s.f s.T (u2 (u2 s.G i 2 0) i 9 1) s.K s.F) ⟨upF q.F 13 (upd (q.F 13) i 0), q.n⟩ := by
  have t0 : (0 : Int32).toInt = 0 := by decide
  have t1 : (1 : Int32).toInt = 1 := by decide
  have off : q.F 18 i = -1 := (h.b i hi).2.2.2.2 (by omega)
  have n34 : ¬ ((q.F 13 i).toInt = 3 ∨ (q.F 13 i).toInt = 4) := by omega
  have hC := h.c i hi
  refine ⟨h.u, h.z, h.l, (h.t.fG _ _ _ (by decide)).fG _ _ _ (by decide), (h.a.fG _ _ _ (by decide)).fG _ _ _ (by decide), ?_, ?_, ?_, ((h.e.nst i n34 (st := 0) (by omega)).fG _ _ _ (by decide)).fG _ _ _ (by decide), h.f, ((h.g.nst i n34 (st := 0)).fG _ _ _ (by decide)).fG _ _ _ (by decide), (h.p.fG _ _ _ (by decide)).fG _ _ _ (by decide), (h.x.fG _ _ _ (by decide)).fG _ _ _ (by decide), h.j, (h.k.fG _ _ _ (by decide)).fG _ _ _ (by decide)⟩
  · have z := (h.b.st i (v := 0) (t := -1) (by omega) (fun w => by omega) (fun _ => rfl)).fG i 9 1 (by decide)
    rw [upd_id _ _ off] at z
    exact z
  · intro j hj
    have z := h.c j hj
    show u2 (u2 s.G i 2 0) i 9 1 j 8 = q.F 25 j ∧ _ ∧ (_ → (¬ (q.F 24 j).toInt = 0 ↔ ((upd (q.F 13) i 0 j).toInt = 2 ∨ ¬ (u2 (u2 s.G i 2 0) i 9 1 j 9).toInt = 0))) ∧ ((upd (q.F 13) i 0 j).toInt = 2 → _ ∧ (u2 (u2 s.G i 2 0) i 9 1 j 9).toInt = 0) ∧ (((upd (q.F 13) i 0 j).toInt = 3 ∨ (upd (q.F 13) i 0 j).toInt = 4) → _ ∧ _ ∧ (u2 (u2 s.G i 2 0) i 9 1 j 9).toInt = 0) ∧ (_ → (u2 (u2 s.G i 2 0) i 9 1 j 6).toInt < 24)
    rw [u2_n2 _ _ _ _ (show (8 : Nat) ≠ 9 by decide), u2_n2 _ _ _ _ (show (8 : Nat) ≠ 2 by decide), u2_n2 _ _ _ _ (show (6 : Nat) ≠ 9 by decide), u2_n2 _ _ _ _ (show (6 : Nat) ≠ 2 by decide)]
    by_cases e : j = i
    · subst e
      rw [upd_s, u2_eq]
      exact ⟨z.1, z.2.1, fun w => ⟨fun _ => Or.inr (by omega), fun _ => (z.2.2.1 w).mpr (Or.inl h2)⟩, fun w => by omega, fun w => by omega, z.2.2.2.2.2⟩
    · rw [upd_n _ _ e, u2_n1 _ _ _ e, u2_n1 _ _ _ e]; exact z
  · intro j hj
    have z := h.d j hj
    have e12 : u2 (u2 s.G i 2 0) i 9 1 j 12 = s.G j 12 := by rw [u2_n2 _ _ _ _ (by decide), u2_n2 _ _ _ _ (by decide)] <;> rfl
    refine ⟨fun w => by show (u2 (u2 s.G i 2 0) i 9 1 j 12).toInt = 0 ∧ _; rw [e12]; exact z.1 w, fun g hg => ?_⟩
    dsimp +instances only [c9n, c9f, c9T, c9G, c9K, c9F, q10F, q10n]
    rw [e12]
    rcases z.2 g hg with y | y | y | y
    · exact Or.inl y
    · refine Or.inr (Or.inl ⟨y.1, y.2.1, y.2.2.1, y.2.2.2.1, ?_⟩)
      have w := y.2.2.2.2
      show ¬ (q.F 24 g).toInt = 0 ∧ ((upd (q.F 13) i 0 g).toInt = 2 ∨ (upd (q.F 13) i 0 j).toInt = 3 ∨ (upd (q.F 13) i 0 j).toInt = 4)
      refine ⟨w.1, ?_⟩
      by_cases e : g = i
      · subst e
        have o := hov j hj hg y.1
        rw [upd_n (q.F 13) (j := j) _ (show j ≠ g from fun e => by subst e; omega)]
        exact Or.inr o
      · rw [upd_n _ _ e]
        rcases w.2 with x | x
        · exact Or.inl x
        · rw [upd_n (q.F 13) (j := j) _ (show j ≠ i from fun e => by subst e; omega)]; exact Or.inr x
    · exact Or.inr (Or.inr (Or.inl y))
    · exact Or.inr (Or.inr (Or.inr y))
theorem wake_sim (h : Rl R kp s q) : Rl R kp (k_wake s) (itr b_wake10 (fun p => p) 0 (Int32.toNatClampNeg (q.n 11)) q) := by
  have hu := h.u
  have hN := h.N200
  have e11 : Int32.toNatClampNeg (q.n 11) = (Int.toNat (Int32.toInt (s.n 0))) := by show (q.n 11).toInt.toNat = _; rw [hu.1.1]
  unfold k_wake
  rw [e11]
  refine itr_itr (P := fun a b => Rl R kp a b) (I := fun _ (s' : C9) (q' : Q10) => Rl R kp s' q' ∧ s'.n = s.n) (N := (Int.toNat (Int32.toInt (s.n 0)))) (fun s' q' hI => hI.1) ?_ _ 0 s q (by omega) ⟨h, rfl⟩
  intro c s' q' kk kk' hc hI hkk
  obtain ⟨hI, hn⟩ := hI
  have hc' : c < (Int.toNat (Int32.toInt (s'.n 0))) := by rw [hn]; exact hc
  have e2 : s'.G c 2 = q'.F 13 c := (hI.b c hc').1
  unfold b_wake b_wake10
  rw [e2]
  by_cases d : (q'.F 13 c).toInt = 2
  · rw [if_pos d, if_pos d]
    have ht := ((hI.c c hc').2.2.2.1 d).1
    rcases aw_sim (v := Int32.ofNat c) hI hc' (ofNat_toInt (by omega)) ht with w | w
    · rw [w.1, if_pos w.2.1]
      exact hkk _ _ ⟨wake_rel hI hc' d w.2.2, hn⟩
    · rw [w.1, if_neg (fun y => y w.2)]
      exact hkk _ _ ⟨hI, hn⟩
  · rw [if_neg d, if_neg d]
    exact hkk _ _ ⟨hI, hn⟩
/-- one BEAT -/
theorem one_sim (h : Rl R kp s q) (hk : kp + 12 ≤ 2000000000) (hR : R + 6 ≤ 310000) : Rl (R + 6) (kp + 12) (k_wake (kh_turns (k_fill (C9.mk (u1 s.n 2 (s.n 2 + 1)) s.f s.T s.G s.K s.F)))) (r_one q) := by
  have h1 : Rl R kp (C9.mk (u1 s.n 2 (s.n 2 + 1)) s.f s.T s.G s.K s.F) ⟨q.F, upn q.n 12 (q.n 12 + 1)⟩ := by
    have hu := h.u
    refine ⟨?_, h.z.fn _ _ (by omega), ?_, h.t, h.a, h.b, h.c, h.d, h.e, h.f, h.g, h.p, h.x, h.j, h.k⟩
    · unfold RU at *
      dsimp +instances only [c9n, c9f, c9T, c9G, c9K, c9F, q10F, q10n]
      rw [show u1 s.n 2 (s.n 2 + 1) 0 = s.n 0 from u1_ne _ _ (by decide), show u1 s.n 2 (s.n 2 + 1) 1 = s.n 1 from u1_ne _ _ (by decide), show u1 s.n 2 (s.n 2 + 1) 2 = s.n 2 + 1 from u1_eq _ _ _, show u1 s.n 2 (s.n 2 + 1) 3 = s.n 3 from u1_ne _ _ (by decide), show u1 s.n 2 (s.n 2 + 1) 4 = s.n 4 from u1_ne _ _ (by decide), show u1 s.n 2 (s.n 2 + 1) 5 = s.n 5 from u1_ne _ _ (by decide), show u1 s.n 2 (s.n 2 + 1) 14 = s.n 14 from u1_ne _ _ (by decide), show u1 s.n 2 (s.n 2 + 1) 15 = s.n 15 from u1_ne _ _ (by decide), show u1 s.n 2 (s.n 2 + 1) 17 = s.n 17 from u1_ne _ _ (by decide), show u1 s.n 2 (s.n 2 + 1) 18 = s.n 18 from u1_ne _ _ (by decide), show u1 s.n 2 (s.n 2 + 1) 20 = s.n 20 from u1_ne _ _ (by decide)]
      exact ⟨⟨hu.1.1, hu.1.2.1, by rw [hu.1.2.2.1]; rfl, hu.1.2.2.2⟩, hu.2⟩
    · exact h.l.fn 2 (s.n 2 + 1) (by decide)
  unfold r_one
  exact fill_sim (P := fun a b => Rl (R + 6) (kp + 12) a b) (k := fun z => k_wake (kh_turns z)) h1 (fun s' q' h' => turns_sim (P := fun a b => Rl (R + 6) (kp + 12) (k_wake a) b) h' hk hR (fun s2 q2 h2 => wake_sim h2))
theorem left_sim (h : Rl R kp s q) : k_wl s = true ∧ ¬ (r_left q).toInt = 0 ∨ k_wl s = false ∧ (r_left q).toInt = 0 := by
  have hu := h.u
  have t1 : (1 : Int32).toInt = 1 := by decide
  have t0 : (0 : Int32).toInt = 0 := by decide
  have e11 : Int32.toNatClampNeg (q.n 11) = (Int.toNat (Int32.toInt (s.n 0))) := by show (q.n 11).toInt.toNat = _; rw [hu.1.1]
  unfold k_wl r_left
  rw [e11]
  have stuck : ∀ n c : Nat, itr (rlB q.F) (fun a => a) c n 1 = 1 := by
    intro n
    induction n with
    | zero => intro c; rw [itr_0]
    | succ n ih => intro c; rw [itr_s]; unfold rlB; rw [if_pos (by omega)]; exact ih (c + 1)
  have key : ∀ n c : Nat, c + n = (Int.toNat (Int32.toInt (s.n 0))) → (itr (wlB s.G) (fun _ => false) c n () = true ∧ ¬ (itr (rlB q.F) (fun a => a) c n 0).toInt = 0 ∨ itr (wlB s.G) (fun _ => false) c n () = false ∧ (itr (rlB q.F) (fun a => a) c n 0).toInt = 0) := by
    intro n
    induction n with
    | zero => intro c _; rw [itr_0, itr_0]; exact Or.inr ⟨rfl, t0⟩
    | succ n ih =>
      intro c hc
      rw [itr_s, itr_s]
      unfold wlB rlB
      have e2 : s.G c 2 = q.F 13 c := (h.b c (by omega)).1
      rw [e2, if_neg (show ¬ ¬ (0 : Int32).toInt = 0 from fun w => w t0)]
      by_cases d : (q.F 13 c).toInt = 3 ∨ (q.F 13 c).toInt = 4
      · rw [if_pos d, if_pos d]; exact ih (c + 1) (by omega)
      · rw [if_neg d, if_neg d]
        have := stuck n (c + 1)
        unfold rlB at this
        rw [this]
        exact Or.inl ⟨rfl, by omega⟩
  exact key _ 0 (by omega)
theorem beat_sim (h : Rl R kp s q) (hk : kp + 1200 ≤ 2000000000) (hR : R + 600 ≤ 310000) (v : Int32) : Rl (R + 600) (kp + 1200) (kh_beat v s).1 (r_beat v q).1 ∧ (kh_beat v s).2 = (r_beat v q).2 := by
  unfold kh_beat r_beat
  by_cases c : v.toInt < 1 ∨ 100 < v.toInt
  · rw [if_pos c, if_pos c]
    exact ⟨h.more (by omega) (by omega), rfl⟩
  · rw [if_neg c, if_neg c]
    have ev : Int32.toNatClampNeg v = (Int.toNat (Int32.toInt v)) := rfl
    rw [ev]
    refine itr_itr (P := fun (a : C9 × Int32) (b : Q10 × Int32) => Rl (R + 600) (kp + 1200) a.1 b.1 ∧ a.2 = b.2) (I := fun c (s' : C9) (q' : Q10) => Rl (R + 6 * c) (kp + 12 * c) s' q') (N := (Int.toNat (Int32.toInt v))) ?_ ?_ _ 0 s q (by omega) (by simpa using h)
    · intro s' q' hI
      exact ⟨hI.more (by omega) (by omega), rfl⟩
    · intro c s' q' k k' hc hI hkk
      unfold bh_beat b_beat10
      rcases left_sim hI with w | w
      · rw [w.1, if_pos w.2]
        exact hkk _ _ ((one_sim hI (by omega) (by omega)).more (by omega) (by omega))
      · rw [w.1, if_neg (fun y => y w.2)]
        exact ⟨hI.more (by omega) (by omega), rfl⟩
end

/- ---------- interrupt ---------- -/
section
variable {R : Nat} {kp : Int} {s : C9} {q : Q10} {i : Nat} {r : Int32}
theorem intr_rel (h : Rl R kp s q) (hi : i < (Int.toNat (Int32.toInt (s.n 0)))) (hr : r.toInt = (i : Int)) (ho : ¬ ((q.F 13 i).toInt = 3 ∨ (q.F 13 i).toInt = 4)) (ht : (q.F 25 i).toInt = 0) {st : Int32} (hst : (q.F 13 i).toInt = 2 ∧ st = 0 ∨ ¬ (q.F 13 i).toInt = 2 ∧ st = q.F 13 i) {f26 f27 : Nat → Int32}
    (h26 : ∀ a : Nat, f26 a = if (i < a ∧ a < (Int.toNat (Int32.toInt (s.n 0)))) ∧ (q.F 15 a).toInt = r.toInt ∧ ¬ (q.F 27 a).toInt = 0 ∧ ¬ (q.F 24 i).toInt = 0 then 1 else q.F 26 a) (h27 : ∀ a : Nat, f27 a = if (i < a ∧ a < (Int.toNat (Int32.toInt (s.n 0)))) ∧ (q.F 15 a).toInt = r.toInt ∧ ¬ (q.F 27 a).toInt = 0 ∧ ¬ (q.F 24 i).toInt = 0 then 0 else q.F 27 a) :
    Rl R kp (C9.mk s.n s.f s.T (u2 (u2 s.G i 8 1) i 2 st) s.K s.F) ⟨upF (upF (upF (upF q.F 13 (upd (q.F 13) i st)) 25 (upd (q.F 25) i 1)) 26 f26) 27 f27, q.n⟩ := by
  have hN := h.N200
  have t0 : (0 : Int32).toInt = 0 := by decide
  have t1 : (1 : Int32).toInt = 1 := by decide
  have hB := h.b i hi
  have s1 : st.toInt = 1 ↔ (q.F 13 i).toInt = 1 := by
    rcases hst with z | z
    · rw [z.2]; omega
    · rw [z.2] <;> rfl
  have s34 : ¬ (st.toInt = 3 ∨ st.toInt = 4) := by
    rcases hst with z | z
    · rw [z.2]; omega
    · rw [z.2]; exact ho
  have s2 : ¬ st.toInt = 2 := by
    rcases hst with z | z
    · rw [z.2]; omega
    · rw [z.2]; exact z.1
  have s04 : 0 ≤ st.toInt ∧ st.toInt ≤ 4 := by
    rcases hst with z | z
    · rw [z.2]; omega
    · rw [z.2]; exact hB.2.2.1
  refine ⟨h.u, h.z, h.l, (h.t.fG _ _ _ (by decide)).fG _ _ _ (by decide), (h.a.fG _ _ _ (by decide)).fG _ _ _ (by decide), ?_, ?_, ?_, ((h.e.nst i ho (st := st) s34).fG _ _ _ (by decide)).fG _ _ _ (by decide), h.f, ((h.g.nst i ho (st := st)).fG _ _ _ (by decide)).fG _ _ _ (by decide), (h.p.fG _ _ _ (by decide)).fG _ _ _ (by decide), (h.x.fG _ _ _ (by decide)).fG _ _ _ (by decide), h.j, (h.k.fG _ _ _ (by decide)).fG _ _ _ (by decide)⟩
  · have z := (h.b.fG i 8 1 (by decide)).st i (v := st) (t := q.F 18 i) s04 (fun w => hB.2.2.2.1 (s1.mp w)) (fun w => hB.2.2.2.2 (fun y => w (s1.mpr y)))
    rw [upd_id _ _ rfl] at z
    exact z
  · intro j hj
    have z := h.c j hj
    show u2 (u2 s.G i 8 1) i 2 st j 8 = upd (q.F 25) i 1 j ∧ ((upd (q.F 25) i 1 j).toInt = 0 ∨ (upd (q.F 25) i 1 j).toInt = 1) ∧ ((upd (q.F 25) i 1 j).toInt = 0 → (¬ (q.F 24 j).toInt = 0 ↔ ((upd (q.F 13) i st j).toInt = 2 ∨ ¬ (u2 (u2 s.G i 8 1) i 2 st j 9).toInt = 0))) ∧ ((upd (q.F 13) i st j).toInt = 2 → (upd (q.F 25) i 1 j).toInt = 0 ∧ (u2 (u2 s.G i 8 1) i 2 st j 9).toInt = 0) ∧ (((upd (q.F 13) i st j).toInt = 3 ∨ (upd (q.F 13) i st j).toInt = 4) → (upd (q.F 25) i 1 j).toInt = 0 ∧ (q.F 24 j).toInt = 0 ∧ (u2 (u2 s.G i 8 1) i 2 st j 9).toInt = 0) ∧ (_ → (u2 (u2 s.G i 8 1) i 2 st j 6).toInt < 24)
    rw [u2_n2 _ _ _ _ (show (8 : Nat) ≠ 2 by decide), u2_n2 _ _ _ _ (show (9 : Nat) ≠ 2 by decide), u2_n2 _ _ _ _ (show (9 : Nat) ≠ 8 by decide), u2_n2 _ _ _ _ (show (6 : Nat) ≠ 2 by decide), u2_n2 _ _ _ _ (show (6 : Nat) ≠ 8 by decide)]
    by_cases e : j = i
    · subst e
      rw [u2_eq, upd_s, upd_s]
      exact ⟨rfl, Or.inr t1, fun w => by omega, fun w => absurd w s2, fun w => absurd w s34, z.2.2.2.2.2⟩
    · rw [u2_n1 _ _ _ e, upd_n _ _ e, upd_n _ _ e]; exact z
  · intro j hj
    have z := h.d j hj
    have e12 : u2 (u2 s.G i 8 1) i 2 st j 12 = s.G j 12 := by rw [u2_n2 _ _ _ _ (by decide), u2_n2 _ _ _ _ (by decide)] <;> rfl
    have g15 := h.giver hj hr (by omega)
    refine ⟨fun w => ?_, fun g hg => ?_⟩
    · have w : s.K j 0 = none := w
      show (u2 (u2 s.G i 8 1) i 2 st j 12).toInt = 0 ∧ (f26 j).toInt = 0 ∧ (f27 j).toInt = 0
      have no : ¬ ((i < j ∧ j < (Int.toNat (Int32.toInt (s.n 0)))) ∧ (q.F 15 j).toInt = r.toInt ∧ ¬ (q.F 27 j).toInt = 0 ∧ ¬ (q.F 24 i).toInt = 0) := fun y => by
        have := g15.mp y.2.1
        rw [w] at this; cases this
      rw [e12, h26, h27, if_neg no, if_neg no]; exact z.1 w
    · have hg : s.K j 0 = some g := hg
      show ((u2 (u2 s.G i 8 1) i 2 st j 12).toInt = 0 ∧ (f26 j).toInt = 0 ∧ (f27 j).toInt = 0) ∨ ((u2 (u2 s.G i 8 1) i 2 st j 12).toInt = 1 ∧ ¬ (f27 j).toInt = 0 ∧ (f26 j).toInt = 0 ∧ (upd (q.F 25) i 1 g).toInt = 0 ∧ (¬ (q.F 24 g).toInt = 0 ∧ ((upd (q.F 13) i st g).toInt = 2 ∨ (upd (q.F 13) i st j).toInt = 3 ∨ (upd (q.F 13) i st j).toInt = 4))) ∨ ((u2 (u2 s.G i 8 1) i 2 st j 12).toInt = 1 ∧ (f27 j).toInt = 0 ∧ ¬ (f26 j).toInt = 0 ∧ ¬ (upd (q.F 25) i 1 g).toInt = 0) ∨ ((u2 (u2 s.G i 8 1) i 2 st j 12).toInt = 2 ∧ (f27 j).toInt = 0 ∧ ¬ (f26 j).toInt = 0)
      rw [e12, h26, h27]
      by_cases e : g = i
      · subst e
        have hl := ((h.a j hj).2.1.2.2.2 g hg).1
        rw [upd_s]
        rcases z.2 g hg with y | y | y | y
        · rw [if_neg (fun w => w.2.2.1 y.2.2), if_neg (fun w => w.2.2.1 y.2.2)]; exact Or.inl y
        · have yes : (g < j ∧ j < (Int.toNat (Int32.toInt (s.n 0)))) ∧ (q.F 15 j).toInt = r.toInt ∧ ¬ (q.F 27 j).toInt = 0 ∧ ¬ (q.F 24 g).toInt = 0 := ⟨⟨hl, hj⟩, g15.mpr hg, y.2.1, y.2.2.2.2.1⟩
          rw [if_pos yes, if_pos yes]; exact Or.inr (Or.inr (Or.inl ⟨y.1, t0, by omega, by omega⟩))
        · exact absurd ht y.2.2.2
        · rw [if_neg (fun w => w.2.2.1 y.2.1), if_neg (fun w => w.2.2.1 y.2.1)]; exact Or.inr (Or.inr (Or.inr y))
      · have no : ¬ ((i < j ∧ j < (Int.toNat (Int32.toInt (s.n 0)))) ∧ (q.F 15 j).toInt = r.toInt ∧ ¬ (q.F 27 j).toInt = 0 ∧ ¬ (q.F 24 i).toInt = 0) := fun y => by
          have := g15.mp y.2.1
          rw [hg] at this; cases this; exact e rfl
        rw [if_neg no, if_neg no, upd_n _ _ e, upd_n _ _ e]
        rcases z.2 g hg with y | y | y | y
        · exact Or.inl y
        · refine Or.inr (Or.inl ⟨y.1, y.2.1, y.2.2.1, y.2.2.2.1, y.2.2.2.2.1, ?_⟩)
          rcases y.2.2.2.2.2 with x | x
          · exact Or.inl x
          · rw [upd_n (q.F 13) (j := j) _ (show j ≠ i from fun e => by subst e; exact ho x)]; exact Or.inr x
        · exact Or.inr (Or.inr (Or.inl y))
        · exact Or.inr (Or.inr (Or.inr y))
theorem intr_loop (q : Q10) (N : Nat) {P : Q10 × Int32 → Prop} (hP : ∀ f26 f27 : Nat → Int32, (∀ a : Nat, f26 a = if (i < a ∧ a < N) ∧ (q.F 15 a).toInt = r.toInt ∧ ¬ (q.F 27 a).toInt = 0 then 1 else q.F 26 a) → (∀ a : Nat, f27 a = if (i < a ∧ a < N) ∧ (q.F 15 a).toInt = r.toInt ∧ ¬ (q.F 27 a).toInt = 0 then 0 else q.F 27 a) → P (⟨upF (upF q.F 26 f26) 27 f27, q.n⟩, 1)) (hi : i < N) : P (itr (b_intr r) (fun p => (p, 1)) (i + 1) (N - (i + 1)) q) := by
  refine itr_inv (P := P) (I := fun c (p : Q10) => i < c ∧ ∃ f26 f27 : Nat → Int32, p = ⟨upF (upF q.F 26 f26) 27 f27, q.n⟩ ∧ (∀ a : Nat, f26 a = if (i < a ∧ a < c) ∧ (q.F 15 a).toInt = r.toInt ∧ ¬ (q.F 27 a).toInt = 0 then 1 else q.F 26 a) ∧ ∀ a : Nat, f27 a = if (i < a ∧ a < c) ∧ (q.F 15 a).toInt = r.toInt ∧ ¬ (q.F 27 a).toInt = 0 then 0 else q.F 27 a) (N := N) ?_ ?_ _ (i + 1) q (by omega) ⟨by omega, q.F 26, q.F 27, by rw [upF_id, upF_id] <;> rfl, fun a => by rw [if_neg (fun w => by omega)] <;> rfl, fun a => by rw [if_neg (fun w => by omega)] <;> rfl⟩
  · intro p hI
    obtain ⟨ic, f26, f27, h1, h2, h3⟩ := hI
    rw [h1]
    exact hP f26 f27 h2 h3
  · intro c p k hc hI hk
    obtain ⟨ic, f26, f27, h1, h2, h3⟩ := hI
    rw [h1]
    unfold b_intr
    have n27 : f27 c = q.F 27 c := by rw [h3, if_neg (fun w => by omega)] <;> rfl
    show P (if (q.F 15 c).toInt = r.toInt ∧ ¬ (f27 c).toInt = 0 then k ⟨upF (upF (upF (upF q.F 26 f26) 27 f27) 26 (upd f26 c 1)) 27 (upd f27 c 0), q.n⟩ else k _)
    rw [n27]
    by_cases d : (q.F 15 c).toInt = r.toInt ∧ ¬ (q.F 27 c).toInt = 0
    · rw [if_pos d]
      · refine hk _ ⟨by omega, upd f26 c 1, upd f27 c 0, by rw [uc_26_27, upF_self, upF_self] <;> rfl, fun a => ?_, fun a => ?_⟩
        · by_cases e : a = c
          · subst e; rw [upd_s, if_pos ⟨⟨ic, by omega⟩, d⟩] <;> rfl
          · rw [upd_n _ _ e, h2]
            by_cases w : (i < a ∧ a < c) ∧ (q.F 15 a).toInt = r.toInt ∧ ¬ (q.F 27 a).toInt = 0
            · rw [if_pos w, if_pos ⟨⟨w.1.1, by omega⟩, w.2⟩] <;> rfl
            · rw [if_neg w, if_neg (fun y => w ⟨⟨y.1.1, by omega⟩, y.2⟩)] <;> rfl
        · by_cases e : a = c
          · subst e; rw [upd_s, if_pos ⟨⟨ic, by omega⟩, d⟩] <;> rfl
          · rw [upd_n _ _ e, h3]
            by_cases w : (i < a ∧ a < c) ∧ (q.F 15 a).toInt = r.toInt ∧ ¬ (q.F 27 a).toInt = 0
            · rw [if_pos w, if_pos ⟨⟨w.1.1, by omega⟩, w.2⟩] <;> rfl
            · rw [if_neg w, if_neg (fun y => w ⟨⟨y.1.1, by omega⟩, y.2⟩)] <;> rfl
    · rw [if_neg d]
      refine hk _ ⟨by omega, f26, f27, rfl, fun a => ?_, fun a => ?_⟩
      · rw [h2]
        by_cases w : (i < a ∧ a < c) ∧ (q.F 15 a).toInt = r.toInt ∧ ¬ (q.F 27 a).toInt = 0
        · rw [if_pos w, if_pos ⟨⟨w.1.1, by omega⟩, w.2⟩] <;> rfl
        · rw [if_neg w, if_neg (fun y => w ⟨⟨y.1.1, by
            have : a ≠ c := fun e => by subst e; exact d y.2
            omega⟩, y.2⟩)] <;> rfl
      · rw [h3]
        by_cases w : (i < a ∧ a < c) ∧ (q.F 15 a).toInt = r.toInt ∧ ¬ (q.F 27 a).toInt = 0
        · rw [if_pos w, if_pos ⟨⟨w.1.1, by omega⟩, w.2⟩] <;> rfl
        · rw [if_neg w, if_neg (fun y => w ⟨⟨y.1.1, by
            have : a ≠ c := fun e => by subst e; exact d y.2
            omega⟩, y.2⟩)] <;> rfl
theorem interrupt_sim (h : Rl R kp s q) (v : Int32) : Rl R kp (k_interrupt v s).1 (r_interrupt v q).1 ∧ (k_interrupt v s).2 = (r_interrupt v q).2 := by
  have hN := h.N200
  have hu := h.u
  have hu2 := hu.2.1
  have t0 : (0 : Int32).toInt = 0 := by decide
  unfold k_interrupt r_interrupt
  dsimp +instances only [c9n, c9f, c9T, c9G, c9K, c9F, q10F, q10n]
  rw [hu.1.1]
  by_cases c : 0 ≤ v.toInt ∧ v.toInt < (q.n 11).toInt
  · obtain ⟨i, hi⟩ : ∃ i : Nat, v.toInt = (i : Int) := ⟨v.toInt.toNat, by omega⟩
    have ji : (Int.toNat (Int32.toInt v)) = i := by omega
    have hiN : i < (Int.toNat (Int32.toInt (s.n 0))) := by rw [hu.1.1]; omega
    have e2 : s.G i 2 = q.F 13 i := (h.b i hiN).1
    have e8 : s.G i 8 = q.F 25 i := (h.c i hiN).1
    have i1 : Int32.toNatClampNeg (v + 1) = i + 1 := ix_nat (by rw [inc_toInt (by omega), hi]; omega)
    have e11 : Int32.toNatClampNeg (q.n 11) = (Int.toNat (Int32.toInt (s.n 0))) := by show (q.n 11).toInt.toNat = _; rw [hu.1.1]
    rw [ji, ix_nat hi, e2, e8]
    by_cases d : ¬ ((q.F 13 i).toInt = 3 ∨ (q.F 13 i).toInt = 4) ∧ (q.F 25 i).toInt = 0
    · have cc : 0 ≤ v.toInt ∧ v.toInt < (q.n 11).toInt ∧ ¬ ((q.F 13 i).toInt = 3 ∨ (q.F 13 i).toInt = 4) ∧ (q.F 25 i).toInt = 0 := ⟨c.1, c.2, d⟩
      rw [if_pos cc, if_pos cc]
      have g2 : u2 s.G i 8 1 i 2 = q.F 13 i := by rw [u2_n2 _ _ _ _ (by decide), e2] <;> rfl
      rw [g2]
      -- both ways of the state
      have fin : ∀ st : Int32, ((q.F 13 i).toInt = 2 ∧ st = 0 ∨ ¬ (q.F 13 i).toInt = 2 ∧ st = q.F 13 i) → Rl R kp (C9.mk s.n s.f s.T (u2 (u2 s.G i 8 1) i 2 st) s.K s.F) (f_intr v ⟨upF (upF q.F 13 (upd (q.F 13) i st)) 25 (upd (q.F 25) i 1), q.n⟩).1 ∧ (1 : Int32) = (f_intr v ⟨upF (upF q.F 13 (upd (q.F 13) i st)) 25 (upd (q.F 25) i 1), q.n⟩).2 := by
        intro st hst
        unfold f_intr
        rw [ix_nat hi, i1]
        show Rl R kp _ (if ¬ (q.F 24 i).toInt = 0 then itr (b_intr v) (fun p => (p, 1)) (i + 1) (Int32.toNatClampNeg (q.n 11) - (i + 1)) _ else _).1 ∧ (1 : Int32) = (if ¬ (q.F 24 i).toInt = 0 then itr (b_intr v) (fun p => (p, 1)) (i + 1) (Int32.toNatClampNeg (q.n 11) - (i + 1)) _ else _).2
        rw [e11]
        by_cases f : ¬ (q.F 24 i).toInt = 0
        · rw [if_pos f]
          refine intr_loop (i := i) (r := v) ⟨upF (upF q.F 13 (upd (q.F 13) i st)) 25 (upd (q.F 25) i 1), q.n⟩ ((Int.toNat (Int32.toInt (s.n 0)))) (P := fun p => Rl R kp (C9.mk s.n s.f s.T (u2 (u2 s.G i 8 1) i 2 st) s.K s.F) p.1 ∧ (1 : Int32) = p.2) (fun f26 f27 h26 h27 => ⟨?_, rfl⟩) hiN
          refine intr_rel h hiN hi d.1 d.2 hst (fun a => ?_) (fun a => ?_)
          · rw [h26]
            show (if (i < a ∧ a < (Int.toNat (Int32.toInt (s.n 0)))) ∧ (q.F 15 a).toInt = v.toInt ∧ ¬ (q.F 27 a).toInt = 0 then (1 : Int32) else q.F 26 a) = _
            by_cases w : (i < a ∧ a < (Int.toNat (Int32.toInt (s.n 0)))) ∧ (q.F 15 a).toInt = v.toInt ∧ ¬ (q.F 27 a).toInt = 0
            · rw [if_pos w, if_pos ⟨w.1, w.2.1, w.2.2, f⟩] <;> rfl
            · rw [if_neg w, if_neg (fun y => w ⟨y.1, y.2.1, y.2.2.1⟩)] <;> rfl
          · rw [h27]
            show (if (i < a ∧ a < (Int.toNat (Int32.toInt (s.n 0)))) ∧ (q.F 15 a).toInt = v.toInt ∧ ¬ (q.F 27 a).toInt = 0 then (0 : Int32) else q.F 27 a) = _
            by_cases w : (i < a ∧ a < (Int.toNat (Int32.toInt (s.n 0)))) ∧ (q.F 15 a).toInt = v.toInt ∧ ¬ (q.F 27 a).toInt = 0
            · rw [if_pos w, if_pos ⟨w.1, w.2.1, w.2.2, f⟩] <;> rfl
            · rw [if_neg w, if_neg (fun y => w ⟨y.1, y.2.1, y.2.2.1⟩)] <;> rfl
        · rw [if_neg f]
          refine ⟨?_, rfl⟩
          have z := intr_rel h hiN hi d.1 d.2 hst (f26 := q.F 26) (f27 := q.F 27) (fun a => by rw [if_neg (fun y => f y.2.2.2)] <;> rfl) (fun a => by rw [if_neg (fun y => f y.2.2.2)] <;> rfl)
          rw [upF_idg (show upF (upF q.F 13 (upd (q.F 13) i st)) 25 (upd (q.F 25) i 1) 26 = q.F 26 from rfl), upF_idg (show upF (upF q.F 13 (upd (q.F 13) i st)) 25 (upd (q.F 25) i 1) 27 = q.F 27 from rfl)] at z
          exact z
      by_cases f : (q.F 13 i).toInt = 2
      · rw [if_pos f, if_pos f]
        exact fin 0 (Or.inl ⟨f, rfl⟩)
      · rw [if_neg f, if_neg f]
        have z := fin (q.F 13 i) (Or.inr ⟨f, rfl⟩)
        rw [u2_same g2, upd_id (q.F 13) i rfl, upF_id] at z
        exact z
    · have cc : ¬ (0 ≤ v.toInt ∧ v.toInt < (q.n 11).toInt ∧ ¬ ((q.F 13 i).toInt = 3 ∨ (q.F 13 i).toInt = 4) ∧ (q.F 25 i).toInt = 0) := fun w => d w.2.2
      rw [if_neg cc, if_neg cc]; exact ⟨h, rfl⟩
  · rw [if_neg (fun w => c ⟨w.1, w.2.1⟩), if_neg (fun w => c ⟨w.1, w.2.1⟩)]; exact ⟨h, rfl⟩
end

/- ---------- submit ---------- -/
section
variable {R N : Nat} {kp : Int} {s : C9} {q : Q10} {i : Nat} {e v : Int32}
theorem openN_new (h : Rl R kp s q) (hN : N = (Int.toNat (Int32.toInt (s.n 0)))) (hN2 : N < 200) {s' : C9} (hs' : s' = k_openN e s) :
    NewC s s' N none e 0 0 ∧ RP (N + 1) s'.G s'.K ∧ s'.G N 0 = s.G N 0 ∧ ∀ j : Nat, j < 8 → s'.F N 2 j = s.f 1 j := by
  have hu := h.u
  have i0 : (s.n 0).toInt = (N : Int) := by have := hu.2.1; rw [← hu.1.1] at this; omega
  have hA := h.a
  rw [← hN] at hA
  have hP := h.p
  rw [← hN] at hP
  obtain ⟨b, hb⟩ : ∃ b : C9, b = k_begN N e s := ⟨_, rfl⟩
  have bn : b.n = s.n := by rw [hb]; rfl
  have bf : b.f = s.f := by rw [hb]; rfl
  have bT : b.T = s.T := by rw [hb]; rfl
  have bG : ∀ a : Nat, a ≠ N → b.G a = s.G a := fun a ha => by
    rw [hb]; unfold k_begN k_beg1 k_clrF sco k_kinN k_beg0
    dsimp +instances only [c9n, c9f, c9T, c9G, c9K, c9F, q10F, q10n]
    simp only [u2_n1 _ _ _ ha]
  have bK : ∀ a : Nat, a ≠ N → b.K a = s.K a := fun a ha => by
    rw [hb]; unfold k_begN k_beg1 k_clrF sco k_kinN k_beg0
    dsimp +instances only [c9n, c9f, c9T, c9G, c9K, c9F, q10F, q10n]
    simp only [u2_n1 _ _ _ ha]
  have bF : ∀ a : Nat, a ≠ N → b.F a = s.F a := fun a ha => by
    rw [hb]; unfold k_begN k_beg1 k_clrF sco k_kinN k_beg0
    dsimp +instances only [c9n, c9f, c9T, c9G, c9K, c9F, q10F, q10n]
    simp only [u2_n1 _ _ _ ha]
  have bF0 : ∀ j : Nat, j < 8 → b.F N 0 j = 0 := fun j hj => by
    rw [hb]; unfold k_begN k_beg1 k_clrF sco k_kinN k_beg0
    dsimp +instances only [c9n, c9f, c9T, c9G, c9K, c9F, q10F, q10n]
    rw [u2_n2 _ _ _ _ (by decide), u2_eq]
    unfold clr8
    rw [if_pos hj] <;> rfl
  have bKN : b.K N 0 = none ∧ b.K N 1 = none ∧ b.K N 2 = none ∧ b.K N 3 = none := by
    rw [hb]; unfold k_begN k_beg1 k_clrF sco k_kinN k_beg0
    dsimp +instances only [c9n, c9f, c9T, c9G, c9K, c9F, q10F, q10n]
    simp [u2_at]
  have bGN : (b.G N 0 = s.G N 0 ∧ b.G N 22 = s.G N 22) ∧ (b.G N 1 = e ∧ b.G N 2 = 0 ∧ b.G N 3 = -1 ∧ b.G N 4 = 0 ∧ b.G N 5 = 0 ∧ b.G N 6 = 0 ∧ b.G N 7 = -1 ∧ b.G N 8 = 0 ∧ b.G N 9 = 0) ∧ (b.G N 10 = 0 ∧ b.G N 12 = 0 ∧ b.G N 14 = 0 ∧ b.G N 15 = 0 ∧ b.G N 16 = 0 ∧ b.G N 23 = 0) ∧ b.G N 13 = 0 := by
    rw [hb]; unfold k_begN k_beg1 k_clrF sco k_kinN k_beg0
    dsimp +instances only [c9n, c9f, c9T, c9G, c9K, c9F, q10F, q10n]
    simp [u2_at]
  have sp : ∃ F' : Nat → Nat → Nat → Int32, s' = ⟨u1 s.n 0 (s.n 0 + 1), s.f, s.T, b.G, b.K, F'⟩ ∧ (∀ a : Nat, a ≠ N → F' a = s.F a) ∧ (∀ j : Nat, j < 8 → F' N 0 j = 0) ∧ ∀ j : Nat, j < 8 → F' N 2 j = s.f 1 j := by
    rw [hs']
    unfold k_openN
    rw [if_pos (by omega), ← hN, ← hb]
    refine itr_inv (P := fun r : C9 => ∃ F' : Nat → Nat → Nat → Int32, r = ⟨u1 s.n 0 (s.n 0 + 1), s.f, s.T, b.G, b.K, F'⟩ ∧ (∀ a : Nat, a ≠ N → F' a = s.F a) ∧ (∀ j : Nat, j < 8 → F' N 0 j = 0) ∧ ∀ j : Nat, j < 8 → F' N 2 j = s.f 1 j)
      (I := fun c (r : C9) => ∃ F' : Nat → Nat → Nat → Int32, r = ⟨s.n, s.f, s.T, b.G, b.K, F'⟩ ∧ (∀ a : Nat, a ≠ N → F' a = s.F a) ∧ (∀ j : Nat, j < 8 → F' N 0 j = 0) ∧ ∀ j : Nat, j < 8 → j < c → F' N 2 j = s.f 1 j) (N := 8) ?_ ?_ 8 0 _ rfl ⟨b.F, by rw [← bn, ← bf, ← bT] <;> rfl, bF, bF0, fun j _ h => by omega⟩
    · intro r hr'
      obtain ⟨F', e1, e2, e3, e4⟩ := hr'
      exact ⟨F', by rw [e1]; rfl, e2, e3, fun j hj => e4 j hj hj⟩
    · intro c r k hc hI hk
      obtain ⟨F', e1, e2, e3, e4⟩ := hI
      unfold b_giveN
      rw [e1]
      refine hk _ ⟨u2 F' N 2 (st8 (F' N 2) (Int32.ofNat c) (s.f 1 c)), rfl, fun a ha => by rw [u2_n1 _ _ _ ha]; exact e2 a ha, fun j hj => by rw [u2_n2 _ _ _ _ (by decide)]; exact e3 j hj, fun j hj hjc => ?_⟩
      rw [u2_eq, st8_eq (ofNat_toInt (by omega)) hc]
      by_cases ej : j = c
      · subst ej; rw [upd_s] <;> rfl
      · rw [upd_n _ _ ej]; exact e4 j hj (by omega)
  obtain ⟨F', o1, o2, o3, o4⟩ := sp
  refine ⟨⟨by rw [o1] <;> rfl, by rw [o1] <;> rfl, by rw [o1] <;> rfl, fun a b' ha _ => by rw [o1]; show b.G a b' = _; rw [bG a ha] <;> rfl, by rw [o1]; exact bGN.1, by rw [o1]; exact bGN.2.1, by rw [o1]; exact bGN.2.2.1, fun a ha => by rw [o1]; show b.K a 0 = _ ∧ b.K a 1 = _; rw [bK a ha]; exact ⟨rfl, rfl⟩, by rw [o1]; exact ⟨bKN.1, bKN.2.1⟩, fun a ha => by rw [o1]; exact o2 a ha, fun j hj => by rw [o1]; exact o3 j hj⟩, ?_, by rw [o1]; exact bGN.1.1, fun j hj => by rw [o1]; exact o4 j hj⟩
  rw [o1]
  exact RP.snocN hP (fun j g hj hg => ((hA j hj).2.1.2.2.2 g hg).1) bK bKN.1 bKN.2.2.1 bKN.2.2.2 (fun a ha => by show b.G a 13 = s.G a 13; rw [bG a ha] <;> rfl) bGN.2.2.2
theorem submit_sim (h : Rl R kp s q) (v : Int32) : Rl R kp (k_submit v s).1 (r_submit v q).1 ∧ (k_submit v s).2 = (r_submit v q).2 := by
  have hu := h.u
  have hu2 := hu.2.1
  have t0 : (0 : Int32).toInt = 0 := by decide
  unfold k_submit r_submit
  by_cases c : 0 ≤ v.toInt ∧ v.toInt < 8
  · rw [if_pos c]
    dsimp +instances only [c9n, c9f, c9T, c9G, c9K, c9F, q10F, q10n]
    by_cases d : (s.n 0).toInt < 200
    · rw [if_pos d]
      have d' : (q.n 11).toInt < 200 := by rw [← hu.1.1]; exact d
      rw [if_pos ⟨c.1, c.2, by omega⟩]
      obtain ⟨N, hN⟩ : ∃ N : Nat, N = (Int.toNat (Int32.toInt (s.n 0))) := ⟨_, rfl⟩
      have n11 : (q.n 11).toInt = (N : Int) := by rw [hN, hu.1.1]; omega
      obtain ⟨q', c1, c2, c4⟩ := comesN (e := v) n11 (by omega)
      obtain ⟨s', hs'⟩ : ∃ s' : C9, s' = k_openN v s := ⟨_, rfl⟩
      obtain ⟨o1, o2, o3, o4⟩ := openN_new h hN (by omega) hs'
      rw [c1, ← hs', ← hN]
      refine ⟨?_, ?_⟩
      · refine (new_sim h hN (by omega) o1 c2 c (fun g hg => by cases hg) (fun _ => ⟨t0, t0⟩) (Or.inl t0) o2 (fun j hj => ?_)).bkm (fun g c z => z.elim (fun y => absurd t0 y.2) id)
        rw [o4 j hj, c4 j hj]
        exact (h.z.1 j hj).2.1
      · show s'.G N 0 = q.n 11
        rw [o3, (h.k N).1]
        exact i_of n11
    · rw [if_neg d]
      have d' : (q.n 11).toInt = 200 := by rw [hu.1.1] at d; omega
      rw [if_neg (fun w => w.2.2 d')]
      have ko : k_openN v s = s := by unfold k_openN; rw [if_neg d]
      rw [ko]; exact ⟨h, rfl⟩
  · rw [if_neg c, if_neg (fun w => c ⟨w.1, w.2.1⟩)]; exact ⟨h, rfl⟩
end

/- ---------- what is set up ---------- -/
section
variable {R : Nat} {kp : Int} {s s' : C9} {q q' : Q10} {n : Nat → Int32} {f : Nat → Nat → Int32} {a0 a1 a2 a3 a4 a5 a6 a7 a8 : Nat → Int32}
def Zero (kp : Int) (s : C9) (q : Q10) : Prop := (RU kp s.n q.n) ∧ (RZ s.n s.f (q.F 0) (q.F 1) (q.F 2) (q.F 3) (q.F 4) (q.F 5) (q.F 6) (q.F 7) (q.F 8)) ∧ (RLg s.n s.f q.n (q.F 49) (q.F 50) (q.F 51) (q.F 52) (q.F 55) (q.F 56) (q.F 57) (q.F 58) (q.F 59)) ∧ ((Int.toNat (Int32.toInt (s.n 0))) = 0) ∧ (∀ t : Nat, s.T t = none) ∧ (∀ t : Nat, t < 6 → q.F 10 t = -1) ∧ ((q.n 46).toInt = 0) ∧ ((q.n 47).toInt ≤ 0) ∧ (RN s.G)
theorem Zero.u {kp : Int} {s : C9} {q : Q10} (hh_ : Zero kp s q) : RU kp s.n q.n := hh_.1
theorem Zero.z {kp : Int} {s : C9} {q : Q10} (hh_ : Zero kp s q) : RZ s.n s.f (q.F 0) (q.F 1) (q.F 2) (q.F 3) (q.F 4) (q.F 5) (q.F 6) (q.F 7) (q.F 8) := hh_.2.1
theorem Zero.l {kp : Int} {s : C9} {q : Q10} (hh_ : Zero kp s q) : RLg s.n s.f q.n (q.F 49) (q.F 50) (q.F 51) (q.F 52) (q.F 55) (q.F 56) (q.F 57) (q.F 58) (q.F 59) := hh_.2.2.1
theorem Zero.N {kp : Int} {s : C9} {q : Q10} (hh_ : Zero kp s q) : (Int.toNat (Int32.toInt (s.n 0))) = 0 := hh_.2.2.2.1
theorem Zero.T {kp : Int} {s : C9} {q : Q10} (hh_ : Zero kp s q) : ∀ t : Nat, s.T t = none := hh_.2.2.2.2.1
theorem Zero.t {kp : Int} {s : C9} {q : Q10} (hh_ : Zero kp s q) : ∀ t : Nat, t < 6 → q.F 10 t = -1 := hh_.2.2.2.2.2.1
theorem Zero.w {kp : Int} {s : C9} {q : Q10} (hh_ : Zero kp s q) : (q.n 46).toInt = 0 := hh_.2.2.2.2.2.2.1
theorem Zero.h {kp : Int} {s : C9} {q : Q10} (hh_ : Zero kp s q) : (q.n 47).toInt ≤ 0 := hh_.2.2.2.2.2.2.2.1
theorem Zero.k {kp : Int} {s : C9} {q : Q10} (hh_ : Zero kp s q) : RN s.G := hh_.2.2.2.2.2.2.2.2
theorem Zero.rel (z : Zero kp s q) : Rl R kp s q := by
  have hN := z.N
  refine ⟨z.u, z.z, z.l, ?_, ?_, ?_, ?_, ?_, ?_, ?_, ?_, ?_, ?_, ?_, z.k⟩
  · exact ⟨fun t ht => by rw [z.T t, z.t t ht]; rfl, fun t i e => (by rw [z.T t] at e; cases e), fun i hi => by omega⟩
  · intro i hi; omega
  · intro i hi; omega
  · intro i hi; omega
  · intro i hi; omega
  · intro i hi; omega
  · intro i j hi; omega
  · intro i hi; omega
  · intro i hi; omega
  · exact ⟨by rw [z.w]; omega, fun k hk => by rw [z.w] at hk; omega, fun i hi => by omega⟩
  · show (q.n 47).toInt ≤ 3 * (cU9 (q.F 32) ((Int.toNat (Int32.toInt (s.n 0)))) : Int)
    rw [hN]; exact z.h
theorem Rel.zero (h : Rl R kp s q) (h0 : (Int.toNat (Int32.toInt (s.n 0))) = 0) : Zero kp s q := by
  have hT : ∀ t : Nat, s.T t = none := fun t => by
    cases e : s.T t with
    | none => rfl
    | some i => have := (h.t.2.1 t i e).1; omega
  refine ⟨h.u, h.z, h.l, h0, hT, fun t ht => ?_, ?_, ?_, h.k⟩
  · have := h.t.1 t ht
    rw [hT t] at this
    exact this.symm
  · have hx := h.x
    rw [h0] at hx
    have := hx.2.1 0
    have := hx.1.1
    omega
  · have := h.j
    rw [h0] at this
    exact this
theorem RZ.slot (h : RZ n f a0 a1 a2 a3 a4 a5 a6 a7 a8) (j : Nat) {b c : Int32} (hb : 0 ≤ b.toInt ∧ b.toInt ≤ 4) : RZ n (u1 (u1 f 0 (upd (f 0) j b)) 1 (upd (f 1) j c)) (upd a0 j b) (upd a1 j c) a2 a3 a4 a5 a6 a7 a8 := by
  refine ⟨fun k hk => ?_, fun e k he hk => ?_, fun k hk => ?_⟩
  · obtain ⟨z1, z2, z3, z4, z5, z6⟩ := h.1 k hk
    rw [u1_ne _ _ (show (0 : Nat) ≠ 1 by decide), u1_eq, u1_eq]
    by_cases e : k = j
    · subst e; rw [upd_s, upd_s, upd_s, upd_s]; exact ⟨rfl, rfl, z3, z4, z5, hb⟩
    · rw [upd_n _ _ e, upd_n _ _ e, upd_n _ _ e, upd_n _ _ e]; exact ⟨z1, z2, z3, z4, z5, z6⟩
  · rw [u1_ne _ _ (show 2 + 3 * e ≠ 1 by omega), u1_ne _ _ (show 2 + 3 * e ≠ 0 by omega), u1_ne _ _ (show 3 + 3 * e ≠ 1 by omega), u1_ne _ _ (show 3 + 3 * e ≠ 0 by omega), u1_ne _ _ (show 4 + 3 * e ≠ 1 by omega), u1_ne _ _ (show 4 + 3 * e ≠ 0 by omega)]
    exact h.2.1 e k he hk
  · rw [u1_ne _ _ (show (26 : Nat) ≠ 1 by decide), u1_ne _ _ (show (26 : Nat) ≠ 0 by decide), u1_ne _ _ (show (28 : Nat) ≠ 1 by decide), u1_ne _ _ (show (28 : Nat) ≠ 0 by decide), u1_ne _ _ (show (27 : Nat) ≠ 1 by decide), u1_ne _ _ (show (27 : Nat) ≠ 0 by decide)]
    exact h.2.2 k hk
theorem RZ.first (h : RZ n f a0 a1 a2 a3 a4 a5 a6 a7 a8) (j : Nat) (hj : j < 8) {c : Int32} : RZ n (u1 f 1 (upd (f 1) j c)) a0 (upd a1 j c) a2 a3 a4 a5 a6 a7 a8 := by
  have z := h.slot j (b := a0 j) (c := c) (h.1 j hj).2.2.2.2.2
  have e1 : upd (f 0) j (a0 j) = f 0 := upd_id _ _ (h.1 j hj).1
  rw [e1, u1_id, upd_id a0 j rfl] at z
  exact z
theorem RZ.step (h : RZ n f a0 a1 a2 a3 a4 a5 a6 a7 a8) {e m : Nat} (he : e < 8) (hm : (a2 e).toInt = (m : Int)) (h24 : m < 24) {o a b : Int32} (ho : 0 ≤ o.toInt ∧ o.toInt ≤ 12) (h5 : o.toInt ≤ 5 → 0 ≤ a.toInt ∧ a.toInt < 8) (h8 : o.toInt = 8 → 0 ≤ a.toInt ∧ a.toInt < 4) (h9 : o.toInt = 9 → (m : Int) < b.toInt ∧ b.toInt ≤ 24) :
    RZ (u1 n (6 + e) (a2 e + 1)) (u1 (u1 (u1 f (2 + 3 * e) (upd (f (2 + 3 * e)) m o)) (3 + 3 * e) (upd (f (3 + 3 * e)) m a)) (4 + 3 * e) (upd (f (4 + 3 * e)) m b)) a0 a1 (upd a2 e (a2 e + 1)) (upd a3 (24 * e + m) o) (upd a4 (24 * e + m) a) (upd a5 (24 * e + m) b) a6 a7 a8 := by
  have hi : (a2 e + 1).toInt = (a2 e).toInt + 1 := inc_toInt (by omega)
  refine ⟨fun k hk => ?_, fun d k hd hk => ?_, fun k hk => ?_⟩
  · obtain ⟨z1, z2, z3, z4, z5, z6⟩ := h.1 k hk
    rw [u1_ne _ _ (show (0 : Nat) ≠ 4 + 3 * e by omega), u1_ne _ _ (show (0 : Nat) ≠ 3 + 3 * e by omega), u1_ne _ _ (show (0 : Nat) ≠ 2 + 3 * e by omega), u1_ne _ _ (show (1 : Nat) ≠ 4 + 3 * e by omega), u1_ne _ _ (show (1 : Nat) ≠ 3 + 3 * e by omega), u1_ne _ _ (show (1 : Nat) ≠ 2 + 3 * e by omega)]
    by_cases c : k = e
    · subst c; rw [u1_eq, upd_s]; exact ⟨z1, z2, rfl, by omega, by omega, z6⟩
    · rw [u1_ne _ _ (show 6 + k ≠ 6 + e by omega), upd_n _ _ c]; exact ⟨z1, z2, z3, z4, z5, z6⟩
  · have z := h.2.1 d k hd hk
    by_cases c : d = e
    · subst c
      rw [u1_ne _ _ (show 2 + 3 * d ≠ 4 + 3 * d by omega), u1_ne _ _ (show 2 + 3 * d ≠ 3 + 3 * d by omega), u1_eq, u1_ne _ _ (show 3 + 3 * d ≠ 4 + 3 * d by omega), u1_eq, u1_eq]
      by_cases c2 : k = m
      · subst c2; rw [upd_s, upd_s, upd_s, upd_s, upd_s, upd_s]; exact ⟨⟨rfl, rfl, rfl⟩, ho, h5, h8, h9⟩
      · rw [upd_n _ _ c2, upd_n _ _ c2, upd_n _ _ c2, upd_n _ _ (show 24 * d + k ≠ 24 * d + m by omega), upd_n _ _ (show 24 * d + k ≠ 24 * d + m by omega), upd_n _ _ (show 24 * d + k ≠ 24 * d + m by omega)]; exact z
    · rw [u1_ne _ _ (show 2 + 3 * d ≠ 4 + 3 * e by omega), u1_ne _ _ (show 2 + 3 * d ≠ 3 + 3 * e by omega), u1_ne _ _ (show 2 + 3 * d ≠ 2 + 3 * e by omega), u1_ne _ _ (show 3 + 3 * d ≠ 4 + 3 * e by omega), u1_ne _ _ (show 3 + 3 * d ≠ 3 + 3 * e by omega), u1_ne _ _ (show 3 + 3 * d ≠ 2 + 3 * e by omega), u1_ne _ _ (show 4 + 3 * d ≠ 4 + 3 * e by omega), u1_ne _ _ (show 4 + 3 * d ≠ 3 + 3 * e by omega), u1_ne _ _ (show 4 + 3 * d ≠ 2 + 3 * e by omega), upd_n _ _ (show 24 * d + k ≠ 24 * e + m by omega), upd_n _ _ (show 24 * d + k ≠ 24 * e + m by omega), upd_n _ _ (show 24 * d + k ≠ 24 * e + m by omega)]; exact z
  · rw [u1_ne _ _ (show (26 : Nat) ≠ 4 + 3 * e by omega), u1_ne _ _ (show (26 : Nat) ≠ 3 + 3 * e by omega), u1_ne _ _ (show (26 : Nat) ≠ 2 + 3 * e by omega), u1_ne _ _ (show (28 : Nat) ≠ 4 + 3 * e by omega), u1_ne _ _ (show (28 : Nat) ≠ 3 + 3 * e by omega), u1_ne _ _ (show (28 : Nat) ≠ 2 + 3 * e by omega), u1_ne _ _ (show (27 : Nat) ≠ 4 + 3 * e by omega), u1_ne _ _ (show (27 : Nat) ≠ 3 + 3 * e by omega), u1_ne _ _ (show (27 : Nat) ≠ 2 + 3 * e by omega)]
    exact h.2.2 k hk
theorem RZ.hand (h : RZ n f a0 a1 a2 a3 a4 a5 a6 a7 a8) (j : Nat) (v t : Int32) : RZ n (u1 (u1 (u1 f 26 (upd (f 26) j 1)) 27 (upd (f 27) j v)) 28 (upd (f 28) j t)) a0 a1 a2 a3 a4 a5 (upd a6 j 1) (upd a7 j t) (upd a8 j v) := by
  refine ⟨fun k hk => ?_, fun e k he hk => ?_, fun k hk => ?_⟩
  · rw [u1_ne _ _ (show (0 : Nat) ≠ 28 by decide), u1_ne _ _ (show (0 : Nat) ≠ 27 by decide), u1_ne _ _ (show (0 : Nat) ≠ 26 by decide), u1_ne _ _ (show (1 : Nat) ≠ 28 by decide), u1_ne _ _ (show (1 : Nat) ≠ 27 by decide), u1_ne _ _ (show (1 : Nat) ≠ 26 by decide)]
    exact h.1 k hk
  · rw [u1_ne _ _ (show 2 + 3 * e ≠ 28 by omega), u1_ne _ _ (show 2 + 3 * e ≠ 27 by omega), u1_ne _ _ (show 2 + 3 * e ≠ 26 by omega), u1_ne _ _ (show 3 + 3 * e ≠ 28 by omega), u1_ne _ _ (show 3 + 3 * e ≠ 27 by omega), u1_ne _ _ (show 3 + 3 * e ≠ 26 by omega), u1_ne _ _ (show 4 + 3 * e ≠ 28 by omega), u1_ne _ _ (show 4 + 3 * e ≠ 27 by omega), u1_ne _ _ (show 4 + 3 * e ≠ 26 by omega)]
    exact h.2.1 e k he hk
  · have z := h.2.2 k hk
    rw [u1_ne _ _ (show (26 : Nat) ≠ 28 by decide), u1_ne _ _ (show (26 : Nat) ≠ 27 by decide), u1_eq, u1_eq, u1_ne _ _ (show (27 : Nat) ≠ 28 by decide), u1_eq]
    by_cases e : k = j
    · subst e; rw [upd_s, upd_s, upd_s, upd_s, upd_s, upd_s]; exact ⟨rfl, rfl, rfl⟩
    · rw [upd_n _ _ e, upd_n _ _ e, upd_n _ _ e, upd_n _ _ e, upd_n _ _ e, upd_n _ _ e]; exact z
theorem slot_sim (h : Rl R kp s q) (a b c : Int32) : Rl R kp (k_slot a b c s).1 (r_slot a b c q).1 ∧ (k_slot a b c s).2 = (r_slot a b c q).2 := by
  have hu := h.u
  unfold k_slot r_slot
  rw [hu.1.1]
  by_cases d : 0 ≤ a.toInt ∧ a.toInt < 8 ∧ 0 ≤ b.toInt ∧ b.toInt ≤ 4 ∧ (q.n 11).toInt ≤ 0
  · rw [if_pos d, if_pos d]
    have ea : Int32.toNatClampNeg a = (Int.toNat (Int32.toInt a)) := rfl
    have z := h.zero (by rw [hu.1.1]; omega)
    refine ⟨Zero.rel ?_, rfl⟩
    rw [ea]
    exact ⟨z.u, z.z.slot ((Int.toNat (Int32.toInt a))) ⟨d.2.2.1, d.2.2.2.1⟩, (z.l.ff 0 _ (by decide)).ff 1 _ (by decide), z.N, z.T, z.t, z.w, z.h, z.k⟩
  · rw [if_neg d, if_neg d]; exact ⟨h, rfl⟩
theorem first_sim (h : Rl R kp s q) (a b : Int32) : Rl R kp (k_first a b s).1 (r_first a b q).1 ∧ (k_first a b s).2 = (r_first a b q).2 := by
  unfold k_first r_first
  by_cases d : 0 ≤ a.toInt ∧ a.toInt < 8
  · rw [if_pos d, if_pos d]
    have ea : Int32.toNatClampNeg a = (Int.toNat (Int32.toInt a)) := rfl
    rw [ea]
    exact ⟨⟨h.u, h.z.first ((Int.toNat (Int32.toInt a))) (by omega), h.l.ff 1 _ (by decide), h.t, h.a, h.b, h.c, h.d, h.e, h.f, h.g, h.p, h.x, h.j, h.k⟩, rfl⟩
  · rw [if_neg d, if_neg d]; exact ⟨h, rfl⟩
theorem threads_sim (h : Rl R kp s q) (v : Int32) : Rl R kp (k_threads v s).1 (r_threads v q).1 ∧ (k_threads v s).2 = (r_threads v q).2 := by
  have hu := h.u
  unfold k_threads r_threads
  rw [hu.1.1]
  by_cases d : 1 ≤ v.toInt ∧ v.toInt ≤ 6 ∧ (q.n 11).toInt ≤ 0
  · rw [if_pos d, if_pos d]
    refine ⟨⟨?_, h.z.fn 1 v (by omega), h.l.fn 1 v (by decide), h.t, h.a, h.b, h.c, h.d, h.e, h.f, h.g, h.p, h.x, h.j, h.k⟩, rfl⟩
    exact ⟨⟨hu.1.1, rfl, hu.1.2.2⟩, hu.2.1, ⟨d.1, d.2.1⟩, hu.2.2.2⟩
  · rw [if_neg d, if_neg d]; exact ⟨h, rfl⟩
theorem handler_sim (h : Rl R kp s q) (l o v t : Int32) (ht : vp_nar .boolean t = t) : Rl R kp (k_handler l o v t s).1 (r_handler l o v t q).1 ∧ (k_handler l o v t s).2 = (r_handler l o v t q).2 := by
  have tm : (-1 : Int32).toInt = -1 := by decide
  have t16 : (16 : Int32).toInt = 16 := by decide
  have go : ∀ x : Int32, 0 ≤ x.toInt → x.toInt < 17 → Rl R kp (C9.mk s.n (u1 (u1 (u1 s.f 26 (st17 (s.f 26) x 1)) 27 (st17 (s.f 27) x v)) 28 (st17 (s.f 28) x t)) s.T s.G s.K s.F) (h10 q x v t) := by
    intro x h1 h2
    unfold st17 h10
    rw [if_pos ⟨h1, h2⟩, if_pos ⟨h1, h2⟩, if_pos ⟨h1, h2⟩, ht]
    exact ⟨h.u, h.z.hand _ v t, ((h.l.ff 26 _ (by decide)).ff 27 _ (by decide)).ff 28 _ (by decide), h.t, h.a, h.b, h.c, h.d, h.e, h.f, h.g, h.p, h.x, h.j, h.k⟩
  unfold k_handler r_handler
  by_cases c2 : l.toInt = 2
  · have e : hx32 l o = 16 := by unfold hx32; rw [if_pos c2]
    rw [e, if_neg (by omega), if_pos c2]
    exact ⟨go 16 (by omega) (by omega), rfl⟩
  · rw [if_neg c2]
    by_cases c0 : l.toInt = 0 ∧ 0 ≤ o.toInt ∧ o.toInt < 8
    · have e : hx32 l o = o := by unfold hx32; rw [if_neg c2, if_pos c0]
      have el : l = 0 := i_inj c0.1
      rw [e, if_neg (by omega), if_pos ⟨Or.inl c0.1, c0.2⟩, el]
      have e2 : (8 * 0 + o : Int32) = o := by simp
      rw [e2]
      exact ⟨go o c0.2.1 (by omega), rfl⟩
    · by_cases c1 : l.toInt = 1 ∧ 0 ≤ o.toInt ∧ o.toInt < 8
      · have e : hx32 l o = 8 + o := by unfold hx32; rw [if_neg c2, if_neg c0, if_pos c1]
        have el : l = 1 := i_inj c1.1
        have e8 : (8 + o : Int32).toInt = 8 + o.toInt := ar_add (by decide) rfl rfl (by omega)
        rw [e, if_neg (by omega), if_pos ⟨Or.inr c1.1, c1.2⟩, el]
        have e2 : (8 * 1 + o : Int32) = 8 + o := by simp
        rw [e2]
        exact ⟨go (8 + o) (by omega) (by omega), rfl⟩
      · have e : hx32 l o = -1 := by unfold hx32; rw [if_neg c2, if_neg c0, if_neg c1]
        rw [e, if_pos tm, if_neg (fun w => w.1.elim (fun y => c0 ⟨y, w.2⟩) (fun y => c1 ⟨y, w.2⟩))]
        exact ⟨h, rfl⟩
end

/- ---------- step, anew ---------- -/
section
variable {R : Nat} {kp : Int} {s : C9} {q : Q10}
theorem fits_iff (o a b t : Int) : fits o a b t ↔ fits10 o a b t := by
  unfold fits fits10
  constructor
  · rintro (⟨ho, h⟩ | h | h | h | h | h | h | h | h | h)
    · exact Or.inl ⟨by omega, by omega, h⟩
    · exact Or.inr (Or.inl h)
    · exact Or.inr (Or.inr (Or.inl h))
    · exact Or.inr (Or.inr (Or.inr (Or.inl h)))
    · exact Or.inr (Or.inr (Or.inr (Or.inr (Or.inl h))))
    · exact Or.inr (Or.inr (Or.inr (Or.inr (Or.inr (Or.inl h)))))
    · exact Or.inr (Or.inr (Or.inr (Or.inr (Or.inr (Or.inr (Or.inl h))))))
    · exact Or.inr (Or.inr (Or.inr (Or.inr (Or.inr (Or.inr (Or.inr ⟨by omega, by omega⟩))))))
    · exact Or.inr (Or.inr (Or.inr (Or.inr (Or.inr (Or.inr (Or.inr ⟨by omega, by omega⟩))))))
    · exact Or.inr (Or.inr (Or.inr (Or.inr (Or.inr (Or.inr (Or.inr ⟨by omega, by omega⟩))))))
  · rintro (⟨h1, h2, h⟩ | h | h | h | h | h | h | ⟨h1, h2⟩)
    · exact Or.inl ⟨by omega, h⟩
    · exact Or.inr (Or.inl h)
    · exact Or.inr (Or.inr (Or.inl h))
    · exact Or.inr (Or.inr (Or.inr (Or.inl h)))
    · exact Or.inr (Or.inr (Or.inr (Or.inr (Or.inl h))))
    · exact Or.inr (Or.inr (Or.inr (Or.inr (Or.inr (Or.inl h)))))
    · exact Or.inr (Or.inr (Or.inr (Or.inr (Or.inr (Or.inr (Or.inl h))))))
    · exact Or.inr (Or.inr (Or.inr (Or.inr (Or.inr (Or.inr (Or.inr (by omega)))))))
theorem stepIn_sim (h : Rl R kp s q) (v o a b : Int32) : Rl R kp (k_stepIn v o a b s).1 (r_step v o a b q).1 ∧ (k_stepIn v o a b s).2 = (r_step v o a b q).2 := by
  have hu := h.u
  unfold k_stepIn r_step
  by_cases c : 0 ≤ v.toInt ∧ v.toInt < 8
  · obtain ⟨e, he⟩ : ∃ e : Nat, v.toInt = (e : Int) := ⟨v.toInt.toNat, by omega⟩
    have je : (Int.toNat (Int32.toInt v)) = e := by omega
    have ze := h.z.1 e (by omega)
    have n6 : s.n (6 + e) = q.F 2 e := ze.2.2.1
    rw [hu.1.1, je, ix_nat he, n6]
    obtain ⟨m, hm⟩ : ∃ m : Nat, (q.F 2 e).toInt = (m : Int) := ⟨(q.F 2 e).toInt.toNat, by omega⟩
    by_cases d : (q.n 11).toInt ≤ 0 ∧ (q.F 2 e).toInt < 24
    · rw [if_pos (show 0 ≤ v.toInt ∧ v.toInt < 8 ∧ (q.n 11).toInt ≤ 0 ∧ ¬ (q.F 2 e).toInt = 24 from ⟨c.1, c.2, d.1, by omega⟩)]
      by_cases f : fits o.toInt a.toInt b.toInt (q.F 2 e).toInt
      · rw [if_pos (show 0 ≤ v.toInt ∧ v.toInt < 8 ∧ (q.n 11).toInt ≤ 0 ∧ (q.F 2 e).toInt < 24 ∧ fits o.toInt a.toInt b.toInt (q.F 2 e).toInt from ⟨c.1, c.2, d.1, d.2, f⟩), if_pos ((fits_iff _ _ _ _).mp f)]
        have i24 := (ix24 (s := q.F 2 e) (j := m) he (by omega) hm (by omega)).1
        have sd : k_sadd e o a b s = (C9.mk (u1 s.n (6 + e) (q.F 2 e + 1)) (u1 (u1 (u1 s.f (2 + 3 * e) (upd (s.f (2 + 3 * e)) m o)) (3 + 3 * e) (upd (s.f (3 + 3 * e)) m a)) (4 + 3 * e) (upd (s.f (4 + 3 * e)) m b)) s.T s.G s.K s.F) := by
          unfold k_sadd bnN bnF
          rw [n6, if_pos (by omega), if_pos (by omega), if_pos (by omega), if_pos (by omega), ix_nat hm] <;> rfl
        dsimp +instances only [c9n, c9f, c9T, c9G, c9K, c9F, q10F, q10n]
        rw [sd, i24]
        have z := h.zero (by rw [hu.1.1]; omega)
        refine ⟨Zero.rel ?_, ?_⟩
        · have hz := z.z.step (e := e) (m := m) (by omega) hm (by omega) (o := o) (a := a) (b := b) (by unfold fits at f; omega) (fun w => by unfold fits at f; omega) (fun w => by unfold fits at f; omega) (fun w => by unfold fits at f; omega)
          refine ⟨z.u.fn _ _ (fun b hb => by simp at hb; omega), hz, ?_, ?_, z.T, z.t, z.w, z.h, z.k⟩
          · exact (((z.l.fn _ _ (fun b hb => by simp at hb; omega)).ff _ _ (fun b hb => by simp at hb; omega)).ff _ _ (fun b hb => by simp at hb; omega)).ff _ _ (fun b hb => by simp at hb; omega)
          · show (Int.toNat (Int32.toInt (u1 s.n (6 + e) (q.F 2 e + 1) 0))) = 0
            rw [u1_ne _ _ (by omega)]; exact z.N
        · show u1 s.n (6 + e) (q.F 2 e + 1) (6 + e) = _
          rw [u1_eq] <;> rfl
      · rw [if_neg (fun w => f w.2.2.2.2), if_neg (fun w => f ((fits_iff _ _ _ _).mpr w))]; exact ⟨h, rfl⟩
    · rw [if_neg (show ¬ (0 ≤ v.toInt ∧ v.toInt < 8 ∧ (q.n 11).toInt ≤ 0 ∧ (q.F 2 e).toInt < 24 ∧ fits o.toInt a.toInt b.toInt (q.F 2 e).toInt) from fun w => d ⟨w.2.2.1, w.2.2.2.1⟩), if_neg (show ¬ (0 ≤ v.toInt ∧ v.toInt < 8 ∧ (q.n 11).toInt ≤ 0 ∧ ¬ (q.F 2 e).toInt = 24) from fun w => d ⟨w.2.2.1, by omega⟩)]; exact ⟨h, rfl⟩
  · rw [if_neg (fun w => c ⟨w.1, w.2.1⟩), if_neg (fun w => c ⟨w.1, w.2.1⟩)]; exact ⟨h, rfl⟩
theorem off_spec (fin : C9 → C9) (s : C9) {P : C9 → Prop} (hP : ∀ T' : Nat → Option Nat, (∀ t : Nat, t < 6 → T' t = none) → (∀ t : Nat, 6 ≤ t → T' t = s.T t) → P (fin (C9.mk s.n s.f (T') s.G s.K s.F))) : P (itr b_off fin 0 6 s) := by
  refine itr_inv (P := P) (I := fun c (r : C9) => ∃ T' : Nat → Option Nat, r = (C9.mk s.n s.f (T') s.G s.K s.F) ∧ (∀ t : Nat, t < c → T' t = none) ∧ ∀ t : Nat, 6 ≤ t → T' t = s.T t) (N := 6) ?_ ?_ 6 0 s rfl ⟨s.T, rfl, fun t h => by omega, fun _ _ => rfl⟩
  · intro r hI
    obtain ⟨T', h1, h2, h3⟩ := hI
    rw [h1]; exact hP T' h2 h3
  · intro c r k hc hI hk
    obtain ⟨T', h1, h2, h3⟩ := hI
    rw [h1]
    unfold b_off
    refine hk _ ⟨u1 T' c none, rfl, fun t ht => ?_, fun t ht => ?_⟩
    · by_cases e : t = c
      · subst e; exact u1_eq _ _ _
      · rw [u1_ne _ _ e]; exact h2 t (by omega)
    · rw [u1_ne _ _ (by omega)]; exact h3 t ht
theorem wipe_spec (s : C9) {P : C9 → Prop} (hP : ∀ n' : Nat → Int32, (∀ k : Nat, n' k = if 6 ≤ k ∧ k < 14 then 0 else s.n k) → P (C9.mk (n') s.f s.T s.G s.K s.F)) : P (k_wipe s) := by
  unfold k_wipe
  refine itr_inv (P := P) (I := fun c (r : C9) => ∃ n' : Nat → Int32, r = (C9.mk (n') s.f s.T s.G s.K s.F) ∧ ∀ k : Nat, n' k = if 6 ≤ k ∧ k < 6 + c then 0 else s.n k) (N := 8) ?_ ?_ 8 0 s rfl ⟨s.n, rfl, fun k => by rw [if_neg (fun w => by omega)] <;> rfl⟩
  · intro r hI
    obtain ⟨n', h1, h2⟩ := hI
    rw [h1]; exact hP n' h2
  · intro c r k hc hI hk
    obtain ⟨n', h1, h2⟩ := hI
    rw [h1]
    unfold b_wipe
    refine hk _ ⟨u1 n' (6 + c) 0, rfl, fun t => ?_⟩
    by_cases e : t = 6 + c
    · subst e; rw [u1_eq, if_pos ⟨by omega, by omega⟩] <;> rfl
    · rw [u1_ne _ _ e, h2]
      by_cases w : 6 ≤ t ∧ t < 6 + c
      · rw [if_pos w, if_pos ⟨by omega, by omega⟩] <;> rfl
      · rw [if_neg w, if_neg (fun y => w ⟨by omega, by omega⟩)] <;> rfl
theorem f_anew1_spec (q : Q10) {P : Q10 → Prop} (hP : ∀ f10 : Nat → Int32, (∀ t : Nat, t < 6 → f10 t = -1) → P ⟨upF q.F 10 f10, upn (upn (upn (upn (upn (upn q.n 11 0) 12 0) 45 0) 46 0) 47 0) 48 0⟩) : P (f_anew1 q) := by
  unfold f_anew1
  refine itr_inv (P := P) (I := fun c (r : Q10) => ∃ f10 : Nat → Int32, r = ⟨upF q.F 10 f10, upn (upn (upn (upn (upn (upn q.n 11 0) 12 0) 45 0) 46 0) 47 0) 48 0⟩ ∧ ∀ t : Nat, t < c → f10 t = -1) (N := 6) ?_ ?_ 6 0 _ rfl ⟨q.F 10, by rw [upF_id] <;> rfl, fun t h => by omega⟩
  · intro r hI
    obtain ⟨f10, h1, h2⟩ := hI
    rw [h1]; exact hP f10 h2
  · intro c r k hc hI hk
    obtain ⟨f10, h1, h2⟩ := hI
    rw [h1]
    unfold b_anew2
    refine hk _ ⟨upd f10 c (-1), ?_, fun t ht => ?_⟩
    · show Q10.mk (upF (upF q.F 10 f10) 10 (upd f10 c (-1))) _ = _
      rw [upF_self] <;> rfl
    · by_cases e : t = c
      · subst e; exact upd_s _ _ _
      · rw [upd_n _ _ e]; exact h2 t (by omega)
theorem r_anew_spec (w : Int32) (q : Q10) {P : Q10 → Prop} (hP : ∀ f2 f10 : Nat → Int32, (∀ t : Nat, f2 t = if ¬ w.toInt = 0 ∧ t < 8 then 0 else q.F 2 t) → (∀ t : Nat, t < 6 → f10 t = -1) → P ⟨upF (upF q.F 2 f2) 10 f10, upn (upn (upn (upn (upn (upn q.n 11 0) 12 0) 45 0) 46 0) 47 0) 48 0⟩) : P (r_anew w q) := by
  unfold r_anew
  by_cases c : ¬ w.toInt = 0
  · refine itr_inv (P := P) (I := fun c (r : Q10) => ∃ f2 : Nat → Int32, r = ⟨upF q.F 2 f2, q.n⟩ ∧ ∀ t : Nat, f2 t = if t < c then 0 else q.F 2 t) (N := 8) ?_ ?_ 8 0 _ rfl ⟨q.F 2, by rw [upF_id] <;> rfl, fun t => by rw [if_neg (by omega)] <;> rfl⟩
    · intro r hI
      obtain ⟨f2, h1, h2⟩ := hI
      rw [h1]
      refine f_anew1_spec _ (fun f10 h10 => hP f2 f10 (fun t => ?_) h10)
      rw [h2]
      by_cases d : t < 8
      · rw [if_pos d, if_pos ⟨c, d⟩] <;> rfl
      · rw [if_neg d, if_neg (fun y => d y.2)] <;> rfl
    · intro t r k hc hI hk
      obtain ⟨f2, h1, h2⟩ := hI
      rw [h1]
      unfold b_anew1
      rw [if_pos c]
      refine hk _ ⟨upd f2 t 0, ?_, fun x => ?_⟩
      · show Q10.mk (upF (upF q.F 2 f2) 2 (upd f2 t 0)) _ = _
        rw [upF_self] <;> rfl
      · by_cases e : x = t
        · subst e; rw [upd_s, if_pos (by omega)] <;> rfl
        · rw [upd_n _ _ e, h2]
          by_cases y : x < t
          · rw [if_pos y, if_pos (by omega)] <;> rfl
          · rw [if_neg y, if_neg (by omega)] <;> rfl
  · rw [show (8 : Nat) = 7 + 1 from rfl, itr_s]
    unfold b_anew1
    rw [if_neg c]
    refine f_anew1_spec _ (fun f10 h10 => ?_)
    have := hP (q.F 2) f10 (fun t => by rw [if_neg (fun y => c y.1)] <;> rfl) h10
    rw [upF_id] at this
    exact this
theorem RLg.none {n : Nat → Int32} {f : Nat → Nat → Int32} {qn a49 a50 a51 a52 a55 a56 a57 a58 a59 : Nat → Int32} (h1 : n 16 = 0 ∧ n 19 = 0 ∧ n 21 = 0) (h2 : qn 45 = 0 ∧ qn 47 = 0 ∧ qn 48 = 0) : RLg n f qn a49 a50 a51 a52 a55 a56 a57 a58 a59 := by
  have t0 : (0 : Int32).toInt = 0 := by decide
  unfold RLg
  rw [h1.1, h1.2.1, h1.2.2, h2.1, h2.2.1, h2.2.2]
  exact ⟨⟨by omega, fun i h => by omega⟩, ⟨by omega, fun i h => by omega⟩, ⟨by omega, fun i h => by omega⟩⟩
theorem anew_zero (h : Rl R kp s q) (hk : 0 ≤ kp) {n' : Nat → Int32} {T' : Nat → Option Nat} {f2 f10 : Nat → Int32} (w : Int32) (hn : ∀ k : Nat, n' k = if (6 ≤ k ∧ k < 14) ∧ ¬ w.toInt = 0 then 0 else if k = 0 ∨ k = 2 ∨ k = 16 ∨ k = 3 ∨ k = 19 ∨ k = 4 ∨ k = 21 ∨ k = 5 then 0 else s.n k) (hT : ∀ t : Nat, t < 6 → T' t = none) (hT2 : ∀ t : Nat, 6 ≤ t → T' t = s.T t) (h2 : ∀ t : Nat, f2 t = if ¬ w.toInt = 0 ∧ t < 8 then 0 else q.F 2 t) (h10 : ∀ t : Nat, t < 6 → f10 t = -1) :
    Zero kp (C9.mk (n') s.f (T') s.G s.K s.F) ⟨upF (upF q.F 2 f2) 10 f10, upn (upn (upn (upn (upn (upn q.n 11 0) 12 0) 45 0) 46 0) 47 0) 48 0⟩ := by
  have t0 : (0 : Int32).toInt = 0 := by decide
  have hu := h.u
  have nz : ∀ k : Nat, k = 0 ∨ k = 2 ∨ k = 16 ∨ k = 3 ∨ k = 19 ∨ k = 4 ∨ k = 21 ∨ k = 5 → n' k = 0 := fun k hk => by rw [hn, if_neg (fun w => by omega), if_pos hk] <;> rfl
  have nk : ∀ k : Nat, (k < 6 ∨ 14 ≤ k) → ¬ (k = 0 ∨ k = 2 ∨ k = 16 ∨ k = 3 ∨ k = 19 ∨ k = 4 ∨ k = 21 ∨ k = 5) → n' k = s.n k := fun k hk hk2 => by rw [hn, if_neg (fun w => by omega), if_neg hk2] <;> rfl
  refine ⟨?_, ⟨fun j hj => ?_, h.z.2.1, h.z.2.2⟩, RLg.none ⟨nz 16 (by omega), nz 19 (by omega), nz 21 (by omega)⟩ ⟨rfl, rfl, rfl⟩, ?_, fun t => ?_, h10, t0, Int.le_refl _, h.k⟩
  · show RU kp n' (upn (upn (upn (upn (upn (upn q.n 11 0) 12 0) 45 0) 46 0) 47 0) 48 0)
    unfold RU
    rw [nz 0 (by omega), nz 2 (by omega), nz 3 (by omega), nz 4 (by omega), nz 5 (by omega), nk 1 (by omega) (by omega), nk 14 (by omega) (by omega), nk 15 (by omega) (by omega), nk 17 (by omega) (by omega), nk 18 (by omega) (by omega), nk 20 (by omega) (by omega)]
    exact ⟨⟨rfl, hu.1.2.1, rfl, rfl, rfl, rfl⟩, ⟨Int.le_refl _, show (0 : Int32).toInt ≤ 200 by decide⟩, hu.2.2.1, ⟨Int.le_refl _, hk⟩, Int.le_refl _, ⟨Int.le_refl _, hk⟩, hu.2.2.2.2.2.2.1, hu.2.2.2.2.2.2.2⟩
  · have z := h.z.1 j hj
    show s.f 0 j = q.F 0 j ∧ s.f 1 j = q.F 1 j ∧ n' (6 + j) = f2 j ∧ 0 ≤ (f2 j).toInt ∧ (f2 j).toInt ≤ 24 ∧ _
    rw [hn, h2]
    by_cases c : ¬ w.toInt = 0
    · rw [if_pos ⟨⟨by omega, by omega⟩, c⟩, if_pos ⟨c, hj⟩]
      exact ⟨z.1, z.2.1, rfl, Int.le_refl _, show (0 : Int32).toInt ≤ 24 by decide, z.2.2.2.2.2⟩
    · rw [if_neg (fun y => c y.2), if_neg (show ¬ (6 + j = 0 ∨ 6 + j = 2 ∨ 6 + j = 16 ∨ 6 + j = 3 ∨ 6 + j = 19 ∨ 6 + j = 4 ∨ 6 + j = 21 ∨ 6 + j = 5) by omega), if_neg (fun y => c y.1)]
      exact z
  · show (Int.toNat (Int32.toInt (n' 0))) = 0
    rw [nz 0 (by omega)]; rfl
  · show T' t = none
    by_cases c : t < 6
    · exact hT t c
    · rw [hT2 t (by omega)]
      cases e : s.T t with
      | none => rfl
      | some j => have := (h.t.2.1 t j e).2.1; omega
theorem anew_sim (h : Rl R kp s q) (hk : 0 ≤ kp) (w : Int32) : Rl R kp (k_anew w s) (r_anew w q) := by
  refine r_anew_spec w q (fun f2 f10 h2 h10 => ?_)
  unfold k_anew
  refine off_spec _ _ (P := fun r => Rl R kp r _) (fun T' h1 h3 => ?_)
  unfold f_anew
  dsimp +instances only [c9n, c9f, c9T, c9G, c9K, c9F, q10F, q10n]
  by_cases c : ¬ w.toInt = 0
  · rw [if_pos c]
    refine wipe_spec _ (P := fun r => Rl R kp r _) (fun n' hn => ?_)
    refine Zero.rel (anew_zero h hk w (fun k => ?_) h1 h3 h2 h10)
    rw [hn]
    by_cases d : 6 ≤ k ∧ k < 14
    · rw [if_pos d, if_pos ⟨d, c⟩] <;> rfl
    · rw [if_neg d, if_neg (fun y => d y.1)]
      dsimp +instances only [c9n, c9f, c9T, c9G, c9K, c9F, q10F, q10n]
      simp only [u1_at]
      by_cases e : k = 0 ∨ k = 2 ∨ k = 16 ∨ k = 3 ∨ k = 19 ∨ k = 4 ∨ k = 21 ∨ k = 5
      · rw [if_pos e]
        rcases e with e | e | e | e | e | e | e | e <;> subst e <;> rfl
      · rw [if_neg e]
        simp only [not_or] at e
        simp [e]
  · rw [if_neg c]
    refine Zero.rel (anew_zero h hk w (fun k => ?_) h1 h3 h2 h10)
    rw [if_neg (fun y => c y.2)]
    simp only [u1_at]
    by_cases e : k = 0 ∨ k = 2 ∨ k = 16 ∨ k = 3 ∨ k = 19 ∨ k = 4 ∨ k = 21 ∨ k = 5
    · rw [if_pos e]
      rcases e with e | e | e | e | e | e | e | e <;> subst e <;> rfl
    · rw [if_neg e]
      simp only [not_or] at e
      simp [e]
end

/- ---------- what is asked ---------- -/
section
variable {R : Nat} {kp : Int} {s : C9} {q : Q10}
theorem failure_sim (h : Rl R kp s q) (a b : Int32) : k_failure a b s = r_failure a b q := by
  have hu := h.u
  unfold k_failure r_failure
  rw [hu.1.1]
  by_cases c : 0 ≤ a.toInt ∧ a.toInt < (q.n 11).toInt
  · obtain ⟨i, hi⟩ : ∃ i : Nat, a.toInt = (i : Int) := ⟨a.toInt.toNat, by omega⟩
    have ji : (Int.toNat (Int32.toInt a)) = i := by omega
    have hiN : i < (Int.toNat (Int32.toInt (s.n 0))) := by rw [hu.1.1]; omega
    have e2 : s.G i 2 = q.F 13 i := (h.b i hiN).1
    rw [ji, ix_nat hi, e2]
    by_cases d : (q.F 13 i).toInt = 4
    · have cc : 0 ≤ a.toInt ∧ a.toInt < (q.n 11).toInt ∧ (q.F 13 i).toInt = 4 := ⟨c.1, c.2, d⟩
      have z := (h.e i hiN).1 d
      rw [if_pos cc, if_pos cc, z.1, z.2.1, z.2.2.1, z.2.2.2.1]
      have e : (if ¬ (s.G i 21).toInt = 0 then (1 : Int32) else 0) = (if ¬ (q.F 32 i).toInt = 0 then (1 : Int32) else 0) := by
        by_cases w : ¬ (q.F 32 i).toInt = 0
        · rw [if_pos w, if_pos (z.2.2.2.2.1.mpr w)] <;> rfl
        · rw [if_neg w, if_neg (fun y => w (z.2.2.2.2.1.mp y))] <;> rfl
      rw [e] <;> rfl
    · rw [if_neg (fun w => d w.2.2), if_neg (fun w => d w.2.2)] <;> rfl
  · rw [if_neg (fun w => c ⟨w.1, w.2.1⟩), if_neg (fun w => c ⟨w.1, w.2.1⟩)] <;> rfl
theorem trace_walk (h : Rl R kp s q) : ∀ (n t p : Nat) (v x : Int32), p < (Int.toNat (Int32.toInt (s.n 0))) → v.toInt = (p : Int) →
    ((n : Int) ≤ (s.G p 10).toInt → itr (b_trace s.G s.K) (fun p => 32 * s.G p.1 1 + p.2) t n (p, x) = itr (b_tr10 q.F) (fun p => 32 * q.F 14 (Int32.toNatClampNeg p.1) + p.2) t n (v, x)) ∧
    (¬ (n : Int) ≤ (s.G p 10).toInt → itr (b_tr10 q.F) (fun p => 32 * q.F 14 (Int32.toNatClampNeg p.1) + p.2) t n (v, x) = -1) := by
  have hN := h.N200
  intro n
  induction n with
  | zero =>
    intro t p v x hp hv
    have hA := h.a p hp
    rw [itr_0, itr_0]
    refine ⟨fun _ => ?_, fun w => ?_⟩
    · show 32 * s.G p 1 + x = 32 * q.F 14 (Int32.toNatClampNeg v) + x
      rw [ix_nat hv, hA.1.2.1] <;> rfl
    · exfalso
      have := hA.2.2.2.2.1
      rw [← hA.1.2.2.2.2.2.2] at this
      omega
  | succ n ih =>
    intro t p v x hp hv
    have hA := h.a p hp
    rw [itr_s, itr_s]
    unfold b_trace b_tr10
    have dp := hA.2.2.2.2.1
    rw [← hA.1.2.2.2.2.2.2] at dp
    show (_ → (s.K p 0).elim (-1) _ = (if (q.F 15 (Int32.toNatClampNeg v)).toInt = -1 then -1 else _)) ∧ (_ → (if (q.F 15 (Int32.toNatClampNeg v)).toInt = -1 then -1 else _) = -1)
    rw [ix_nat hv]
    have gN := h.giverN hp
    cases e : s.K p 0 with
    | none =>
      rw [if_pos (gN.mpr e)]
      exact ⟨fun _ => rfl, fun _ => rfl⟩
    | some g =>
      obtain ⟨g1, g2, g3⟩ := hA.2.1.2.2.2 g e
      rw [if_neg (fun w => by have := gN.mp w; rw [e] at this; cases this)]
      have e15 : q.F 15 p = Int32.ofNat g := by
        have := hA.2.1.1
        rw [e] at this; exact this.symm
      have og : (q.F 15 p).toInt = (g : Int) := by rw [e15]; exact ofNat_toInt (by omega)
      have z := ih (t + 1) g (q.F 15 p) (q.F 21 p) (by omega) og
      unfold b_trace b_tr10 at z
      refine ⟨fun w => ?_, fun w => ?_⟩
      · show itr _ _ (t + 1) n (g, s.G p 11) = _
        rw [g2]
        exact z.1 (by omega)
      · exact z.2 (by omega)
theorem trace_sim (h : Rl R kp s q) (a b : Int32) : k_trace a b s = r_trace a b q := by
  have hu := h.u
  unfold k_trace r_trace
  rw [hu.1.1]
  by_cases c : 0 ≤ a.toInt ∧ a.toInt < (q.n 11).toInt
  · obtain ⟨i, hi⟩ : ∃ i : Nat, a.toInt = (i : Int) := ⟨a.toInt.toNat, by omega⟩
    have ji : (Int.toNat (Int32.toInt a)) = i := by omega
    have hiN : i < (Int.toNat (Int32.toInt (s.n 0))) := by rw [hu.1.1]; omega
    have e2 : s.G i 2 = q.F 13 i := (h.b i hiN).1
    rw [ji, ix_nat hi, e2]
    by_cases d : (q.F 13 i).toInt = 4 ∧ 0 ≤ b.toInt
    · have cc : 0 ≤ a.toInt ∧ a.toInt < (q.n 11).toInt ∧ (q.F 13 i).toInt = 4 ∧ 0 ≤ b.toInt := ⟨c.1, c.2, d⟩
      have z := (h.e i hiN).1 d.1
      have y := trace_walk h ((Int.toNat (Int32.toInt b))) 0 i a (q.F 29 i) hiN hi
      have eb : Int32.toNatClampNeg b = (Int.toNat (Int32.toInt b)) := rfl
      rw [if_pos cc, z.2.1, eb]
      by_cases f : b.toInt ≤ (s.G i 10).toInt
      · rw [if_pos (show 0 ≤ a.toInt ∧ a.toInt < (q.n 11).toInt ∧ (q.F 13 i).toInt = 4 ∧ 0 ≤ b.toInt ∧ b.toInt ≤ (s.G i 10).toInt from ⟨c.1, c.2, d.1, d.2, f⟩)]
        exact y.1 (by omega)
      · rw [if_neg (fun w => f w.2.2.2.2)]
        exact (y.2 (by omega)).symm
    · rw [if_neg (fun w => d ⟨w.2.2.1, w.2.2.2.1⟩), if_neg (fun w => d w.2.2)] <;> rfl
  · rw [if_neg (fun w => c ⟨w.1, w.2.1⟩), if_neg (fun w => c ⟨w.1, w.2.1⟩)] <;> rfl
theorem cnk_mono (K : Nat → Nat → Option Nat) (g : Nat) : ∀ m n : Nat, m ≤ n → cnk K g m ≤ cnk K g n := by
  intro m n
  induction n with
  | zero => intro h; rw [show m = 0 by omega]; exact Nat.le_refl _
  | succ n ih =>
    intro h
    by_cases e : m = n + 1
    · rw [e]; exact Nat.le_refl _
    · have := ih (by omega)
      rw [cnk_s]; omega
theorem child_sim (h : Rl R kp s q) (a b : Int32) : k_child a b s = r_child a b q := by
  have hu := h.u
  have hN := h.N200
  unfold k_child r_child
  rw [hu.1.1]
  by_cases c : 0 ≤ a.toInt ∧ a.toInt < (q.n 11).toInt ∧ 0 ≤ b.toInt
  · obtain ⟨i, hi⟩ : ∃ i : Nat, a.toInt = (i : Int) := ⟨a.toInt.toNat, by omega⟩
    have ji : (Int.toNat (Int32.toInt a)) = i := by omega
    have hiN : i < (Int.toNat (Int32.toInt (s.n 0))) := by rw [hu.1.1]; omega
    have e11 : Int32.toNatClampNeg (q.n 11) = (Int.toNat (Int32.toInt (s.n 0))) := by show (q.n 11).toInt.toNat = _; rw [hu.1.1]
    have e1 : Int32.toNatClampNeg (a + 1) = i + 1 := ix_nat (by rw [inc_toInt (by omega), hi]; omega)
    have hP := h.p i hiN
    rw [ji, if_pos c, e11, e1]
    by_cases d : b.toInt < (s.G i 13).toInt
    · rw [if_pos (show 0 ≤ a.toInt ∧ a.toInt < (q.n 11).toInt ∧ 0 ≤ b.toInt ∧ b.toInt < (s.G i 13).toInt from ⟨c.1, c.2.1, c.2.2, d⟩), hP.1]
      refine cit_itr (P := fun (x y : Int32) => x = y) (I := fun _ (x y : Int32) => x = y) (N := (Int.toNat (Int32.toInt (s.n 0)))) (fun c hc hk => (h.p c hc).2.1 i hk) (fun _ _ _ => rfl) ?_ ?_ _ (i + 1) _ _ 201 (by omega) (by omega) rfl
      · intro c x y k k' hc hk hI hkk
        subst hI
        unfold b_child b_ch10
        rw [if_pos ((h.giver hc hi (by omega)).mpr hk)]
        by_cases f : x.toInt = b.toInt
        · rw [if_pos f, if_pos f]; exact (h.a c hc).1.1
        · rw [if_neg f, if_neg f]; exact hkk _ _ rfl
      · intro c x y k' hc hk hI
        subst hI
        refine ⟨x, ?_, rfl⟩
        unfold b_ch10
        rw [if_neg (fun w => hk ((h.giver hc hi (by omega)).mp w))] <;> rfl
    · rw [if_neg (fun w => d w.2.2.2)]
      symm
      have c0 : cnk s.K i (i + 1) = 0 := cnk_none (fun j hj w => by have := ((h.a j (by omega)).2.1.2.2.2 i w).1; omega)
      refine itr_inv (P := fun (x : Int32) => x = -1) (I := fun c (x : Int32) => x.toInt = (cnk s.K i c : Int)) (N := (Int.toNat (Int32.toInt (s.n 0)))) (fun _ _ => rfl) ?_ _ (i + 1) 0 (by omega) (by rw [c0]; rfl)
      intro c x k hc hI hk
      unfold b_ch10
      have m1 := cnk_mono s.K i (c + 1) ((Int.toNat (Int32.toInt (s.n 0)))) (by omega)
      have m2 := cnk_s s.K i c
      have m3 := cnk_le s.K i (c + 1)
      by_cases w : (q.F 15 c).toInt = a.toInt
      · have hk' := (h.giver hc hi (by omega)).mp w
        rw [if_pos hk'] at m2
        rw [if_pos w, if_neg (by have := hP.2.2.2; omega)]
        exact hk _ (by rw [inc_toInt (by omega), hI, m2]; omega)
      · have hk' : ¬ s.K c 0 = some i := fun y => w ((h.giver hc hi (by omega)).mpr y)
        rw [if_neg hk'] at m2
        rw [if_neg w]
        exact hk _ (by rw [hI, m2]; omega)
  · rw [if_neg (fun w => c ⟨w.1, w.2.1, w.2.2.1⟩), if_neg c] <;> rfl
theorem value_sim (h : Rl R kp s q) (a b : Int32) : k_value a b s = r_value a b q := by
  have hu := h.u
  unfold k_value r_value
  rw [hu.1.1]
  by_cases c : 0 ≤ a.toInt ∧ a.toInt < (q.n 11).toInt ∧ 0 ≤ b.toInt ∧ b.toInt < 8
  · rw [if_pos c, if_pos c]
    exact reads_sim h (i := (Int.toNat (Int32.toInt a))) (j := (Int.toNat (Int32.toInt b))) (by omega) (by rw [hu.1.1]; omega) (by omega) (by omega)
  · rw [if_neg c, if_neg c] <;> rfl
theorem seen_sim (h : Rl R kp s q) (a b : Int32) : k_seen a b s = r_seen a b q := by
  have hu := h.u
  have hl := h.l.1
  have h14 : (s.n 14).toInt = 1000 := hu.2.2.2.2.2.2.2.2.2.2.1
  unfold k_seen k_lat r_seen
  rw [h14, hl.1]
  by_cases c : 0 ≤ a.toInt ∧ a.toInt < (q.n 45).toInt ∧ a.toInt < 1000
  · rw [if_pos c]
    obtain ⟨i, hi⟩ : ∃ i : Nat, a.toInt = (i : Int) := ⟨a.toInt.toNat, by omega⟩
    have z := hl.2 i (by omega)
    rw [ix_nat hi]
    by_cases b0 : b.toInt = 0
    · rw [if_pos b0, if_pos (by omega), show (4 * a.toInt + b.toInt).toNat = 4 * i by omega]; exact z.1
    rw [if_neg b0]
    by_cases b1 : b.toInt = 1
    · rw [if_pos b1, if_pos (by omega), show (4 * a.toInt + b.toInt).toNat = 4 * i + 1 by omega]; exact z.2.1
    rw [if_neg b1]
    by_cases b2 : b.toInt = 2
    · rw [if_pos b2, if_pos (by omega), show (4 * a.toInt + b.toInt).toNat = 4 * i + 2 by omega]; exact z.2.2.1
    rw [if_neg b2]
    by_cases b3 : b.toInt = 3
    · rw [if_pos b3, if_pos (by omega), show (4 * a.toInt + b.toInt).toNat = 4 * i + 3 by omega]; exact z.2.2.2
    rw [if_neg b3, if_neg (by omega)] <;> rfl
  · rw [if_neg c, if_neg (by omega)] <;> rfl
theorem handled_sim (h : Rl R kp s q) (a b : Int32) : k_handled a b s = r_handled a b q := by
  have hu := h.u
  have hN := h.N200
  have hl := h.l.2.1
  have hj : (q.n 47).toInt ≤ 3 * (cU9 (q.F 32) ((Int.toNat (Int32.toInt (s.n 0)))) : Int) := h.j
  have h200 := cU9_le (q.F 32) ((Int.toNat (Int32.toInt (s.n 0))))
  have h17 : (s.n 17).toInt = 600 := hu.2.2.2.2.2.2.2.2.2.2.2
  unfold k_handled k_lat r_handled
  rw [h17, hl.1]
  by_cases c : 0 ≤ a.toInt ∧ a.toInt < (q.n 47).toInt
  · rw [if_pos c]
    obtain ⟨i, hi⟩ : ∃ i : Nat, a.toInt = (i : Int) := ⟨a.toInt.toNat, by omega⟩
    have z := hl.2 i (by omega)
    rw [ix_nat hi]
    by_cases b0 : b.toInt = 0
    · rw [if_pos b0, if_pos (by omega), show (4 * a.toInt + b.toInt).toNat = 4 * i by omega]; exact z.1
    rw [if_neg b0]
    by_cases b1 : b.toInt = 1
    · rw [if_pos b1, if_pos (by omega), show (4 * a.toInt + b.toInt).toNat = 4 * i + 1 by omega]; exact z.2.1
    rw [if_neg b1]
    by_cases b2 : b.toInt = 2
    · rw [if_pos b2, if_pos (by omega), show (4 * a.toInt + b.toInt).toNat = 4 * i + 2 by omega]; exact z.2.2.1
    rw [if_neg b2]
    by_cases b3 : b.toInt = 3
    · rw [if_pos b3, if_pos (by omega), show (4 * a.toInt + b.toInt).toNat = 4 * i + 3 by omega]; exact z.2.2.2
    rw [if_neg b3, if_neg (by omega)] <;> rfl
  · rw [if_neg c, if_neg (by omega)] <;> rfl
theorem order_sim (h : Rl R kp s q) (a : Int32) : k_order a s = r_order a q := by
  have hl := h.l.2.2
  unfold k_order r_order cAt
  rw [hl.1]
  by_cases c : 0 ≤ a.toInt ∧ a.toInt < (q.n 48).toInt ∧ a.toInt < 2000
  · obtain ⟨i, hi⟩ : ∃ i : Nat, a.toInt = (i : Int) := ⟨a.toInt.toNat, by omega⟩
    rw [if_pos (by omega), if_pos (by omega), if_pos c, ix_nat hi]
    exact hl.2 i (by omega)
  · rw [if_neg (by omega), if_neg c] <;> rfl
theorem cnt_sim (h : Rl R kp s q) (v : Int32) : k_cnt v s = r_inst v q := by
  have hu := h.u
  have e11 : Int32.toNatClampNeg (q.n 11) = (Int.toNat (Int32.toInt (s.n 0))) := by show (q.n 11).toInt.toNat = _; rw [hu.1.1]
  unfold k_cnt r_inst
  rw [e11]
  refine itr_itr (P := fun (x y : Int32) => x = y) (I := fun _ (x y : Int32) => x = y) (N := (Int.toNat (Int32.toInt (s.n 0)))) (fun _ _ h => h) ?_ _ 0 _ _ (by omega) rfl
  intro c x y k k' hc hI hkk
  subst hI
  unfold cntB b_inst
  rw [(h.b c hc).1]
  by_cases d : (q.F 13 c).toInt = v.toInt
  · rw [if_pos d, if_pos d]; exact hkk _ _ rfl
  · rw [if_neg d, if_neg d]; exact hkk _ _ (by simp)
theorem count_sim (h : Rl R kp s q) (a : Int32) : k_count a s = r_count a q := by
  have hu := h.u
  have hN := h.N200
  unfold k_count r_count
  rw [hu.1.1, hu.1.2.1, hu.1.2.2.1, hu.1.2.2.2.1, hu.1.2.2.2.2.1, hu.1.2.2.2.2.2, cnt_sim h, cnt_sim h, cnt_sim h, cnt_sim h, cnt_sim h]
  have e : k_onT a s = (if 16 ≤ a.toInt ∧ a.toInt < (16 + q.n 9).toInt then q.F 10 (Int32.toNatClampNeg (a - 16)) else -1) := by
    unfold k_onT
    rw [hu.1.2.1]
    have h9 := hu.2.2.1
    have t16 : (16 : Int32).toInt = 16 := by decide
    have e16 : (16 + q.n 9).toInt = 16 + (q.n 9).toInt := ar_add t16 rfl rfl (by omega)
    by_cases c : 16 ≤ a.toInt ∧ a.toInt < (16 + q.n 9).toInt
    · have ea : (a - 16).toInt = a.toInt - 16 := ar_sub rfl t16 rfl (by omega)
      rw [if_pos c, if_neg (by omega)]
      obtain ⟨t, ht⟩ : ∃ t : Nat, (a - 16).toInt = (t : Int) := ⟨(a - 16).toInt.toNat, by omega⟩
      rw [ix_nat ht, show (Int.toNat (Int32.toInt (a - 16))) = t by omega]
      have z := h.t.1 t (by omega)
      rw [← z]
      cases eT : s.T t with
      | none => rfl
      | some j => exact (h.k j).1
    · rw [if_neg c, if_pos (by omega)] <;> rfl
  rw [e] <;> rfl
theorem fil_at (a b : Int32) (f53 f54 : Nat → Int32) : ∀ (n t : Nat) (x : Int32), 0 ≤ x.toInt → x.toInt + n < 2147483647 → x.toInt ≤ b.toInt →
    itr (b_rem10 (fun k => if k = 53 then f53 else f54) a b) (fun _ => 0) t n x = (((List.range' t n).filter (fun k => decide ((f53 k).toInt = a.toInt))).map f54)[(b.toInt - x.toInt).toNat]?.getD 0 := by
  intro n
  induction n with
  | zero => intro t x _ _ _; rw [itr_0]; rfl
  | succ n ih =>
    intro t x h0 h1 h2
    rw [itr_s, List.range'_succ]
    unfold b_rem10
    rw [if_neg (by omega)]
    show (if (f53 t).toInt = a.toInt then (if x.toInt = b.toInt then f54 t else _) else _) = _
    by_cases c : (f53 t).toInt = a.toInt
    · rw [if_pos c, List.filter_cons_of_pos (by simpa using c), List.map_cons]
      by_cases d : x.toInt = b.toInt
      · rw [if_pos d, show (b.toInt - x.toInt).toNat = 0 by omega]; rfl
      · rw [if_neg d]
        have ex : (x + 1).toInt = x.toInt + 1 := inc_toInt (by omega)
        have z := ih (t + 1) (x + 1) (by omega) (by omega) (by omega)
        unfold b_rem10 at z
        rw [z, show (b.toInt - x.toInt).toNat = (b.toInt - (x + 1).toInt).toNat + 1 by omega]
        rfl
    · rw [if_neg c, List.filter_cons_of_neg (by simpa using c)]
      have z := ih (t + 1) x h0 (by omega) h2
      unfold b_rem10 at z
      exact z
theorem remark_rd (h : Rl R kp s q) (hR : R ≤ 310000) (a b : Int32) : k_remark a b s = r_remark a b q := by
  have hu := h.u
  have hN := h.N200
  obtain ⟨x1, x2, x3⟩ := h.x
  have t0 : (0 : Int32).toInt = 0 := by decide
  obtain ⟨w, hw⟩ : ∃ w : Nat, (q.n 46).toInt = (w : Int) := ⟨(q.n 46).toInt.toNat, by omega⟩
  have jw : (q.n 46).toInt.toNat = w := by omega
  have rr : 0 ≤ b.toInt → r_remark a b q = (((List.range w).filter (fun k => decide ((q.F 53 k).toInt = a.toInt))).map (q.F 54))[b.toInt.toNat]?.getD 0 := fun hb => by
    unfold r_remark
    rw [ix_nat hw]
    have z := fil_at a b (q.F 53) (q.F 54) w 0 0 (by omega) (by omega) (by omega)
    rw [← List.range_eq_range', show (b.toInt - (0 : Int32).toInt).toNat = b.toInt.toNat by omega] at z
    rw [← z]
    rfl
  have rn : b.toInt < 0 → r_remark a b q = 0 := fun hb => by
    unfold r_remark
    rw [ix_nat hw]
    cases w with
    | zero => rw [itr_0]
    | succ w => rw [itr_s]; unfold b_rem10; rw [if_pos hb] <;> rfl
  have none_ : (∀ k : Nat, k < w → ¬ (q.F 53 k).toInt = a.toInt) → r_remark a b q = 0 := fun hk => by
    by_cases hb : 0 ≤ b.toInt
    · rw [rr hb]
      have : (List.range w).filter (fun k => decide ((q.F 53 k).toInt = a.toInt)) = [] := by
        rw [List.filter_eq_nil_iff]
        intro k hk'
        have hk' := List.mem_range.mp hk'
        simpa using hk k hk'
      rw [this]; rfl
    · exact rn (by omega)
  unfold k_remark
  rw [hu.1.1]
  by_cases c : 0 ≤ a.toInt ∧ a.toInt < (q.n 11).toInt
  · rw [if_pos c]
    obtain ⟨i, hi⟩ : ∃ i : Nat, a.toInt = (i : Int) := ⟨a.toInt.toNat, by omega⟩
    have ji : (Int.toNat (Int32.toInt a)) = i := by omega
    have hiN : i < (Int.toNat (Int32.toInt (s.n 0))) := by rw [hu.1.1]; omega
    rw [ji]
    cases e : s.K i 0 with
    | some g =>
      show (0 : Int32) = _
      rw [none_ (fun k hk y => ?_)]
      have z := (x2 k (by omega)).2.2
      rw [y, ji, e] at z
      cases z
    | none =>
      obtain ⟨y1, y2, y3⟩ := x3 i hiN e
      rw [jw] at y3
      show (if 0 ≤ b.toInt ∧ b.toInt < (s.G i 23).toInt then cAt (s.G i 23) (s.F i 9) b else 0) = _
      by_cases d : 0 ≤ b.toInt
      · rw [rr d, hi, ← y3]
        by_cases f : b.toInt < (s.G i 23).toInt
        · unfold cAt
          rw [if_pos ⟨d, f⟩, if_pos ⟨d, f⟩, List.getElem?_map, List.getElem?_range (by omega)]
          rfl
        · rw [if_neg (fun y => f y.2), List.getElem?_eq_none (by rw [List.length_map, List.length_range]; omega)]
          rfl
      · rw [if_neg (fun y => d y.1), rn (by omega)] <;> rfl
  · rw [if_neg c]
    rw [none_ (fun k hk y => ?_)]
    have z := x2 k (by omega)
    apply c
    rw [← y, ← hu.1.1]
    omega
end
