def f_hand (w : Int32) (s : C9) : C9 × Int32 := if ¬ w.toInt = 0 then (s, -2) else (s, -1)
def kh_hand (i : Nat) (e p w : Int32) (s : C9) : C9 × Int32 := itr (b_hand i e w) (f_hand w) 0 ((Int.toNat (Int32.toInt p))) s
def kh_op (i : Nat) (o a b : Int32) (s : C9) : C9 × Int32 :=
  if o.toInt = 0 then k_write i a b s
  else if o.toInt = 1 then k_reading i a s
  else if o.toInt = 2 then k_bind i a b s
  else if o.toInt = 3 then (sco i (frN (s.G i 14) (s.F i 3) a) (s.G i 15) (s.G i 16) (C9.mk s.n s.f s.T s.G s.K (u2 s.F i 3 (s.F i 3))), if frP (s.G i 14) (s.F i 3) a then -1 else 5)
  else if o.toInt = 4 then kh_hand i a 1 (if b.toInt = 1 then 1 else 0) s
  else if o.toInt = 5 then kh_hand i a b 0 s
  else if o.toInt = 6 then k_gather i s
  else if o.toInt = 7 then (k_rem (rt9 s.K i) b s, -1)
  else if o.toInt = 8 then (s, a)
  else if o.toInt = 9 then
    let s1 := sco i (s.G i 14) (bnN (s.G i 15)) (bnM (s.G i 15) (s.G i 16)) s
    ((C9.mk s1.n s1.f s1.T s1.G s1.K (u2 (u2 (u2 s1.F i 6 (bnF (s.G i 15) (s.F i 6) a)) i 7 (bnF (s.G i 15) (s.F i 7) b)) i 8 (bnF (s.G i 15) (s.F i 8) (s.G i 16)))), -1)
  else if o.toInt = 10 then (sco i (s.G i 14) (ctN (s.G i 15)) (s.G i 16) s, if 0 < (s.G i 15).toInt then -1 else 5)
  else if o.toInt = 11 then ((C9.mk s.n s.f s.T (u2 s.G i 5 (s.G i 5 + b)) s.K s.F), -1)
  else k_end i s
def kh_step (i : Nat) (s : C9) : C9 × Int32 :=
  let e := (Int.toNat (Int32.toInt (s.G i 1)))
  let p := (Int.toNat (Int32.toInt (s.G i 6)))
  if 0 ≤ (s.G i 1).toInt ∧ (s.G i 1).toInt < 8 ∧ 0 ≤ (s.G i 6).toInt ∧ (s.G i 6).toInt < (s.n (6 + e)).toInt ∧ (s.G i 6).toInt < 24 then
    kh_op i (s.f (2 + 3 * e) p) (s.f (3 + 3 * e) p) (s.f (4 + 3 * e) p) s
  else k_end i s
def bh_turn (t : Nat) (s : C9) (k : C9 → C9) : C9 :=
  if (s.G t 2).toInt = 1 then
    let s1 := k_note t s
    let p := if ¬ (s1.G t 8).toInt = 0 ∨ ¬ (s1.G t 9).toInt = 0 then k_stand t s1 else kh_step t s1
    k (k_close t p.2 p.1)
  else k s
def kh_turns (s : C9) : C9 := itr bh_turn (fun s => s) 0 ((Int.toNat (Int32.toInt (s.n 0)))) s
def bh_beat (t : Nat) (s : C9) (k : C9 → C9 × Int32) : C9 × Int32 :=
  cond (k_wl s) (k (k_wake (kh_turns (k_fill (C9.mk (u1 s.n 2 (s.n 2 + 1)) s.f s.T s.G s.K s.F))))) (s, Int32.ofNat t)
def kh_beat (v : Int32) (s : C9) : C9 × Int32 :=
  if v.toInt < 1 ∨ 100 < v.toInt then (s, -1) else itr bh_beat (fun s => (s, v)) 0 ((Int.toNat (Int32.toInt v))) s
