def rt9 (K : Nat → Nat → Option Nat) (i : Nat) : Nat := (K i 1).getD i
/- rows that grow -/
def aN (us lm : Int32) : Int32 := if us.toInt < lm.toInt then us + 1 else us
def aF (us lm : Int32) (g : Nat → Int32) (v : Int32) : Nat → Int32 := if us.toInt < lm.toInt then upd g (Int32.toNatClampNeg us) v else g
def k_add (kn kl kf : Nat) (v : Int32) (s : C9) : C9 := (C9.mk (u1 s.n kn (aN (s.n kn) (s.n kl))) (u1 s.f kf (aF (s.n kn) (s.n kl) (s.f kf) v)) s.T s.G s.K s.F)
def k_led (kn kl kf : Nat) (a b c d : Int32) (s : C9) : C9 := k_add kn kl kf d (k_add kn kl kf c (k_add kn kl kf b (k_add kn kl kf a s)))
def k_rem (i : Nat) (v : Int32) (s : C9) : C9 := (C9.mk s.n s.f s.T (u2 s.G i 23 (aN (s.G i 23) (s.G i 22))) s.K (u2 s.F i 9 (aF (s.G i 23) (s.G i 22) (s.F i 9) v)))
/- small objects -/
def s8 (v : Int32) : Prop := 0 ≤ v.toInt ∧ v.toInt < 8
def st8 (g : Nat → Int32) (v x : Int32) : Nat → Int32 := if 0 ≤ v.toInt ∧ v.toInt < 8 then upd g (Int32.toNatClampNeg v) x else g
def st17 (g : Nat → Int32) (v x : Int32) : Nat → Int32 := if 0 ≤ v.toInt ∧ v.toInt < 17 then upd g (Int32.toNatClampNeg v) x else g
def clr8 (g : Nat → Int32) (k : Nat) : Nat → Int32 := fun j => if j < k then 0 else g j
def wrOr (w x : Nat → Int32) (v o : Int32) : Int32 := if 0 ≤ v.toInt ∧ v.toInt < 8 ∧ ¬ (w (Int32.toNatClampNeg v)).toInt = 0 then x (Int32.toNatClampNeg v) else o
def gvAt (g : Nat → Int32) (v : Int32) : Int32 := if 0 ≤ v.toInt ∧ v.toInt < 8 then g (Int32.toNatClampNeg v) else 0
def inn (b : Int32) (g : Nat → Int32) (v : Int32) (k : Nat) : Int :=
  match k with
  | 0 => -1
  | k + 1 => if (k : Int) < b.toInt ∧ (g k).toInt = v.toInt then (k : Int) else inn b g v k
termination_by k
def bdOr (b : Int32) (sl va : Nat → Int32) (v o : Int32) : Int32 := if 0 ≤ inn b sl v 24 ∧ inn b sl v 24 < 24 then va (inn b sl v 24).toNat else o
def rbF (b : Int32) (sl va : Nat → Int32) (v x : Int32) : Nat → Int32 := if 0 ≤ inn b sl v 24 ∧ inn b sl v 24 < 24 then upd va (inn b sl v 24).toNat x else va
def bnN (b : Int32) : Int32 := if 0 ≤ b.toInt ∧ b.toInt < 24 then b + 1 else b
def bnM (b m : Int32) : Int32 := if 0 ≤ b.toInt ∧ b.toInt < 24 then m + 1 else m
def bnF (b : Int32) (g : Nat → Int32) (v : Int32) : Nat → Int32 := if 0 ≤ b.toInt ∧ b.toInt < 24 then upd g (Int32.toNatClampNeg b) v else g
abbrev frP (b : Int32) (sl : Nat → Int32) (v : Int32) : Prop := 0 ≤ (b - 1).toInt ∧ (b - 1).toInt < 24 ∧ (sl (Int32.toNatClampNeg (b - 1))).toInt = v.toInt
def frN (b : Int32) (sl : Nat → Int32) (v : Int32) : Int32 := if frP b sl v then b - 1 else b
def ctN (t : Int32) : Int32 := if 0 < t.toInt then t - 1 else t
def tfd (t : Int32) (g : Nat → Int32) (kd : Int32) (k : Nat) : Int :=
  match k with
  | 0 => -1
  | k + 1 => if (k : Int) < t.toInt ∧ ((g k).toInt = kd.toInt ∨ (g k).toInt = 8) then (k : Int) else tfd t g kd k
termination_by k
def ebs (m : Int32) (g : Nat → Int32) (k : Nat) (b : Int32) : Int32 :=
  match k with
  | 0 => b
  | k + 1 => ebs m g k (if (k : Int) < b.toInt ∧ m.toInt < (g k).toInt then Int32.ofNat k else b)
termination_by k
def caN (t : Int32) (tk : Nat → Int32) (kd : Int32) : Int32 := if 0 ≤ tfd t tk kd 24 then Int32.ofInt (tfd t tk kd 24) else t
def caB (t : Int32) (tk tm bm : Nat → Int32) (kd b : Int32) : Int32 := if 0 ≤ tfd t tk kd 24 then ebs (tm (tfd t tk kd 24).toNat) bm 24 b else b
def caA (t : Int32) (tk tp : Nat → Int32) (kd : Int32) : Int32 := if 0 ≤ tfd t tk kd 24 then tp (tfd t tk kd 24).toNat else -1
def hx32 (l o : Int32) : Int32 := if l.toInt = 2 then 16 else if l.toInt = 0 ∧ 0 ≤ o.toInt ∧ o.toInt < 8 then o else if l.toInt = 1 ∧ 0 ≤ o.toInt ∧ o.toInt < 8 then 8 + o else -1
def hAt (g : Nat → Int32) (v : Int32) : Int32 := if 0 ≤ v.toInt ∧ v.toInt < 17 then g (Int32.toNatClampNeg v) else 0
/- SLOTS -/
def sco (i : Nat) (x y z : Int32) (s : C9) : C9 := (C9.mk s.n s.f s.T (u2 (u2 (u2 s.G i 14 x) i 15 y) i 16 z) s.K s.F)
def k_clrF (i : Nat) (s : C9) : C9 := (C9.mk s.n s.f s.T (u2 (u2 (u2 (u2 (u2 s.G i 17 (-1)) i 18 (-1)) i 19 (-1)) i 20 0) i 21 0) s.K s.F)
def k_mem (i : Nat) (v x : Int32) (s : C9) : C9 := (C9.mk s.n s.f s.T s.G s.K (u2 (u2 s.F i 0 (st8 (s.F i 0) v 1)) i 1 (st8 (s.F i 1) v x)))
def k_read (s : C9) (i : Nat) (v : Int32) : Int32 :=
  if 0 ≤ v.toInt ∧ v.toInt < 8 then
    if (s.f 0 ((Int.toNat (Int32.toInt v)))).toInt = 1 then wrOr (s.F i 0) (s.F i 1) v (gvAt (s.F i 2) v)
    else if (s.f 0 ((Int.toNat (Int32.toInt v)))).toInt = 2 then wrOr (s.F (rt9 s.K i) 0) (s.F (rt9 s.K i) 1) v (s.f 1 ((Int.toNat (Int32.toInt v))))
    else if (s.f 0 ((Int.toNat (Int32.toInt v)))).toInt = 3 then bdOr (s.G i 14) (s.F i 3) (s.F i 4) v (gvAt (s.F i 2) v)
    else wrOr (s.F i 0) (s.F i 1) v (s.f 1 ((Int.toNat (Int32.toInt v))))
  else 0
def k_rebind (i : Nat) (v x : Int32) (s : C9) : C9 :=
  let s1 := sco i (s.G i 14) (s.G i 15) (s.G i 16) s
  (C9.mk s1.n s1.f s1.T s1.G s1.K (u2 (u2 s1.F i 3 (s.F i 3)) i 4 (rbF (s.G i 14) (s.F i 3) (s.F i 4) v x)))
def k_write (i : Nat) (v x : Int32) (s : C9) : C9 × Int32 :=
  if 0 ≤ v.toInt ∧ v.toInt < 8 then
    if (s.f 0 ((Int.toNat (Int32.toInt v)))).toInt = 2 then (k_mem (rt9 s.K i) v x s, -1)
    else if (s.f 0 ((Int.toNat (Int32.toInt v)))).toInt = 3 then
      (k_rebind i v x s, if 0 ≤ inn (s.G i 14) (s.F i 3) v 24 ∧ inn (s.G i 14) (s.F i 3) v 24 < 24 then -1 else 5)
    else (k_mem i v x s, -1)
  else (s, 5)
def k_reading (i : Nat) (v : Int32) (s : C9) : C9 × Int32 :=
  let z := k_read s i v
  let s1 : C9 := (C9.mk s.n s.f s.T (u2 s.G i 5 (s.G i 5 + z)) s.K s.F)
  let s2 := k_led 16 15 29 (s1.G i 0) v z (s1.G i 6) s1
  ((C9.mk (u1 s2.n 3 (s2.n 3 + 1)) s2.f s2.T s2.G s2.K s2.F), -1)
def k_bnd (i : Nat) (v x : Int32) (s : C9) : C9 :=
  let s1 := sco i (bnN (s.G i 14)) (s.G i 15) (s.G i 16) s
  (C9.mk s1.n s1.f s1.T s1.G s1.K (u2 (u2 (u2 s1.F i 3 (bnF (s.G i 14) (s.F i 3) v)) i 4 (bnF (s.G i 14) (s.F i 4) x)) i 5 (bnF (s.G i 14) (s.F i 5) (s.G i 16))))
def k_bind (i : Nat) (v x : Int32) (s : C9) : C9 × Int32 :=
  if 0 ≤ v.toInt ∧ v.toInt < 8 ∧ (s.f 0 ((Int.toNat (Int32.toInt v)))).toInt = 3 then (k_bnd i v x s, -1) else (s, 5)
/- THREADS -/
def b_come (i : Nat) (t : Nat) (s : C9) (k : C9 → C9) : C9 :=
  (s.T t).elim
    (let G1 := u2 (u2 s.G i 3 (Int32.ofNat t)) i 2 1
     (C9.mk s.n s.f (u1 s.T t (some i)) (u2 G1 i 4 (G1 i 4 + 1)) s.K s.F))
    (fun _ => k s)
def k_come (i : Nat) (s : C9) : C9 := itr (b_come i) (fun s => s) 0 (min 6 ((Int.toNat (Int32.toInt (s.n 1))))) s
def b_leave (i : Nat) (t : Nat) (s : C9) (k : C9 → C9) : C9 :=
  if (s.f 0 t).toInt = 0 then k (C9.mk s.n s.f s.T s.G s.K (u2 s.F i 0 (st8 (s.F i 0) (Int32.ofNat t) 0))) else k s
def k_leave (i : Nat) (s : C9) : C9 :=
  let s1 : C9 := if 0 ≤ (s.G i 3).toInt ∧ (s.G i 3).toInt < 6 then (C9.mk s.n s.f (u1 s.T ((Int.toNat (Int32.toInt (s.G i 3)))) none) s.G s.K s.F) else s
  itr (b_leave i) (fun s => s) 0 8 (C9.mk s1.n s1.f s1.T (u2 s1.G i 3 (-1)) s1.K s1.F)
def b_fill (t : Nat) (s : C9) (k : C9 → C9) : C9 := if (s.G t 2).toInt = 0 then k (k_come t s) else k s
def k_fill (s : C9) : C9 := itr b_fill (fun s => s) 0 ((Int.toNat (Int32.toInt (s.n 0)))) s
/- children -/
def awB (G : Nat → Nat → Int32) (c : Nat) (_ : Unit) (k : Unit → Bool) : Bool :=
  if (G c 12).toInt = 1 ∧ ¬ ((G c 2).toInt = 3 ∨ (G c 2).toInt = 4) then false else k ()
def k_aw (K : Nat → Nat → Option Nat) (G : Nat → Nat → Int32) (i : Nat) : Bool := cit K (awB G) (fun _ => true) 201 (K i 2) ()
def b_settle (c : Nat) (s : C9) (k : C9 → C9) : C9 := if (s.G c 12).toInt = 1 then k (C9.mk s.n s.f s.T (u2 s.G c 12 2) s.K s.F) else k s
def k_settle (i : Nat) (s : C9) : C9 := cit s.K b_settle (fun s => s) 201 (s.K i 2) s
def b_wake (t : Nat) (s : C9) (k : C9 → C9) : C9 :=
  if (s.G t 2).toInt = 2 then cond (k_aw s.K s.G t) (k (C9.mk s.n s.f s.T (u2 (u2 s.G t 2 0) t 9 1) s.K s.F)) (k s) else k s
def k_wake (s : C9) : C9 := itr b_wake (fun s => s) 0 ((Int.toNat (Int32.toInt (s.n 0)))) s
def k_notice (i : Nat) (s : C9) : C9 × Int32 := (k_settle i (C9.mk s.n s.f s.T (u2 (u2 s.G i 8 0) i 9 0) s.K s.F), 4)
def b_take (i : Nat) (c : Nat) (s : C9 × Option Nat × Int32) (k : C9 × Option Nat × Int32 → C9 × Int32) : C9 × Int32 :=
  if (s.1.G c 12).toInt = 1 ∧ (s.1.G c 2).toInt = 3 then k ((C9.mk s.1.n s.1.f s.1.T (u2 s.1.G i 5 (s.1.G i 5 + s.1.G c 5)) s.1.K s.1.F), s.2.1, s.2.2)
  else if (s.1.G c 12).toInt = 1 ∧ (s.1.G c 2).toInt = 4 then k (s.1, s.2.1.elim (some c) some, s.2.2 + 1)
  else k s
def f_take (i : Nat) (s : C9 × Option Nat × Int32) : C9 × Int32 :=
  let s1 := k_settle i s.1
  let s2 : C9 := (C9.mk s1.n s1.f s1.T (u2 s1.G i 9 0) s1.K s1.F)
  s.2.1.elim (s2, -1) (fun j =>
    let s3 : C9 := (C9.mk s2.n s2.f s2.T (u2 (u2 s2.G i 19 (s2.G j 0)) i 20 (s.2.2 - 1)) s2.K s2.F)
    (s3, s3.G j 17))
def k_take (i : Nat) (s : C9) : C9 × Int32 := cit s.K (b_take i) (f_take i) 201 (s.K i 2) (s, none, 0)
def k_stand (i : Nat) (s : C9) : C9 × Int32 := if ¬ (s.G i 8).toInt = 0 then k_notice i s else k_take i s
def b_gather (c : Nat) (s : C9) (k : C9 → C9 × Int32) : C9 × Int32 := if (s.G c 12).toInt = 0 then k (C9.mk s.n s.f s.T (u2 s.G c 12 1) s.K s.F) else k s
def f_gather (i : Nat) (s : C9) : C9 × Int32 := cond (k_aw s.K s.G i) (k_take i s) ((C9.mk s.n s.f s.T (u2 s.G i 2 2) s.K s.F), -2)
def k_gather (i : Nat) (s : C9) : C9 × Int32 := cit s.K b_gather (f_gather i) 201 (s.K i 2) s
/- FAILURES -/
def k_end (i : Nat) (s : C9) : C9 × Int32 :=
  let s1 : C9 := (C9.mk s.n s.f s.T (u2 (u2 s.G i 2 3) i 7 (s.n 2)) s.K s.F)
  (sco i 0 (s1.G i 15) (s1.G i 16) s1, -2)
def k_fail (i : Nat) (v : Int32) (s : C9) : C9 :=
  let s1 := sco i (caB (s.G i 15) (s.F i 6) (s.F i 8) (s.F i 5) v (s.G i 14)) (caN (s.G i 15) (s.F i 6) v) (s.G i 16) s
  let s2 : C9 := (C9.mk s1.n s1.f s1.T s1.G s1.K (u2 (u2 (u2 (u2 s1.F i 5 (s.F i 5)) i 6 (s.F i 6)) i 7 (s.F i 7)) i 8 (s.F i 8)))
  if ¬ (caA (s.G i 15) (s.F i 6) (s.F i 7) v).toInt = -1 then (C9.mk s2.n s2.f s2.T (u2 s2.G i 6 (caA (s.G i 15) (s.F i 6) (s.F i 7) v)) s2.K s2.F)
  else
    let s3 : C9 := (C9.mk s2.n s2.f s2.T (u2 s2.G i 17 v) s2.K s2.F)
    let s4 : C9 := (C9.mk s3.n s3.f s3.T (u2 s3.G i 18 (s3.G i 6)) s3.K s3.F)
    let s5 : C9 := (C9.mk s4.n s4.f s4.T (u2 (u2 s4.G i 2 4) i 7 (s4.n 2)) s4.K s4.F)
    sco i 0 (s5.G i 15) (s5.G i 16) s5
def a_ask (i : Nat) (t : Nat) (x : Int32) (s : C9 × Int32) (k : C9 × Int32 → C9) : C9 :=
  if ¬ (hAt (s.1.f 26) x).toInt = 0 then
    if ¬ (hAt (s.1.f 28) x).toInt = 0 then
      let s1 := k_led 19 18 30 (s.1.G i 0) (Int32.ofNat t) (hAt (s.1.f 27) x) 1 s.1
      k ((C9.mk (u1 s1.n 4 (s1.n 4 + 1)) s1.f s1.T s1.G s1.K s1.F), 1)
    else
      let s1 := k_led 19 18 30 (s.1.G i 0) (Int32.ofNat t) (hAt (s.1.f 27) x) 0 s.1
      k ((C9.mk (u1 s1.n 4 (s1.n 4 + 1)) s1.f s1.T s1.G s1.K s1.F), 0)
  else k s
def b_ask (i : Nat) (t : Nat) (s : C9 × Int32) (k : C9 × Int32 → C9) : C9 :=
  if ¬ s.2.toInt = 0 then
    if t = 0 then a_ask i t (hx32 (Int32.ofNat t) (s.1.G i 1)) s k else a_ask i t (hx32 (Int32.ofNat t) (s.1.G i 17)) s k
  else s.1
def k_ask (i : Nat) (s : C9) : C9 := itr (b_ask i) (fun s => s.1) 0 3 ((C9.mk s.n s.f s.T (u2 s.G i 21 1) s.K s.F), 1)
def b_tell (c : Nat) (s : C9) (k : C9 → C9) : C9 := if (s.G c 2).toInt = 4 ∧ (s.G c 12).toInt = 0 then k (k_ask c s) else k s
def forsaken (s : C9) (i : Nat) : Prop := (s.K i 0).elim True (fun g => ((s.G g 2).toInt = 3 ∨ (s.G g 2).toInt = 4) ∧ (s.G i 12).toInt = 0)
def k_tell (i : Nat) (s : C9) : C9 :=
  (s.K i 0).elim
    (if (s.G i 2).toInt = 4 then cit s.K b_tell (fun s => s) 201 ((k_ask i s).K i 2) (k_ask i s) else cit s.K b_tell (fun s => s) 201 (s.K i 2) s)
    (fun g => if (s.G i 2).toInt = 4 ∧ ((s.G g 2).toInt = 3 ∨ (s.G g 2).toInt = 4) ∧ (s.G i 12).toInt = 0 then cit s.K b_tell (fun s => s) 201 ((k_ask i s).K i 2) (k_ask i s) else cit s.K b_tell (fun s => s) 201 (s.K i 2) s)
def k_note (i : Nat) (s : C9) : C9 :=
  let s1 := k_add 21 20 31 (256 * s.G i 0 + s.G i 3) s
  k_clrF i (C9.mk (u1 s1.n 5 (s1.n 5 + 1)) s1.f s1.T s1.G s1.K s1.F)
def d_close (i : Nat) (s : C9) : C9 := if (s.G i 2).toInt = 3 ∨ (s.G i 2).toInt = 4 then k_tell i s else s
def c_close (i : Nat) (s : C9) : C9 := if ¬ (s.G i 2).toInt = 1 then d_close i (k_leave i s) else d_close i s
def k_close (i : Nat) (v : Int32) (s : C9) : C9 :=
  if v.toInt = -1 then c_close i (C9.mk s.n s.f s.T (u2 s.G i 6 (s.G i 6 + 1)) s.K s.F)
  else if v.toInt = -2 then c_close i s
  else c_close i (k_fail i v s)
/- RUNS -/
def k_kinN (i : Nat) (s : C9) : C9 :=
  (C9.mk s.n s.f s.T (u2 (u2 (u2 (u2 s.G i 10 0) i 11 0) i 12 0) i 13 0) (u2 (u2 (u2 (u2 (u2 s.K i 0 none) i 1 none) i 2 none) i 3 none) i 4 none) s.F)
def k_kinR (i q : Nat) (s : C9) : C9 :=
  let s1 : C9 := (C9.mk s.n s.f s.T s.G (u2 s.K i 0 (some q)) s.F)
  let s2 : C9 := (C9.mk s1.n s1.f s1.T s1.G (u2 s1.K i 1 (some (rt9 s1.K q))) s1.F)
  let s3 : C9 := (C9.mk s2.n s2.f s2.T (u2 s2.G i 10 (s2.G q 10 + 1)) s2.K s2.F)
  (C9.mk s3.n s3.f s3.T (u2 (u2 (u2 s3.G i 11 (s3.G q 6)) i 12 0) i 13 0) (u2 (u2 (u2 s3.K i 2 none) i 3 none) i 4 none) s3.F)
def k_beg0 (i : Nat) (e : Int32) (s : C9) : C9 :=
  (C9.mk s.n s.f s.T (u2 (u2 (u2 (u2 (u2 (u2 (u2 (u2 (u2 s.G i 1 e) i 2 0) i 3 (-1)) i 4 0) i 5 0) i 6 0) i 7 (-1)) i 8 0) i 9 0) s.K s.F)
def k_beg1 (i : Nat) (s : C9) : C9 :=
  let s1 : C9 := (C9.mk s.n s.f s.T s.G s.K (u2 (u2 s.F i 0 (clr8 (s.F i 0) 8)) i 2 (clr8 (s.F i 2) 8)))
  let s2 := k_clrF i (sco i 0 0 0 s1)
  (C9.mk s2.n s2.f s2.T (u2 s2.G i 23 0) s2.K s2.F)
def k_begN (i : Nat) (e : Int32) (s : C9) : C9 := k_beg1 i (k_kinN i (k_beg0 i e s))
def k_begR (i q : Nat) (e : Int32) (s : C9) : C9 := k_beg1 i (k_kinR i q (k_beg0 i e s))
def b_giveN (i : Nat) (t : Nat) (s : C9) (k : C9 → C9) : C9 := k (C9.mk s.n s.f s.T s.G s.K (u2 s.F i 2 (st8 (s.F i 2) (Int32.ofNat t) (s.f 1 t))))
def b_giveR (i q : Nat) (t : Nat) (s : C9) (k : C9 → C9) : C9 := k (C9.mk s.n s.f s.T s.G s.K (u2 s.F i 2 (st8 (s.F i 2) (Int32.ofNat t) (k_read s q (Int32.ofNat t)))))
def f_open (s : C9) : C9 := (C9.mk (u1 s.n 0 (s.n 0 + 1)) s.f s.T s.G s.K s.F)
def k_openN (e : Int32) (s : C9) : C9 :=
  if (s.n 0).toInt < 200 then itr (b_giveN ((Int.toNat (Int32.toInt (s.n 0))))) f_open 0 8 (k_begN ((Int.toNat (Int32.toInt (s.n 0)))) e s) else s
def k_openR (q : Nat) (e : Int32) (s : C9) : C9 :=
  if (s.n 0).toInt < 200 then itr (b_giveR ((Int.toNat (Int32.toInt (s.n 0)))) q) f_open 0 8 (k_begR ((Int.toNat (Int32.toInt (s.n 0)))) q e s) else s
def k_adopt (k c : Nat) (s : C9) : C9 :=
  let s1 : C9 := (s.K k 3).elim (C9.mk s.n s.f s.T s.G (u2 s.K k 2 (some c)) s.F) (fun j => (C9.mk s.n s.f s.T s.G (u2 s.K j 4 (some c)) s.F))
  (C9.mk s1.n s1.f s1.T (u2 s1.G k 13 (s1.G k 13 + 1)) (u2 s1.K k 3 (some c)) s1.F)
def b_hand (i : Nat) (e w : Int32) (_ : Nat) (s : C9) (k : C9 → C9 × Int32) : C9 × Int32 :=
  if 6 ≤ (s.G i 10).toInt then (s, 6)
  else
    let s1 := k_openR i e s
    if (s.n 0).toInt < 200 then
      let s2 := k_adopt i ((Int.toNat (Int32.toInt (s.n 0)))) s1
      if ¬ w.toInt = 0 then k (C9.mk s2.n s2.f s2.T (u2 (u2 s2.G ((Int.toNat (Int32.toInt (s.n 0)))) 12 1) i 2 2) s2.K s2.F) else k s2
    else (s1, 7)
def k_hand (i : Nat) (e p w : Int32) (s : C9) : C9 × Int32 := itr (b_hand i e w) (fun s => (s, if ¬ w.toInt = 0 then -2 else -1)) 0 ((Int.toNat (Int32.toInt p))) s
/- a STEP -/
def k_op (i : Nat) (o a b : Int32) (s : C9) : C9 × Int32 :=
  if o.toInt = 0 then k_write i a b s
  else if o.toInt = 1 then k_reading i a s
  else if o.toInt = 2 then k_bind i a b s
  else if o.toInt = 3 then (sco i (frN (s.G i 14) (s.F i 3) a) (s.G i 15) (s.G i 16) (C9.mk s.n s.f s.T s.G s.K (u2 s.F i 3 (s.F i 3))), if frP (s.G i 14) (s.F i 3) a then -1 else 5)
  else if o.toInt = 4 then k_hand i a 1 (if b.toInt = 1 then 1 else 0) s
  else if o.toInt = 5 then k_hand i a b 0 s
  else if o.toInt = 6 then k_gather i s
  else if o.toInt = 7 then (k_rem (rt9 s.K i) b s, -1)
  else if o.toInt = 8 then (s, a)
  else if o.toInt = 9 then
    let s1 := sco i (s.G i 14) (bnN (s.G i 15)) (bnM (s.G i 15) (s.G i 16)) s
    ((C9.mk s1.n s1.f s1.T s1.G s1.K (u2 (u2 (u2 s1.F i 6 (bnF (s.G i 15) (s.F i 6) a)) i 7 (bnF (s.G i 15) (s.F i 7) b)) i 8 (bnF (s.G i 15) (s.F i 8) (s.G i 16)))), -1)
  else if o.toInt = 10 then (sco i (s.G i 14) (ctN (s.G i 15)) (s.G i 16) s, if 0 < (s.G i 15).toInt then -1 else 5)
  else if o.toInt = 11 then ((C9.mk s.n s.f s.T (u2 s.G i 5 (s.G i 5 + b)) s.K s.F), -1)
  else k_end i s
def k_step (i : Nat) (s : C9) : C9 × Int32 :=
  let e := (Int.toNat (Int32.toInt (s.G i 1)))
  let p := (Int.toNat (Int32.toInt (s.G i 6)))
  if 0 ≤ (s.G i 1).toInt ∧ (s.G i 1).toInt < 8 ∧ 0 ≤ (s.G i 6).toInt ∧ (s.G i 6).toInt < (s.n (6 + e)).toInt ∧ (s.G i 6).toInt < 24 then
    k_op i (s.f (2 + 3 * e) p) (s.f (3 + 3 * e) p) (s.f (4 + 3 * e) p) s
  else k_end i s
def b_turn (t : Nat) (s : C9) (k : C9 → C9) : C9 :=
  if (s.G t 2).toInt = 1 then
    let s1 := k_note t s
    let p := if ¬ (s1.G t 8).toInt = 0 ∨ ¬ (s1.G t 9).toInt = 0 then k_stand t s1 else k_step t s1
    k (k_close t p.2 p.1)
  else k s
def k_turns (s : C9) : C9 := itr b_turn (fun s => s) 0 ((Int.toNat (Int32.toInt (s.n 0)))) s
def wlB (G : Nat → Nat → Int32) (t : Nat) (_ : Unit) (k : Unit → Bool) : Bool := if (G t 2).toInt = 3 ∨ (G t 2).toInt = 4 then k () else true
def k_wl (s : C9) : Bool := itr (wlB s.G) (fun _ => false) 0 ((Int.toNat (Int32.toInt (s.n 0)))) ()
def b_beat (t : Nat) (s : C9) (k : C9 → C9 × Int32) : C9 × Int32 :=
  cond (k_wl s) (k (k_wake (k_turns (k_fill (C9.mk (u1 s.n 2 (s.n 2 + 1)) s.f s.T s.G s.K s.F))))) (s, Int32.ofNat t)
def k_beat (v : Int32) (s : C9) : C9 × Int32 :=
  if v.toInt < 1 ∨ 100 < v.toInt then (s, -1) else itr b_beat (fun s => (s, v)) 0 ((Int.toNat (Int32.toInt v))) s
/- the rest of the face -/
def isR (s : C9) (v : Int32) : Prop := 0 ≤ v.toInt ∧ v.toInt < (s.n 0).toInt
def k_slot (a b c : Int32) (s : C9) : C9 × Int32 :=
  if 0 ≤ a.toInt ∧ a.toInt < 8 ∧ 0 ≤ b.toInt ∧ b.toInt ≤ 4 ∧ (s.n 0).toInt ≤ 0 then
    ((C9.mk s.n (u1 (u1 s.f 0 (upd (s.f 0) ((Int.toNat (Int32.toInt a))) b)) 1 (upd (s.f 1) ((Int.toNat (Int32.toInt a))) c)) s.T s.G s.K s.F), 1) else (s, 0)
def k_first (a b : Int32) (s : C9) : C9 × Int32 :=
  if 0 ≤ a.toInt ∧ a.toInt < 8 then ((C9.mk s.n (u1 s.f 1 (upd (s.f 1) ((Int.toNat (Int32.toInt a))) b)) s.T s.G s.K s.F), 1) else (s, 0)
abbrev fits (o a b t : Int) : Prop := (o = 0 ∨ o = 1 ∨ o = 2 ∨ o = 3) ∧ 0 ≤ a ∧ a < 8 ∨ o = 4 ∧ 0 ≤ a ∧ a < 8 ∧ (b = 0 ∨ b = 1) ∨ o = 5 ∧ 0 ≤ a ∧ a < 8 ∧ 2 ≤ b ∧ b ≤ 4 ∨ o = 8 ∧ 0 ≤ a ∧ a < 4 ∨ o = 9 ∧ 0 ≤ a ∧ a ≤ 8 ∧ t < b ∧ b ≤ 24 ∨ o = 6 ∨ o = 7 ∨ o = 10 ∨ o = 11 ∨ o = 12
def k_sadd (e : Nat) (o a b : Int32) (s : C9) : C9 :=
  (C9.mk (u1 s.n (6 + e) (bnN (s.n (6 + e)))) (u1 (u1 (u1 s.f (1 + 1 + 3 * e) (bnF (s.n (6 + e)) (s.f (2 + 3 * e)) o)) (1 + 2 + 3 * e) (bnF (s.n (6 + e)) (s.f (3 + 3 * e)) a)) (1 + 3 + 3 * e) (bnF (s.n (6 + e)) (s.f (4 + 3 * e)) b)) s.T s.G s.K s.F)
def k_stepIn (v o a b : Int32) (s : C9) : C9 × Int32 :=
  if 0 ≤ v.toInt ∧ v.toInt < 8 ∧ (s.n 0).toInt ≤ 0 ∧ (s.n (6 + (Int.toNat (Int32.toInt v)))).toInt < 24 ∧ fits o.toInt a.toInt b.toInt (s.n (6 + (Int.toNat (Int32.toInt v)))).toInt then
    let s1 := k_sadd ((Int.toNat (Int32.toInt v))) o a b s
    (s1, s1.n (6 + (Int.toNat (Int32.toInt v))))
  else (s, -1)
def b_wipe (t : Nat) (s : C9) (k : C9 → C9) : C9 := k (C9.mk (u1 s.n (6 + t) 0) s.f s.T s.G s.K s.F)
def b_off (t : Nat) (s : C9) (k : C9 → C9) : C9 := k (C9.mk s.n s.f (u1 s.T t none) s.G s.K s.F)
def k_wipe (s : C9) : C9 := itr b_wipe (fun s => s) 0 8 s
def f_anew (v : Int32) (s : C9) : C9 :=
  let s1 : C9 := (C9.mk (u1 (u1 (u1 (u1 (u1 (u1 s.n 16 0) 3 0) 19 0) 4 0) 21 0) 5 0) s.f s.T s.G s.K s.F)
  if ¬ v.toInt = 0 then k_wipe s1 else s1
def k_anew (v : Int32) (s : C9) : C9 := itr b_off (f_anew v) 0 6 (C9.mk (u1 (u1 s.n 0 0) 2 0) s.f s.T s.G s.K s.F)
def k_threads (v : Int32) (s : C9) : C9 × Int32 :=
  if 1 ≤ v.toInt ∧ v.toInt ≤ 6 ∧ (s.n 0).toInt ≤ 0 then ((C9.mk (u1 s.n 1 v) s.f s.T s.G s.K s.F), 1) else (s, 0)
def k_handler (l o v t : Int32) (s : C9) : C9 × Int32 :=
  if (hx32 l o).toInt = -1 then (s, 0)
  else ((C9.mk s.n (u1 (u1 (u1 s.f 26 (st17 (s.f 26) (hx32 l o) 1)) 27 (st17 (s.f 27) (hx32 l o) v)) 28 (st17 (s.f 28) (hx32 l o) t)) s.T s.G s.K s.F), 1)
def k_submit (v : Int32) (s : C9) : C9 × Int32 :=
  if 0 ≤ v.toInt ∧ v.toInt < 8 then
    let s1 := k_openN v s
    if (s.n 0).toInt < 200 then (s1, s1.G ((Int.toNat (Int32.toInt (s.n 0)))) 0) else (s1, -1)
  else (s, -1)
def k_interrupt (v : Int32) (s : C9) : C9 × Int32 :=
  let i := (Int.toNat (Int32.toInt v))
  if 0 ≤ v.toInt ∧ v.toInt < (s.n 0).toInt ∧ ¬ ((s.G i 2).toInt = 3 ∨ (s.G i 2).toInt = 4) ∧ (s.G i 8).toInt = 0 then
    let s1 : C9 := (C9.mk s.n s.f s.T (u2 s.G i 8 1) s.K s.F)
    if (s1.G i 2).toInt = 2 then ((C9.mk s1.n s1.f s1.T (u2 s1.G i 2 0) s1.K s1.F), 1) else (s1, 1)
  else (s, 0)
/- what is asked -/
def cntB (G : Nat → Nat → Int32) (v : Int32) (t : Nat) (c : Int32) (k : Int32 → Int32) : Int32 := if (G t 2).toInt = v.toInt then k (c + 1) else k c
def k_cnt (v : Int32) (s : C9) : Int32 := itr (cntB s.G v) (fun c => c) 0 ((Int.toNat (Int32.toInt (s.n 0)))) 0
def k_onT (v : Int32) (s : C9) : Int32 := if v.toInt < 16 ∨ (16 + s.n 1).toInt ≤ v.toInt ∨ 6 ≤ (v - 16).toInt then -1 else (s.T ((Int.toNat (Int32.toInt (v - 16))))).elim (-1) (fun j => s.G j 0)
def k_failure (a b : Int32) (s : C9) : Int32 :=
  if 0 ≤ a.toInt ∧ a.toInt < (s.n 0).toInt ∧ (s.G ((Int.toNat (Int32.toInt a))) 2).toInt = 4 then
    if b.toInt = 0 then s.G ((Int.toNat (Int32.toInt a))) 17 else if b.toInt = 1 then s.G ((Int.toNat (Int32.toInt a))) 18 else if b.toInt = 2 then s.G ((Int.toNat (Int32.toInt a))) 19 else if b.toInt = 3 then s.G ((Int.toNat (Int32.toInt a))) 20
    else if b.toInt = 4 then (if ¬ (s.G ((Int.toNat (Int32.toInt a))) 21).toInt = 0 then 1 else 0) else -1
  else -1
def b_trace (G : Nat → Nat → Int32) (K : Nat → Nat → Option Nat) (_ : Nat) (p : Nat × Int32) (k : Nat × Int32 → Int32) : Int32 := (K p.1 0).elim (-1) (fun g => k (g, G p.1 11))
def k_trace (a b : Int32) (s : C9) : Int32 :=
  if 0 ≤ a.toInt ∧ a.toInt < (s.n 0).toInt ∧ (s.G ((Int.toNat (Int32.toInt a))) 2).toInt = 4 ∧ 0 ≤ b.toInt ∧ b.toInt ≤ (s.G ((Int.toNat (Int32.toInt a))) 10).toInt then
    itr (b_trace s.G s.K) (fun p => 32 * s.G p.1 1 + p.2) 0 ((Int.toNat (Int32.toInt b))) ((Int.toNat (Int32.toInt a)), s.G ((Int.toNat (Int32.toInt a))) 18)
  else -1
def b_child (G : Nat → Nat → Int32) (b : Int32) (c : Nat) (x : Int32) (k : Int32 → Int32) : Int32 := if x.toInt = b.toInt then G c 0 else k (x + 1)
def k_child (a b : Int32) (s : C9) : Int32 :=
  if 0 ≤ a.toInt ∧ a.toInt < (s.n 0).toInt ∧ 0 ≤ b.toInt ∧ b.toInt < (s.G ((Int.toNat (Int32.toInt a))) 13).toInt then cit s.K (b_child s.G b) (fun _ => -1) 201 (s.K ((Int.toNat (Int32.toInt a))) 2) 0 else -1
def k_value (a b : Int32) (s : C9) : Int32 := if 0 ≤ a.toInt ∧ a.toInt < (s.n 0).toInt ∧ 0 ≤ b.toInt ∧ b.toInt < 8 then k_read s ((Int.toNat (Int32.toInt a))) b else 0
def k_lat (kl kn kf : Nat) (a b : Int32) (s : C9) : Int32 :=
  if 0 ≤ a.toInt ∧ a.toInt < (s.n kl).toInt ∧ 0 ≤ b.toInt ∧ b.toInt < 4 ∧ 4 * a.toInt + b.toInt < (s.n kn).toInt then s.f kf (4 * a.toInt + b.toInt).toNat else -1
def k_seen (a b : Int32) (s : C9) : Int32 := k_lat 14 16 29 a b s
def k_handled (a b : Int32) (s : C9) : Int32 := k_lat 17 19 30 a b s
def cAt (us : Int32) (g : Nat → Int32) (v : Int32) : Int32 := if 0 ≤ v.toInt ∧ v.toInt < us.toInt then g (Int32.toNatClampNeg v) else 0
def k_order (a : Int32) (s : C9) : Int32 := if 0 ≤ a.toInt ∧ a.toInt < (s.n 21).toInt then cAt (s.n 21) (s.f 31) a else -1
def k_remark (a b : Int32) (s : C9) : Int32 :=
  if 0 ≤ a.toInt ∧ a.toInt < (s.n 0).toInt then
    (s.K ((Int.toNat (Int32.toInt a))) 0).elim (if 0 ≤ b.toInt ∧ b.toInt < (s.G ((Int.toNat (Int32.toInt a))) 23).toInt then cAt (s.G ((Int.toNat (Int32.toInt a))) 23) (s.F ((Int.toNat (Int32.toInt a))) 9) b else 0) (fun _ => 0)
  else 0
def k_count (a : Int32) (s : C9) : Int32 :=
  if a.toInt = 0 then s.n 0 else if a.toInt = 1 then s.n 2 else if a.toInt = 2 then s.n 1 else if a.toInt = 3 then k_cnt 0 s else if a.toInt = 4 then k_cnt 1 s
  else if a.toInt = 5 then k_cnt 2 s else if a.toInt = 6 then k_cnt 3 s else if a.toInt = 7 then k_cnt 4 s else if a.toInt = 8 then s.n 3 else if a.toInt = 9 then s.n 4
  else if a.toInt = 10 then s.n 5 else k_onT a s
theorem i_ext {x y : Int32} (h : x.toInt = y.toInt) : x = y := Int32.toInt_inj.mp h
theorem inn_0 (b : Int32) (g : Nat → Int32) (v : Int32) : inn b g v 0 = -1 := by rw [inn] <;> rfl
theorem inn_s (b : Int32) (g : Nat → Int32) (v : Int32) (k : Nat) : inn b g v (k + 1) = if (k : Int) < b.toInt ∧ (g k).toInt = v.toInt then (k : Int) else inn b g v k := by rw [inn] <;> rfl
theorem tfd_0 (t : Int32) (g : Nat → Int32) (kd : Int32) : tfd t g kd 0 = -1 := by rw [tfd] <;> rfl
theorem tfd_s (t : Int32) (g : Nat → Int32) (kd : Int32) (k : Nat) : tfd t g kd (k + 1) = if (k : Int) < t.toInt ∧ ((g k).toInt = kd.toInt ∨ (g k).toInt = 8) then (k : Int) else tfd t g kd k := by rw [tfd] <;> rfl
theorem ebs_0 (m : Int32) (g : Nat → Int32) (b : Int32) : ebs m g 0 b = b := by rw [ebs] <;> rfl
theorem ebs_s (m : Int32) (g : Nat → Int32) (k : Nat) (b : Int32) : ebs m g (k + 1) b = ebs m g k (if (k : Int) < b.toInt ∧ m.toInt < (g k).toInt then Int32.ofNat k else b) := by rw [ebs] <;> rfl
