/-! ===== THE CLASS, AS FUNCTIONS OF ITS MEMORY ===== -/
/- families: 0 kernel, 1 Program, 2 its parts, 3 Frames, 4 ints, 5 isTaken, 6 guests[], 7 Guest, 8 registers, 9 pages, 10 processors[], 11 Processor, 12 Row (0 1 ready, 2+k senders, 6+k receivers, 10+k lock: as the reference's rows), 13 its numbers, 14 locks[], 15 Lock, 16 channels[], 17 Channel, 18 its ints -/
abbrev k_rem (x y : Int32) : Int32 := x - x / y * y
def g_rng (f i j : Nat) (x : Int32) : Prop := match f, j with
  | 2, j => if j % 4 = 0 then vp_in x 22 else if j % 4 = 3 then True else vp_in x 4
  | 7, 0 => x = nI i
  | 7, 4 => vp_in x 32
  | 7, 12 => vp_in x 4
  | 9, _ => x = -1 ∨ vp_in x 12
  | 11, 1 => x = -1 ∨ vp_in x 6
  | 12, 1 => vp_in x 6
  | 12, 2 => 0 ≤ x ∧ x ≤ 6
  | 13, _ => vp_in x 6
  | 15, 1 => x = -1 ∨ vp_in x 6
  | 17, 3 => 0 ≤ x ∧ x ≤ 2
  | _, _ => True
abbrev g_Inv (K : kM) : Prop := k_Inv g_rng K
def g_out (v b : Int32) : Int32 := if v < 0 then 1 else if v < b then 0 else 1
def g_fm (x y : Int32) : Int32 := if 0 ≤ x ^^^ y then k_rem x y else if k_rem x y = 0 then k_rem x y else k_rem x y + y
def g_goTo (K : kM) (g : Nat) (t : Int32) : kM := k_up K 7 g 4 (g_fm t 32)
def g_qleft (K : kM) (g : Nat) : Int32 := K 7 g 6 - K 7 g 7 - K 7 g 8
def g_fill (K : kM) (f i : Nat) (v : Int32) : Nat → kM
  | 0 => K
  | n + 1 => k_up (g_fill K f i v n) f i n v
def g_begin (K : kM) (g : Nat) (t q p : Int32) : kM :=
  k_up (k_up (k_up (k_up (k_up (k_up (k_up (g_goTo (g_fill (g_fill K 8 g 0 4) 9 g (-1) 4) g t) 7 g 5 (-1)) 7 g 6 q) 7 g 7 0) 7 g 8 0) 7 g 9 p) 7 g 10 0) 7 g 11 0
def g_part (K : kM) (pl w : Int32) : Int32 := K 2 0 (pl * 4 + w).toNatClampNeg
def g_write (K : kM) (i op a b n : Int32) : kM := k_up (k_up (k_up (k_up K 2 0 (i * 4 + 0).toNatClampNeg op) 2 0 (i * 4 + 1).toNatClampNeg a) 2 0 (i * 4 + 2).toNatClampNeg b) 2 0 (i * 4 + 3).toNatClampNeg n
def g_rowAdd (K : kM) (r : Nat) (x : Int32) : kM := if 6 ≤ K 12 r 2 then K else
  k_up (k_up K 13 r (k_rem (K 12 r 1 + K 12 r 2) 6).toNatClampNeg x) 12 r 2 (k_up K 13 r (k_rem (K 12 r 1 + K 12 r 2) 6).toNatClampNeg x 12 r 2 + 1)
def g_rowX (K : kM) (r : Nat) : Int32 := if K 12 r 2 = 0 then -1 else K 13 r (K 12 r 1).toNatClampNeg
def g_rowT (K : kM) (r : Nat) : kM := if K 12 r 2 = 0 then K else
  k_up (k_up K 12 r 1 (k_rem (K 12 r 1 + 1) 6)) 12 r 2 (k_up K 12 r 1 (k_rem (K 12 r 1 + 1) 6) 12 r 2 - 1)
def g_full (K : kM) (k : Nat) : Int32 := if K 17 k 3 < 2 then 0 else 1
def g_put (K : kM) (k : Nat) (v : Int32) : kM := if g_full K k = 0 then k_up (k_up K 18 k (K 17 k 3).toNatClampNeg v) 17 k 3 (k_up K 18 k (K 17 k 3).toNatClampNeg v 17 k 3 + 1) else K
def g_chT (K : kM) (k : Nat) : kM := if K 17 k 3 ≤ 0 then K else
  k_row (k_up K 17 k 3 (K 17 k 3 - 1)) 18 k (va_cpy (k_up K 17 k 3 (K 17 k 3 - 1) 18 k) (k_up K 17 k 3 (K 17 k 3 - 1) 18 k) 1 0 (k_up K 17 k 3 (K 17 k 3 - 1) 17 k 3).toNatClampNeg)
def g_read (K : kM) (f i : Int32) : Int32 := K 4 0 (f * 8 + i).toNatClampNeg
def g_store (K : kM) (f i v : Int32) : kM := k_up K 4 0 (f * 8 + i).toNatClampNeg v
def g_clear (K : kM) (f : Int32) : Nat → kM
  | 0 => K
  | n + 1 => g_store (g_clear K f n) f (nI n) 0
def g_frX (K : kM) : Nat → Nat → Int32
  | 0, _ => -1
  | n + 1, i => if K 5 0 i = 0 then nI i else g_frX K n (i + 1)
def g_frT (K : kM) : Nat → Nat → kM
  | 0, _ => K
  | n + 1, i => if K 5 0 i = 0 then g_clear (k_up (k_up K 5 0 i 1) 3 0 2 (k_up K 5 0 i 1 3 0 2 - 1)) (nI i) 8 else g_frT K n (i + 1)
def g_give (K : kM) (f : Int32) : kM := k_up (k_up K 5 0 f.toNatClampNeg 0) 3 0 2 (k_up K 5 0 f.toNatClampNeg 0 3 0 2 + 1)
def g_ready (K : kM) (g : Nat) : kM := g_rowAdd (k_up K 7 g 3 0) (k_rem (k_up K 7 g 3 0 7 g 0) 2).toNatClampNeg (k_up K 7 g 3 0 7 g 0)
def g_block (K : kM) (g : Nat) (a : Int32) (r : Nat) : kM := g_rowAdd (k_up (k_up K 7 g 3 2) 7 g 12 a) r (k_up (k_up K 7 g 3 2) 7 g 12 a 7 g 0)
def g_next (K : kM) (p : Nat) : kM := if g_rowX K p = -1 then g_rowT K p else
  k_up (k_up (k_up (k_up (g_rowT K p) 7 (g_rowX K p).toNatClampNeg 3 1) 11 p 1 (g_rowX K p)) 11 p 2 3) 0 0 12 (k_up (k_up (k_up (g_rowT K p) 7 (g_rowX K p).toNatClampNeg 3 1) 11 p 1 (g_rowX K p)) 11 p 2 3 0 0 12 + 1)
def g_dropX (K : kM) (g : Nat) (p : Int32) : Int32 := if K 9 g p.toNatClampNeg = -1 then 0 else 1
def g_drop (K : kM) (g : Nat) (p : Int32) : kM := if K 9 g p.toNatClampNeg = -1 then K else
  g_give (k_up (k_up K 9 g p.toNatClampNeg (-1)) 7 g 7 (k_up K 9 g p.toNatClampNeg (-1) 7 g 7 - 1)) (K 9 g p.toNatClampNeg)
def g_pass (K : kM) (k : Nat) : kM := if k_up (g_rowT K (10 + k)) 15 k 1 (g_rowX K (10 + k)) 15 k 1 = -1 then k_up (g_rowT K (10 + k)) 15 k 1 (g_rowX K (10 + k)) else
  g_ready (k_up (g_rowT K (10 + k)) 15 k 1 (g_rowX K (10 + k))) (k_up (g_rowT K (10 + k)) 15 k 1 (g_rowX K (10 + k)) 15 k 1).toNatClampNeg
def g_ho1 (K : kM) (g i : Nat) : kM := if K 7 i 3 = -1 then K else if K 7 i 9 = K 7 g 0 then k_up K 7 i 9 (K 7 g 9) else K
def g_ho (K : kM) (g : Nat) : Nat → kM
  | 0 => K
  | n + 1 => g_ho1 (g_ho K g n) g n
def g_hand (K : kM) (g : Nat) : kM := k_up (k_up (g_ho K g 6) 7 g 6 (g_ho K g 6 7 g 6 - g_ho K g 6 7 g 8)) 7 g 8 0
def g_dr (K : kM) (g : Nat) : Nat → kM
  | 0 => K
  | n + 1 => g_drop (g_dr K g n) g (nI n)
def g_ul1 (K : kM) (g k : Nat) : kM := if K 15 k 1 = K 7 g 0 then g_pass K k else K
def g_ul (K : kM) (g : Nat) : Nat → kM
  | 0 => K
  | n + 1 => g_ul1 (g_ul K g n) g n
def g_end (K : kM) (g : Nat) (oc : Int32) : kM := g_hand (g_ul (g_dr (k_up (k_up K 7 g 3 3) 7 g 10 oc) g 4) g 4) g
def g_addr (K : kM) (g : Nat) (a : Int32) : Int32 := if g_out a 32 = 0 then (if K 9 g (a / 8).toNatClampNeg = -1 then 3 else 0) else 2
def g_ldT (K : kM) (g : Nat) (a ad : Int32) : kM := if g_addr K g ad = 0 then k_up K 8 g a.toNatClampNeg (g_read K (K 9 g (ad / 8).toNatClampNeg) (k_rem ad 8)) else K
def g_stT (K : kM) (g : Nat) (a ad : Int32) : kM := if g_addr K g ad = 0 then g_store K (K 9 g (ad / 8).toNatClampNeg) (k_rem ad 8) (K 8 g a.toNatClampNeg) else K
def g_mapF (K : kM) (g : Nat) (n : Int32) : Int32 := if K 9 g n.toNatClampNeg = -1 then (if g_qleft K g ≤ 0 then -1 else g_frX K 12 0) else -1
def g_mapK (K : kM) (g : Nat) (n : Int32) : kM := if K 9 g n.toNatClampNeg = -1 then (if g_qleft K g ≤ 0 then K else g_frT K 12 0) else K
def g_mapT (K : kM) (g : Nat) (a n : Int32) : kM := if g_out n 4 = 0 then
    (if g_mapF K g n = -1 then k_up (g_mapK K g n) 8 g a.toNatClampNeg 0 else
      k_up (k_up (k_up (g_mapK K g n) 9 g n.toNatClampNeg (g_mapF K g n)) 7 g 7 (k_up (g_mapK K g n) 9 g n.toNatClampNeg (g_mapF K g n) 7 g 7 + 1)) 8 g a.toNatClampNeg 1) else K
def g_n4 (n : Int32) : Int32 := if g_out n 4 = 0 then 0 else 4
def g_unT (K : kM) (g : Nat) (a n : Int32) : kM := if g_out n 4 = 0 then k_up (g_drop K g n) 8 g a.toNatClampNeg (if g_dropX K g n = 0 then 0 else 1) else K
def g_sp1 (K : kM) (g : Nat) (m q n : Int32) (i : Nat) : kM :=
  k_up (g_ready (k_up (k_up (g_begin K i n q (K 7 g 0)) 8 i 0 m) 7 g 8 (k_up (g_begin K i n q (K 7 g 0)) 8 i 0 m 7 g 8 + q)) i) 0 0 9
    (g_ready (k_up (k_up (g_begin K i n q (K 7 g 0)) 8 i 0 m) 7 g 8 (k_up (g_begin K i n q (K 7 g 0)) 8 i 0 m 7 g 8 + q)) i 0 0 9 + 1)
def g_spLX (K : kM) : Nat → Nat → Int32
  | 0, _ => -1
  | c + 1, i => if K 7 i 3 = -1 then nI i else g_spLX K c (i + 1)
def g_spLT (K : kM) (g : Nat) (m q n : Int32) : Nat → Nat → kM
  | 0, _ => K
  | c + 1, i => if K 7 i 3 = -1 then g_sp1 K g m q n i else g_spLT K g m q n c (i + 1)
def g_spX (K : kM) (g : Nat) (q : Int32) : Int32 := if q < 0 then -1 else if q ≤ g_qleft K g then g_spLX K 6 0 else -1
def g_spT (K : kM) (g : Nat) (m q n : Int32) : kM := if q < 0 then K else if q ≤ g_qleft K g then g_spLT K g m q n 6 0 else K
def g_rp1 (K : kM) (g : Nat) (a b : Int32) (i : Nat) : kM :=
  let K1 := k_up K 7 i 3 (-1)
  let K2 := k_up K1 7 g 8 (K1 7 g 8 - K1 7 i 6)
  let K3 := k_up K2 8 g a.toNatClampNeg (nI i)
  let K4 := k_up K3 8 g b.toNatClampNeg (K3 7 i 10)
  k_up K4 0 0 10 (K4 0 0 10 + 1)
def g_rpT (K : kM) (g : Nat) (a b : Int32) : Nat → Nat → kM
  | 0, _ => k_up K 8 g a.toNatClampNeg (-1)
  | c + 1, i => if K 7 i 3 = 3 then (if K 7 i 9 = K 7 g 0 then g_rp1 K g a b i else g_rpT K g a b c (i + 1)) else g_rpT K g a b c (i + 1)
def g_wake (K : kM) (w : Int32) (v : Int32) : kM := g_ready (k_up K 8 w.toNatClampNeg (K 7 w.toNatClampNeg 12).toNatClampNeg v) w.toNatClampNeg
def g_sendT (K : kM) (g : Nat) (a n : Int32) : kM := if g_out n 4 = 0 then
    (if g_full K n.toNatClampNeg = 0 then
      (if g_rowX K (6 + n.toNatClampNeg) = -1 then g_put (g_rowT K (6 + n.toNatClampNeg)) n.toNatClampNeg (g_rowT K (6 + n.toNatClampNeg) 8 g a.toNatClampNeg) else
        g_wake (g_rowT K (6 + n.toNatClampNeg)) (g_rowX K (6 + n.toNatClampNeg)) (g_rowT K (6 + n.toNatClampNeg) 8 g a.toNatClampNeg))
    else g_block K g a (2 + n.toNatClampNeg)) else K
def g_rcv1 (K : kM) (g : Nat) (a : Int32) (k : Nat) : kM := k_up (g_chT K k) 8 g a.toNatClampNeg (K 18 k 0)
def g_recvT (K : kM) (g : Nat) (a n : Int32) : kM := if g_out n 4 = 0 then
    (if K 17 n.toNatClampNeg 3 = 0 then g_block K g a (6 + n.toNatClampNeg) else
      (if g_rowX (g_rcv1 K g a n.toNatClampNeg) (2 + n.toNatClampNeg) = -1 then g_rowT (g_rcv1 K g a n.toNatClampNeg) (2 + n.toNatClampNeg) else
        let K1 := g_rowT (g_rcv1 K g a n.toNatClampNeg) (2 + n.toNatClampNeg)
        let w := g_rowX (g_rcv1 K g a n.toNatClampNeg) (2 + n.toNatClampNeg)
        g_ready (g_put K1 n.toNatClampNeg (K1 8 w.toNatClampNeg (K1 7 w.toNatClampNeg 12).toNatClampNeg)) w.toNatClampNeg)) else K
def g_lockT (K : kM) (g : Nat) (a n : Int32) : kM := if g_out n 4 = 0 then
    (if K 15 n.toNatClampNeg 1 = -1 then k_up K 15 n.toNatClampNeg 1 (K 7 g 0) else g_block K g a (10 + n.toNatClampNeg)) else K
def g_unlX (K : kM) (g : Nat) (n : Int32) : Int32 := if g_out n 4 = 0 then (if K 15 n.toNatClampNeg 1 = K 7 g 0 then 0 else 5) else 4
def g_unlT (K : kM) (g : Nat) (n : Int32) : kM := if g_out n 4 = 0 then (if K 15 n.toNatClampNeg 1 = K 7 g 0 then g_pass K n.toNatClampNeg else K) else K
def g_trap (K : kM) (g : Nat) (kd pl : Int32) : kM :=
  let K1 := k_up K 0 0 8 (K 0 0 8 + 1)
  let K2 := k_up K1 7 g 11 (K1 7 g 11 + 1)
  if K2 7 g 5 = -1 then g_end (g_goTo K2 g pl) g (-100 - kd) else
    let K3 := k_up K2 8 g 3 kd
    k_up (g_goTo K3 g (K3 7 g 5)) 7 g 5 (-1)
def g_calX (K : kM) (g : Nat) (op b : Int32) : Int32 := if op = 6 then (if K 8 g b.toNatClampNeg = 0 then 1 else 0) else 0
def g_calT (K : kM) (g : Nat) (op a b n : Int32) : kM :=
  if op = 1 then k_up K 8 g a.toNatClampNeg n
  else if op = 2 then k_up K 8 g a.toNatClampNeg (K 8 g b.toNatClampNeg + n)
  else if op = 3 then k_up K 8 g a.toNatClampNeg (K 8 g a.toNatClampNeg + K 8 g b.toNatClampNeg)
  else if op = 4 then k_up K 8 g a.toNatClampNeg (K 8 g a.toNatClampNeg - K 8 g b.toNatClampNeg)
  else if op = 5 then k_up K 8 g a.toNatClampNeg (K 8 g a.toNatClampNeg * K 8 g b.toNatClampNeg)
  else if op = 6 then (if K 8 g b.toNatClampNeg = 0 then K else k_up K 8 g a.toNatClampNeg (K 8 g a.toNatClampNeg / K 8 g b.toNatClampNeg))
  else if op = 9 then (if K 8 g b.toNatClampNeg ≤ K 8 g a.toNatClampNeg then K else g_goTo K g n)
  else if op = 10 then (if K 8 g a.toNatClampNeg = 0 then g_goTo K g n else K)
  else if op = 11 then k_up K 7 g 5 (if 0 ≤ n then k_rem n 32 else -1)
  else K
def g_perX (K : kM) (g : Nat) (op pl : Int32) : Int32 :=
  let a := g_part K pl 1
  let b := g_part K pl 2
  let n := g_part K pl 3
  if op = 0 then 0
  else if op = 7 then g_addr K g (K 8 g b.toNatClampNeg + n)
  else if op = 8 then g_addr K g (K 8 g b.toNatClampNeg + n)
  else if op = 13 then g_n4 n
  else if op = 14 then g_n4 n
  else if op = 15 then 0
  else if op = 16 then g_n4 n
  else if op = 17 then g_n4 n
  else if op = 18 then g_n4 n
  else if op = 19 then g_unlX K g n
  else if op = 20 then 0
  else if op = 21 then 0
  else g_calX K g op b
def g_perT (K : kM) (g : Nat) (op pl : Int32) : kM :=
  let a := g_part K pl 1
  let b := g_part K pl 2
  let n := g_part K pl 3
  if op = 0 then g_end K g 0
  else if op = 7 then g_ldT K g a (K 8 g b.toNatClampNeg + n)
  else if op = 8 then g_stT K g a (K 8 g b.toNatClampNeg + n)
  else if op = 13 then g_mapT K g a n
  else if op = 14 then g_unT K g a n
  else if op = 15 then k_up (g_spT K g (K 8 g a.toNatClampNeg) (K 8 g b.toNatClampNeg) n) 8 g a.toNatClampNeg (g_spX K g (K 8 g b.toNatClampNeg))
  else if op = 16 then g_sendT K g a n
  else if op = 17 then g_recvT K g a n
  else if op = 18 then g_lockT K g a n
  else if op = 19 then g_unlT K g n
  else if op = 20 then g_end K g (K 8 g a.toNatClampNeg)
  else if op = 21 then g_rpT K g a b 6 0
  else g_calT K g op a b n
def g_turnA (K : kM) (p g : Nat) : kM :=
  let pl := K 7 g 4
  let op := g_part K pl 0
  let K1 := g_goTo K g (pl + 1)
  let K2 := k_up K1 11 p 2 (K1 11 p 2 - 1)
  let K3 := k_up K2 0 0 7 (K2 0 0 7 + 1)
  let K4 := g_perT K3 g op pl
  let K5 := if g_perX K3 g op pl = 0 then K4 else g_trap K4 g (g_perX K3 g op pl) pl
  if K5 7 g 3 = 1 then
    (if K5 11 p 2 ≤ 0 then g_ready (k_up K5 11 p 1 (-1)) g else
      (if op = 12 then g_ready (k_up K5 11 p 1 (-1)) g else K5))
  else k_up K5 11 p 1 (-1)
def g_turn (K : kM) (p : Nat) : kM :=
  if K 11 p 1 = -1 then
    (if g_rowX K p = -1 then k_up (g_next K p) 0 0 11 (g_next K p 0 0 11 + 1) else g_turnA (g_next K p) p (g_rowX K p).toNatClampNeg)
  else g_turnA K p (K 11 p 1).toNatClampNeg
def g_empty (K : kM) (p : Nat) : Int32 := if K 11 p 1 = -1 then (if K 12 p 2 = 0 then 1 else 0) else 0
def g_tick (K : kM) : kM := g_turn (g_turn (k_up K 0 0 6 (K 0 0 6 + 1)) 0) 1
