/-! ===== THE REFERENCE, AS FUNCTIONS OF ITS MEMORY (families: NOTES.md) ===== -/
def m_rng (f _i _j : Nat) (x : Int32) : Prop := match f with
  | 1 => vp_in x 22
  | 2 => vp_in x 4
  | 3 => vp_in x 4
  | 6 => vp_in x 32
  | 7 => x = -1 ∨ vp_in x 32
  | 16 => x = -1 ∨ vp_in x 12
  | 19 => vp_in x 6
  | 20 => 0 ≤ x ∧ x ≤ 6
  | 22 => 0 ≤ x ∧ x ≤ 2
  | 23 => x = -1 ∨ vp_in x 6
  | 24 => x = -1 ∨ vp_in x 6
  | _ => True
abbrev m_Inv (K : kM) : Prop := k_Inv m_rng K
def m_no (v most : Int32) : Int32 := if v < 0 then 1 else if v ≤ most then 0 else 1
def m_add (K : kM) (r g : Nat) : kM := k_up (k_up K 19 0 (r * 6 + (K 20 0 r).toNatClampNeg) (nI g)) 20 0 r (k_up K 19 0 (r * 6 + (K 20 0 r).toNatClampNeg) (nI g) 20 0 r + 1)
def m_sh (K : kM) (r : Nat) : Nat → Nat → kM
  | 0, _ => K
  | c + 1, k => m_sh (k_up K 19 0 (r * 6 + k) (K 19 0 (r * 6 + k + 1))) r c (k + 1)
def m_tkX (K : kM) (r : Nat) : Int32 := K 19 0 (r * 6)
def m_tk1 (K : kM) (r : Nat) : kM := k_up K 20 0 r (K 20 0 r - 1)
def m_tkT (K : kM) (r : Nat) : kM := m_sh (m_tk1 K r) r (m_tk1 K r 20 0 r).toNatClampNeg 0
def m_wake (K : kM) (g : Nat) : kM := m_add (k_up K 5 0 g 0) (g % 2) g
def m_beg0 (K : kM) (g : Nat) (a q b : Int32) : kM := k_up (k_up (k_up (k_up (k_up (k_up (k_up (k_up K 6 0 g a) 8 0 g q) 11 0 g b) 7 0 g (-1)) 9 0 g 0) 10 0 g 0) 12 0 g 0) 13 0 g 0
def m_begL (K : kM) (g : Nat) : Nat → kM
  | 0 => K
  | n + 1 => k_up (k_up (m_begL K g n) 15 0 (g * 4 + n) 0) 16 0 (g * 4 + n) (-1)
def m_begin (K : kM) (g : Nat) (a q b : Int32) : kM := m_wake (m_begL (m_beg0 K g a q b) g 4) g
def m_unmap (K : kM) (g p : Nat) : kM := if 0 ≤ K 16 0 (g * 4 + p) then
    k_up (k_up (k_up K 18 0 (K 16 0 (g * 4 + p)).toNatClampNeg 0) 16 0 (g * 4 + p) (-1)) 9 0 g (k_up (k_up K 18 0 (K 16 0 (g * 4 + p)).toNatClampNeg 0) 16 0 (g * 4 + p) (-1) 9 0 g - 1) else K
def m_unl1 (K : kM) (k : Nat) : kM := if K 20 0 (10 + k) ≤ 0 then k_up K 23 0 k (-1) else k_up (m_tkT K (10 + k)) 23 0 k (m_tkX K (10 + k))
def m_unl (K : kM) (k : Nat) : kM := if m_unl1 K k 23 0 k < 0 then m_unl1 K k else m_wake (m_unl1 K k) (m_unl1 K k 23 0 k).toNatClampNeg
def m_dU (K : kM) (g : Nat) : Nat → kM
  | 0 => K
  | n + 1 => m_unmap (m_dU K g n) g n
def m_dL1 (K : kM) (g k : Nat) : kM := if K 23 0 k = nI g then m_unl K k else K
def m_dL (K : kM) (g : Nat) : Nat → kM
  | 0 => K
  | n + 1 => m_dL1 (m_dL K g n) g n
def m_dC1 (K : kM) (g c : Nat) : kM := if K 5 0 c < 0 then K else if K 11 0 c = nI g then
    k_up (k_up K 11 0 c (K 11 0 g)) 8 0 g (k_up K 11 0 c (K 11 0 g) 8 0 g - k_up K 11 0 c (K 11 0 g) 8 0 c) else K
def m_dC (K : kM) (g : Nat) : Nat → kM
  | 0 => K
  | n + 1 => m_dC1 (m_dC K g n) g n
def m_die (K : kM) (g : Nat) (w : Int32) : kM := k_up (m_dC (m_dL (m_dU (k_up (k_up K 5 0 g 3) 12 0 g w) g 4) g 4) g 6) 10 0 g 0
def m_tr2 (K : kM) (g : Nat) : kM := k_up (k_up K 13 0 g (K 13 0 g + 1)) 0 0 27 (k_up K 13 0 g (K 13 0 g + 1) 0 0 27 + 1)
def m_trap (K : kM) (g : Nat) (kd : Int32) : kM := if 0 ≤ m_tr2 K g 7 0 g then
    k_up (k_up (k_up (m_tr2 K g) 15 0 (g * 4 + 3) kd) 6 0 g (k_up (m_tr2 K g) 15 0 (g * 4 + 3) kd 7 0 g)) 7 0 g (-1)
  else m_die (m_tr2 K g) g (-100 - kd)
def m_wh (K : kM) (g : Nat) (ad : Int32) : Int32 := if m_no ad 31 = 0 then
    (if 0 ≤ K 16 0 (g * 4 + (ad / 8).toNatClampNeg) then K 16 0 (g * 4 + (ad / 8).toNatClampNeg) * 8 + k_rem ad 8 else -3) else -2
def m_mf (K : kM) : Nat → Nat → Nat
  | 0, i => i
  | c + 1, i => if K 18 0 i = 0 then i else m_mf K c (i + 1)
def m_clr (K : kM) (f : Nat) : Nat → kM
  | 0 => K
  | n + 1 => k_up (m_clr K f n) 17 0 (f * 8 + n) 0
def m_map1 (K : kM) (g p f : Nat) : kM := k_up (k_up (m_clr (k_up K 18 0 f 1) f 8) 16 0 (g * 4 + p) (nI f)) 9 0 g (k_up (m_clr (k_up K 18 0 f 1) f 8) 16 0 (g * 4 + p) (nI f) 9 0 g + 1)
def m_mpX (K : kM) (g p f : Nat) : Int32 := if 0 ≤ K 16 0 (g * 4 + p) then 0 else if K 8 0 g ≤ K 9 0 g + K 10 0 g then 0 else if nI f = 12 then 0 else 1
def m_mpT (K : kM) (g p f : Nat) : kM := if 0 ≤ K 16 0 (g * 4 + p) then K else if K 8 0 g ≤ K 9 0 g + K 10 0 g then K else if nI f = 12 then K else m_map1 K g p f
def m_mapX (K : kM) (g p : Nat) : Int32 := m_mpX K g p (m_mf K 12 0)
def m_mapT (K : kM) (g p : Nat) : kM := m_mpT K g p (m_mf K 12 0)
def m_sf (K : kM) : Nat → Nat → Nat
  | 0, i => i
  | c + 1, i => if K 5 0 i < 0 then i else m_sf K c (i + 1)
def m_sp1 (K : kM) (g c : Nat) (a q v : Int32) : kM :=
  k_up (k_up (m_begin (k_up K 10 0 g (K 10 0 g + q)) c a q (nI g)) 15 0 (c * 4) v) 0 0 28 (k_up (m_begin (k_up K 10 0 g (K 10 0 g + q)) c a q (nI g)) 15 0 (c * 4) v 0 0 28 + 1)
def m_sqX (K : kM) (g : Nat) (q : Int32) (c : Nat) : Int32 := if q < 0 then -1 else if K 8 0 g - K 9 0 g - K 10 0 g < q then -1 else if nI c = 6 then -1 else nI c
def m_sqT (K : kM) (g : Nat) (a q v : Int32) (c : Nat) : kM := if q < 0 then K else if K 8 0 g - K 9 0 g - K 10 0 g < q then K else if nI c = 6 then K else m_sp1 K g c a q v
def m_spX (K : kM) (g : Nat) (q : Int32) : Int32 := m_sqX K g q (m_sf K 6 0)
def m_spT (K : kM) (g : Nat) (a q v : Int32) : kM := m_sqT K g a q v (m_sf K 6 0)
def m_rp1 (K : kM) (g c : Nat) : kM := k_up (k_up (k_up K 5 0 c (-1)) 10 0 g (k_up K 5 0 c (-1) 10 0 g - k_up K 5 0 c (-1) 8 0 c)) 0 0 29 (k_up (k_up K 5 0 c (-1)) 10 0 g (k_up K 5 0 c (-1) 10 0 g - k_up K 5 0 c (-1) 8 0 c) 0 0 29 + 1)
def m_rpX (K : kM) (g : Nat) : Nat → Nat → Int32
  | 0, _ => -1
  | n + 1, c => if K 5 0 c = 3 then (if K 11 0 c = nI g then nI c else m_rpX K g n (c + 1)) else m_rpX K g n (c + 1)
def m_rpT (K : kM) (g : Nat) : Nat → Nat → kM
  | 0, _ => K
  | n + 1, c => if K 5 0 c = 3 then (if K 11 0 c = nI g then m_rp1 K g c else m_rpT K g n (c + 1)) else m_rpT K g n (c + 1)
def m_blk (K : kM) (g r : Nat) : kM := m_add (k_up K 5 0 g 2) r g
def m_snd0 (K : kM) (g k : Nat) (v : Int32) : kM := if 2 ≤ K 22 0 k then m_blk (k_up K 14 0 g v) g (2 + k) else
    k_up (k_up K 21 0 (k * 2 + (K 22 0 k).toNatClampNeg) v) 22 0 k (k_up K 21 0 (k * 2 + (K 22 0 k).toNatClampNeg) v 22 0 k + 1)
def m_snd1 (K : kM) (k : Nat) (v : Int32) : kM := m_wake (k_up (m_tkT K (6 + k)) 15 0 ((m_tkX K (6 + k)).toNatClampNeg * 4 + (m_tkT K (6 + k) 14 0 (m_tkX K (6 + k)).toNatClampNeg).toNatClampNeg) v) (m_tkX K (6 + k)).toNatClampNeg
def m_snd (K : kM) (g k : Nat) (v : Int32) : kM := if K 22 0 k = 0 then (if K 20 0 (6 + k) ≤ 0 then m_snd0 K g k v else m_snd1 K k v) else m_snd0 K g k v
def m_rc1 (K : kM) (g k a : Nat) : kM :=
  let K1 := k_up K 15 0 (g * 4 + a) (K 21 0 (k * 2))
  let K2 := k_up K1 21 0 (k * 2) (K1 21 0 (k * 2 + 1))
  k_up K2 22 0 k (K2 22 0 k - 1)
def m_rc2 (K : kM) (k : Nat) : kM := m_wake (k_up (k_up (m_tkT K (2 + k)) 21 0 (k * 2 + 1) (m_tkT K (2 + k) 14 0 (m_tkX K (2 + k)).toNatClampNeg)) 22 0 k 2) (m_tkX K (2 + k)).toNatClampNeg
def m_rcv (K : kM) (g k a : Nat) : kM := if K 22 0 k = 0 then m_blk (k_up K 14 0 g (nI a)) g (6 + k) else
    (if m_rc1 K g k a 22 0 k = 1 then (if m_rc1 K g k a 20 0 (2 + k) ≤ 0 then m_rc1 K g k a else m_rc2 (m_rc1 K g k a) k) else m_rc1 K g k a)
