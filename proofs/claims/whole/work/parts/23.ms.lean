/-! ===== the reference's instructions ===== -/
def m_car (K : kM) : Prop := ∀ k : Nat, k < 4 → ¬ K 20 0 (6 + k) ≤ 0 → vp_in (m_tkT K (6 + k) 14 0 (m_tkX K (6 + k)).toNatClampNeg) 4
def m_shX (K : kM) (g : Nat) (o : Int32) (n : Nat) : Int32 := if o = 16 then 0 else if o = 17 then 0 else if o = 19 then (if K 23 0 n = nI g then 0 else 5) else 0
def m_shT (K : kM) (g : Nat) (o : Int32) (a n : Nat) : kM := if o = 16 then m_snd K g n (K 15 0 (g * 4 + a)) else if o = 17 then m_rcv K g n a else if o = 19 then (if K 23 0 n = nI g then m_unl K n else K)
  else if 0 ≤ K 23 0 n then m_blk K g (10 + n) else k_up K 23 0 n (nI g)
def m_rpE (K : kM) (g b : Nat) (c : Int32) : kM := if c < 0 then K else k_up K 15 0 (g * 4 + b) (K 12 0 c.toNatClampNeg)
def m_pfT (K : kM) (g : Nat) (o : Int32) (a b : Nat) (n : Int32) : kM := match o.toNatClampNeg with
  | 1 => k_up K 15 0 (g * 4 + a) n
  | 2 => k_up K 15 0 (g * 4 + a) (K 15 0 (g * 4 + b) + n)
  | 3 => k_up K 15 0 (g * 4 + a) (K 15 0 (g * 4 + a) + K 15 0 (g * 4 + b))
  | 4 => k_up K 15 0 (g * 4 + a) (K 15 0 (g * 4 + a) - K 15 0 (g * 4 + b))
  | 5 => k_up K 15 0 (g * 4 + a) (K 15 0 (g * 4 + a) * K 15 0 (g * 4 + b))
  | 6 => if K 15 0 (g * 4 + b) = 0 then K else k_up K 15 0 (g * 4 + a) (K 15 0 (g * 4 + a) / K 15 0 (g * 4 + b))
  | 7 => if 0 ≤ m_wh K g (K 15 0 (g * 4 + b) + n) then k_up K 15 0 (g * 4 + a) (K 17 0 (m_wh K g (K 15 0 (g * 4 + b) + n)).toNatClampNeg) else K
  | 8 => if 0 ≤ m_wh K g (K 15 0 (g * 4 + b) + n) then k_up K 17 0 (m_wh K g (K 15 0 (g * 4 + b) + n)).toNatClampNeg (K 15 0 (g * 4 + a)) else K
  | 11 => k_up K 7 0 g (if 0 ≤ n then n &&& 31 else -1)
  | 13 => if m_no n 3 = 0 then k_up (m_mapT K g n.toNatClampNeg) 15 0 (g * 4 + a) (m_mapX K g n.toNatClampNeg) else K
  | 14 => if m_no n 3 = 0 then k_up (m_unmap K g n.toNatClampNeg) 15 0 (g * 4 + a) (if 0 ≤ K 16 0 (g * 4 + n.toNatClampNeg) then 1 else 0) else K
  | 15 => k_up (m_spT K g (n &&& 31) (K 15 0 (g * 4 + b)) (K 15 0 (g * 4 + a))) 15 0 (g * 4 + a) (m_spX K g (K 15 0 (g * 4 + b)))
  | 16 => if m_no n 3 = 0 then m_shT K g 16 a n.toNatClampNeg else K
  | 17 => if m_no n 3 = 0 then m_shT K g 17 a n.toNatClampNeg else K
  | 18 => if m_no n 3 = 0 then m_shT K g 18 a n.toNatClampNeg else K
  | 19 => if m_no n 3 = 0 then m_shT K g 19 a n.toNatClampNeg else K
  | 21 => m_rpE (k_up (m_rpT K g 6 0) 15 0 (g * 4 + a) (m_rpX K g 6 0)) g b (m_rpX K g 6 0)
  | _ => K
def m_pfX (K : kM) (g : Nat) (o : Int32) (b : Nat) (n : Int32) : Int32 := match o.toNatClampNeg with
  | 1 => 0
  | 2 => 0
  | 3 => 0
  | 4 => 0
  | 5 => 0
  | 6 => if K 15 0 (g * 4 + b) = 0 then 1 else 0
  | 7 => if 0 ≤ m_wh K g (K 15 0 (g * 4 + b) + n) then 0 else - m_wh K g (K 15 0 (g * 4 + b) + n)
  | 8 => if 0 ≤ m_wh K g (K 15 0 (g * 4 + b) + n) then 0 else - m_wh K g (K 15 0 (g * 4 + b) + n)
  | 11 => 0
  | 13 => if m_no n 3 = 0 then 0 else 4
  | 14 => if m_no n 3 = 0 then 0 else 4
  | 15 => 0
  | 16 => if m_no n 3 = 0 then m_shX K g 16 n.toNatClampNeg else 4
  | 17 => if m_no n 3 = 0 then m_shX K g 17 n.toNatClampNeg else 4
  | 18 => if m_no n 3 = 0 then m_shX K g 18 n.toNatClampNeg else 4
  | 19 => if m_no n 3 = 0 then m_shX K g 19 n.toNatClampNeg else 4
  | 21 => 0
  | _ => 0
theorem mpT_0 (K : kM) (g a b : Nat) (n : Int32) : m_pfT K g 0 a b n = (K) := rfl
theorem mpX_0 (K : kM) (g b : Nat) (n : Int32) : m_pfX K g 0 b n = (0) := rfl
theorem mpT_1 (K : kM) (g a b : Nat) (n : Int32) : m_pfT K g 1 a b n = (k_up K 15 0 (g * 4 + a) n) := rfl
theorem mpX_1 (K : kM) (g b : Nat) (n : Int32) : m_pfX K g 1 b n = (0) := rfl
theorem mpT_2 (K : kM) (g a b : Nat) (n : Int32) : m_pfT K g 2 a b n = (k_up K 15 0 (g * 4 + a) (K 15 0 (g * 4 + b) + n)) := rfl
theorem mpX_2 (K : kM) (g b : Nat) (n : Int32) : m_pfX K g 2 b n = (0) := rfl
theorem mpT_3 (K : kM) (g a b : Nat) (n : Int32) : m_pfT K g 3 a b n = (k_up K 15 0 (g * 4 + a) (K 15 0 (g * 4 + a) + K 15 0 (g * 4 + b))) := rfl
theorem mpX_3 (K : kM) (g b : Nat) (n : Int32) : m_pfX K g 3 b n = (0) := rfl
theorem mpT_4 (K : kM) (g a b : Nat) (n : Int32) : m_pfT K g 4 a b n = (k_up K 15 0 (g * 4 + a) (K 15 0 (g * 4 + a) - K 15 0 (g * 4 + b))) := rfl
theorem mpX_4 (K : kM) (g b : Nat) (n : Int32) : m_pfX K g 4 b n = (0) := rfl
theorem mpT_5 (K : kM) (g a b : Nat) (n : Int32) : m_pfT K g 5 a b n = (k_up K 15 0 (g * 4 + a) (K 15 0 (g * 4 + a) * K 15 0 (g * 4 + b))) := rfl
theorem mpX_5 (K : kM) (g b : Nat) (n : Int32) : m_pfX K g 5 b n = (0) := rfl
theorem mpT_6 (K : kM) (g a b : Nat) (n : Int32) : m_pfT K g 6 a b n = (if K 15 0 (g * 4 + b) = 0 then K else k_up K 15 0 (g * 4 + a) (K 15 0 (g * 4 + a) / K 15 0 (g * 4 + b))) := rfl
theorem mpX_6 (K : kM) (g b : Nat) (n : Int32) : m_pfX K g 6 b n = (if K 15 0 (g * 4 + b) = 0 then 1 else 0) := rfl
theorem mpT_7 (K : kM) (g a b : Nat) (n : Int32) : m_pfT K g 7 a b n = (if 0 ≤ m_wh K g (K 15 0 (g * 4 + b) + n) then k_up K 15 0 (g * 4 + a) (K 17 0 (m_wh K g (K 15 0 (g * 4 + b) + n)).toNatClampNeg) else K) := rfl
theorem mpX_7 (K : kM) (g b : Nat) (n : Int32) : m_pfX K g 7 b n = (if 0 ≤ m_wh K g (K 15 0 (g * 4 + b) + n) then 0 else - m_wh K g (K 15 0 (g * 4 + b) + n)) := rfl
theorem mpT_8 (K : kM) (g a b : Nat) (n : Int32) : m_pfT K g 8 a b n = (if 0 ≤ m_wh K g (K 15 0 (g * 4 + b) + n) then k_up K 17 0 (m_wh K g (K 15 0 (g * 4 + b) + n)).toNatClampNeg (K 15 0 (g * 4 + a)) else K) := rfl
theorem mpX_8 (K : kM) (g b : Nat) (n : Int32) : m_pfX K g 8 b n = (if 0 ≤ m_wh K g (K 15 0 (g * 4 + b) + n) then 0 else - m_wh K g (K 15 0 (g * 4 + b) + n)) := rfl
theorem mpT_9 (K : kM) (g a b : Nat) (n : Int32) : m_pfT K g 9 a b n = (K) := rfl
theorem mpX_9 (K : kM) (g b : Nat) (n : Int32) : m_pfX K g 9 b n = (0) := rfl
theorem mpT_10 (K : kM) (g a b : Nat) (n : Int32) : m_pfT K g 10 a b n = (K) := rfl
theorem mpX_10 (K : kM) (g b : Nat) (n : Int32) : m_pfX K g 10 b n = (0) := rfl
theorem mpT_11 (K : kM) (g a b : Nat) (n : Int32) : m_pfT K g 11 a b n = (k_up K 7 0 g (if 0 ≤ n then n &&& 31 else -1)) := rfl
theorem mpX_11 (K : kM) (g b : Nat) (n : Int32) : m_pfX K g 11 b n = (0) := rfl
theorem mpT_12 (K : kM) (g a b : Nat) (n : Int32) : m_pfT K g 12 a b n = (K) := rfl
theorem mpX_12 (K : kM) (g b : Nat) (n : Int32) : m_pfX K g 12 b n = (0) := rfl
theorem mpT_13 (K : kM) (g a b : Nat) (n : Int32) : m_pfT K g 13 a b n = (if m_no n 3 = 0 then k_up (m_mapT K g n.toNatClampNeg) 15 0 (g * 4 + a) (m_mapX K g n.toNatClampNeg) else K) := rfl
theorem mpX_13 (K : kM) (g b : Nat) (n : Int32) : m_pfX K g 13 b n = (if m_no n 3 = 0 then 0 else 4) := rfl
theorem mpT_14 (K : kM) (g a b : Nat) (n : Int32) : m_pfT K g 14 a b n = (if m_no n 3 = 0 then k_up (m_unmap K g n.toNatClampNeg) 15 0 (g * 4 + a) (if 0 ≤ K 16 0 (g * 4 + n.toNatClampNeg) then 1 else 0) else K) := rfl
theorem mpX_14 (K : kM) (g b : Nat) (n : Int32) : m_pfX K g 14 b n = (if m_no n 3 = 0 then 0 else 4) := rfl
theorem mpT_15 (K : kM) (g a b : Nat) (n : Int32) : m_pfT K g 15 a b n = (k_up (m_spT K g (n &&& 31) (K 15 0 (g * 4 + b)) (K 15 0 (g * 4 + a))) 15 0 (g * 4 + a) (m_spX K g (K 15 0 (g * 4 + b)))) := rfl
theorem mpX_15 (K : kM) (g b : Nat) (n : Int32) : m_pfX K g 15 b n = (0) := rfl
theorem mpT_16 (K : kM) (g a b : Nat) (n : Int32) : m_pfT K g 16 a b n = (if m_no n 3 = 0 then m_shT K g 16 a n.toNatClampNeg else K) := rfl
theorem mpX_16 (K : kM) (g b : Nat) (n : Int32) : m_pfX K g 16 b n = (if m_no n 3 = 0 then m_shX K g 16 n.toNatClampNeg else 4) := rfl
theorem mpT_17 (K : kM) (g a b : Nat) (n : Int32) : m_pfT K g 17 a b n = (if m_no n 3 = 0 then m_shT K g 17 a n.toNatClampNeg else K) := rfl
theorem mpX_17 (K : kM) (g b : Nat) (n : Int32) : m_pfX K g 17 b n = (if m_no n 3 = 0 then m_shX K g 17 n.toNatClampNeg else 4) := rfl
theorem mpT_18 (K : kM) (g a b : Nat) (n : Int32) : m_pfT K g 18 a b n = (if m_no n 3 = 0 then m_shT K g 18 a n.toNatClampNeg else K) := rfl
theorem mpX_18 (K : kM) (g b : Nat) (n : Int32) : m_pfX K g 18 b n = (if m_no n 3 = 0 then m_shX K g 18 n.toNatClampNeg else 4) := rfl
theorem mpT_19 (K : kM) (g a b : Nat) (n : Int32) : m_pfT K g 19 a b n = (if m_no n 3 = 0 then m_shT K g 19 a n.toNatClampNeg else K) := rfl
theorem mpX_19 (K : kM) (g b : Nat) (n : Int32) : m_pfX K g 19 b n = (if m_no n 3 = 0 then m_shX K g 19 n.toNatClampNeg else 4) := rfl
theorem mpT_20 (K : kM) (g a b : Nat) (n : Int32) : m_pfT K g 20 a b n = (K) := rfl
theorem mpX_20 (K : kM) (g b : Nat) (n : Int32) : m_pfX K g 20 b n = (0) := rfl
theorem mpT_21 (K : kM) (g a b : Nat) (n : Int32) : m_pfT K g 21 a b n = (m_rpE (k_up (m_rpT K g 6 0) 15 0 (g * 4 + a) (m_rpX K g 6 0)) g b (m_rpX K g 6 0)) := rfl
theorem mpX_21 (K : kM) (g b : Nat) (n : Int32) : m_pfX K g 21 b n = (0) := rfl
def m_st1 (K : kM) (p : Nat) : kM := k_up (k_up K 0 0 26 (K 0 0 26 + 1)) 25 0 p (k_up K 0 0 26 (K 0 0 26 + 1) 25 0 p - 1)
def m_jp (K : kM) (g : Nat) (o : Int32) (a b : Nat) : Int32 := if o = 9 then (if K 15 0 (g * 4 + a) < K 15 0 (g * 4 + b) then 1 else 0) else if o = 10 then (if K 15 0 (g * 4 + a) = 0 then 1 else 0) else 0
def m_st2 (K : kM) (g : Nat) (o : Int32) (a b : Nat) (n : Int32) (i : Nat) (j : Int32) : kM := if m_pfX K g o b n = 0 then
    k_up (m_pfT K g o a b n) 6 0 g (if j = 0 then (nI i + 1) &&& 31 else (m_pfT K g o a b n 4 0 i) &&& 31) else m_trap (m_pfT K g o a b n) g (m_pfX K g o b n)
def m_stD (K : kM) (g i : Nat) : kM := k_up K 6 0 g ((nI i + 1) &&& 31)
def m_stM (K : kM) (g i : Nat) (o : Int32) : kM := if o = 0 then m_die (m_stD K g i) g 0 else if o = 20 then m_die (m_stD K g i) g (m_stD K g i 15 0 (g * 4 + (K 2 0 i).toNatClampNeg))
  else m_st2 K g o (K 2 0 i).toNatClampNeg (K 3 0 i).toNatClampNeg (K 4 0 i) i (m_jp K g o (K 2 0 i).toNatClampNeg (K 3 0 i).toNatClampNeg)
def m_st4 (K : kM) (p g : Nat) : kM := if k_up K 24 0 p (-1) 5 0 g = 1 then m_wake (k_up K 24 0 p (-1)) g else k_up K 24 0 p (-1)
def m_st3 (K : kM) (p g : Nat) (o : Int32) : kM := if K 5 0 g = 1 then (if K 25 0 p ≤ 0 then m_st4 K p g else if o = 12 then m_st4 K p g else K) else m_st4 K p g
def m_hg (K : kM) (p : Nat) : Nat := (K 24 0 p).toNatClampNeg
def m_hi (K : kM) (p : Nat) : Nat := (K 6 0 (m_hg K p)).toNatClampNeg
def m_mid (K : kM) (p : Nat) : kM := m_stM (m_st1 K p) (m_hg K p) (m_hi K p) (K 1 0 (m_hi K p))
def m_step (K : kM) (p : Nat) : kM := m_st3 (m_mid K p) p (m_hg K p) (K 1 0 (m_hi K p))
def m_ch (K : kM) (p : Nat) : kM :=
  let K1 := k_up (m_tkT K p) 24 0 p (m_tkX K p)
  let K2 := k_up K1 5 0 (K1 24 0 p).toNatClampNeg 1
  let K3 := k_up K2 25 0 p 3
  k_up K3 0 0 31 (K3 0 0 31 + 1)
def m_tk (K : kM) (p : Nat) : kM := if 0 ≤ K 24 0 p then K else if K 20 0 p ≤ 0 then K else m_ch K p
def m_tu (K : kM) (p : Nat) : kM := if 0 ≤ K 24 0 p then m_step K p else k_up K 0 0 30 (K 0 0 30 + 1)
def m_turn (K : kM) (p : Nat) : kM := m_tu (m_tk K p) p
def m_tick (K : kM) : kM := m_turn (m_turn (k_up K 0 0 25 (K 0 0 25 + 1)) 0) 1
/-- what a step wants of the memory -/
def m_ok (K : kM) (p : Nat) : Prop := m_tot K ≤ 5 ∧ m_car (m_st1 K p) ∧ (m_mid K p 5 0 (m_hg K p) = 1 → m_tot (m_mid K p) ≤ 5)
def m_okU (K : kM) (p : Nat) : Prop := 0 ≤ m_tk K p 24 0 p → m_ok (m_tk K p) p
def m_okT (K : kM) : Prop := m_okU (k_up K 0 0 25 (K 0 0 25 + 1)) 0 ∧ m_okU (m_turn (k_up K 0 0 25 (K 0 0 25 + 1)) 0) 1
def m_mny (K : kM) (w : Int32) : Nat → Int32
  | 0 => 0
  | n + 1 => if K 5 0 n = w then m_mny K w n + 1 else m_mny K w n
def m_all (K : kM) : Int32 := m_mny K 0 6 + m_mny K 1 6 + m_mny K 2 6
def m_act (K : kM) : Int32 := m_mny K 0 6 + m_mny K 1 6
def m_rnT (K : kM) : Nat → kM
  | 0 => K
  | c + 1 => if m_all K ≤ 0 then K else if m_act K = 0 then k_up K 0 0 32 2 else m_rnT (m_tick K) c
def m_rnX (K : kM) : Nat → Nat → Int32
  | 0, k => nI k
  | c + 1, k => if m_all K ≤ 0 then nI k else if m_act K = 0 then 0 else m_rnX (m_tick K) c (k + 1)
def m_runT (K : kM) (n : Int32) : kM := if n < 1 then k_up K 0 0 32 1 else if n ≤ 300 then m_rnT (k_up K 0 0 32 0) n.toNatClampNeg else k_up K 0 0 32 1
def m_runX (K : kM) (n : Int32) : Int32 := if n < 1 then 0 else if n ≤ 300 then m_rnX (k_up K 0 0 32 0) n.toNatClampNeg 0 else 0
def m_gs (K : kM) (g bad : Int32) : Int32 := if m_no g 5 = 0 then (if bad = 0 then (if 0 ≤ K 5 0 g.toNatClampNeg then 0 else 2) else 1) else 1
def m_gT (K : kM) (g bad : Int32) : kM := k_up K 0 0 32 (m_gs K g bad)
def m_gX (K : kM) (g bad : Int32) : Int32 := if m_gs K g bad = 0 then 1 else 0
def m_no2 (a m b n : Int32) : Int32 := if m_no a m = 0 then (if m_no b n = 0 then 0 else 1) else 1
def m_regX (K : kM) (g r : Int32) : Int32 := if m_gX K g (m_no r 3) = 0 then 0 else K 15 0 (g.toNatClampNeg * 4 + r.toNatClampNeg)
def m_pagX (K : kM) (g r : Int32) : Int32 := if m_gX K g (m_no r 3) = 0 then 0 else K 16 0 (g.toNatClampNeg * 4 + r.toNatClampNeg)
def m_memX (K : kM) (f i : Int32) : Int32 := if m_no2 f 11 i 7 = 0 then K 17 0 (f.toNatClampNeg * 8 + i.toNatClampNeg) else 0
def m_telX (K : kM) (g w : Int32) : Int32 := if m_gX K g (m_no w 8) = 0 then 0 else match w.toNatClampNeg with
  | 0 => K 5 0 g.toNatClampNeg
  | 1 => K 6 0 g.toNatClampNeg
  | 2 => K 7 0 g.toNatClampNeg
  | 3 => K 8 0 g.toNatClampNeg
  | 4 => K 9 0 g.toNatClampNeg
  | 5 => K 10 0 g.toNatClampNeg
  | 6 => K 11 0 g.toNatClampNeg
  | 7 => K 12 0 g.toNatClampNeg
  | _ => K 13 0 g.toNatClampNeg
def m_objX (K : kM) (k w : Int32) : Int32 := if m_no2 k 3 w 4 = 0 then (match w.toNatClampNeg with
  | 0 => K 23 0 k.toNatClampNeg
  | 1 => K 20 0 (10 + k.toNatClampNeg)
  | 2 => K 22 0 k.toNatClampNeg
  | 3 => K 20 0 (2 + k.toNatClampNeg)
  | _ => K 20 0 (6 + k.toNatClampNeg)) else 0
def m_wriX (K : kM) (i w : Int32) : Int32 := if m_no2 i 31 w 3 = 0 then (if w = 0 then K 1 0 i.toNatClampNeg else if w = 1 then K 2 0 i.toNatClampNeg else if w = 2 then K 3 0 i.toNatClampNeg else K 4 0 i.toNatClampNeg) else 0
def m_th (K : kM) (x : Int32) : kM := k_up K 0 0 32 x
def m_fr (K : kM) : Nat → Int32
  | 0 => 0
  | n + 1 => if K 18 0 n = 0 then m_fr K n + 1 else m_fr K n
def m_cntX (K : kM) (w : Int32) : Int32 := if w = 0 then K 0 0 25 else if w = 1 then K 0 0 26 else if w = 2 then K 0 0 27 else if w = 3 then K 0 0 28 else if w = 4 then K 0 0 29 else if w = 5 then m_fr K 12 else if w = 6 then K 0 0 30 else if w = 7 then K 0 0 31
  else if w = 10 then K 24 0 0 else if w = 11 then K 24 0 1 else if w = 20 then K 20 0 0 else if w = 21 then K 20 0 1 else -2
def m_cdS (i o a b : Int32) : Int32 := if m_no i 31 = 0 then (if m_no o 21 = 0 then (if m_no a 3 = 0 then (if m_no b 3 = 0 then 0 else 1) else 1) else 1) else 1
def m_codT (K : kM) (i o a b n : Int32) : kM := if m_cdS i o a b = 0 then k_up (k_up (k_up (k_up (k_up K 0 0 32 0) 1 0 i.toNatClampNeg o) 2 0 i.toNatClampNeg a) 3 0 i.toNatClampNeg b) 4 0 i.toNatClampNeg n else k_up K 0 0 32 1
