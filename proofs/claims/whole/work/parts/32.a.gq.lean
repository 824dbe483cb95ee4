/-! ===== the class: questions, run, and who is blocked ===== -/
def g_nb (K : kM) : Nat → Nat → Int32
  | 0, _ => 0
  | c + 1, i => if K 7 i 3 = 2 then 1 else g_nb K c (i + 1)
def g_rnS (K : kM) : Nat → Int32
  | 0 => 0
  | c + 1 => if g_empty K 0 = 0 then g_rnS (g_tick K) c else if g_empty K 1 = 0 then g_rnS (g_tick K) c else if g_nb K 6 0 = 0 then 0 else 2
def g_rnT (K : kM) : Nat → kM
  | 0 => K
  | c + 1 => if g_empty K 0 = 0 then g_rnT (g_tick K) c else if g_empty K 1 = 0 then g_rnT (g_tick K) c else K
def g_rnX (K : kM) : Nat → Nat → Int32
  | 0, k => nI k
  | c + 1, k => if g_empty K 0 = 0 then g_rnX (g_tick K) c (k + 1) else if g_empty K 1 = 0 then g_rnX (g_tick K) c (k + 1) else nI k
def g_telX (K : kM) (g : Nat) (w : Int32) : Int32 := match w.toNatClampNeg with
  | 0 => K 7 g 3
  | 1 => K 7 g 4
  | 2 => K 7 g 5
  | 3 => K 7 g 6
  | 4 => K 7 g 7
  | 5 => K 7 g 8
  | 6 => K 7 g 9
  | 7 => K 7 g 10
  | _ => K 7 g 11
def g_objX (K : kM) (k : Nat) (w : Int32) : Int32 := match w.toNatClampNeg with
  | 0 => K 15 k 1
  | 1 => K 12 (10 + k) 2
  | 2 => K 17 k 3
  | 3 => K 12 (2 + k) 2
  | _ => K 12 (6 + k) 2
theorem tf_n : ∀ n ∈ [x_Ex], Bundle.fit n = true := List.forall_mem_cons.mpr ⟨by decide +kernel, fun _ h => absurd h List.not_mem_nil⟩
theorem k_thIA {X : kX} {cc : ByteArray} {S : kS} {G : kG} {nL : Nat} {l : Launch} {R : Room} {pc : Nat} {lv : List (Nat × Value)} {K : kM} (C : k_C X kT cc "GuestKernel" S G nL l R) {h0 : Nat} (E : k_Et X h0 x_IA K) (hfl : l.flags = flags0)
    (hd0 : decode cc pc = .ok (.new 69, 3)) (hd3 : decode cc (pc + 3) = .ok (.dup, 1)) (hd4 : decode cc (pc + 3 + 1) = .ok (.ldc 71, 2)) (hd6 : decode cc (pc + 3 + 1 + 2) = .ok (.invokespecial 73, 3)) (hd9 : decode cc (pc + 3 + 1 + 2 + 3) = .ok (.athrow, 1))
    (hR : 1 ≤ R.cells ∧ 6 ≤ R.slots ∧ 5 < R.frames ∧ 82 ≤ R.locals) : k_W X 0 0 pc lv [] K :=
  k_throw C E hfl hd0 hd3 hd4 hd6 hd9 tw_IA.1 tw_IA.2.1 tw_IA.2.2 (tx := "a number out of range") (fun U h => h.2.2.1.1) (tx_IA h0) (by decide +kernel) (by decide +kernel) tf_n (by decide +kernel) (by decide +kernel) (by decide +kernel) (by decide +kernel) hR
theorem k_thNS {X : kX} {cc : ByteArray} {S : kS} {G : kG} {nL : Nat} {l : Launch} {R : Room} {pc : Nat} {lv : List (Nat × Value)} {K : kM} (C : k_C X kT cc "GuestKernel" S G nL l R) {h0 : Nat} (E : k_Et X h0 x_NS K) (hfl : l.flags = flags0)
    (hd0 : decode cc pc = .ok (.new 183, 3)) (hd3 : decode cc (pc + 3) = .ok (.dup, 1)) (hd4 : decode cc (pc + 3 + 1) = .ok (.ldc 185, 2)) (hd6 : decode cc (pc + 3 + 1 + 2) = .ok (.invokespecial 187, 3)) (hd9 : decode cc (pc + 3 + 1 + 2 + 3) = .ok (.athrow, 1))
    (hR : 1 ≤ R.cells ∧ 6 ≤ R.slots ∧ 5 < R.frames ∧ 82 ≤ R.locals) : k_W X 0 0 pc lv [] K :=
  k_throw C E hfl hd0 hd3 hd4 hd6 hd9 tw_NS.1 tw_NS.2.1 tw_NS.2.2 (tx := "the guest is absent") (fun U h => h.2.2.1.2.1) (tx_NS h0) (by decide +kernel) (by decide +kernel) tf_n (by decide +kernel) (by decide +kernel) (by decide +kernel) (by decide +kernel) hR
theorem k_thIS {X : kX} {cc : ByteArray} {S : kS} {G : kG} {nL : Nat} {l : Launch} {R : Room} {pc : Nat} {lv : List (Nat × Value)} {K : kM} (C : k_C X kT cc "GuestKernel" S G nL l R) {h0 : Nat} (E : k_Et X h0 x_IS K) (hfl : l.flags = flags0)
    (hd0 : decode cc pc = .ok (.new 188, 3)) (hd3 : decode cc (pc + 3) = .ok (.dup, 1)) (hd4 : decode cc (pc + 3 + 1) = .ok (.ldc 190, 2)) (hd6 : decode cc (pc + 3 + 1 + 2) = .ok (.invokespecial 192, 3)) (hd9 : decode cc (pc + 3 + 1 + 2 + 3) = .ok (.athrow, 1))
    (hR : 1 ≤ R.cells ∧ 6 ≤ R.slots ∧ 5 < R.frames ∧ 82 ≤ R.locals) : k_W X 0 0 pc lv [] K :=
  k_throw C E hfl hd0 hd3 hd4 hd6 hd9 tw_IS.1 tw_IS.2.1 tw_IS.2.2 (tx := "stuck: every guest that lives is blocked") (fun U h => h.2.2.1.2.2) (tx_IS h0) (by decide +kernel) (by decide +kernel) tf_n (by decide +kernel) (by decide +kernel) (by decide +kernel) (by decide +kernel) hR
