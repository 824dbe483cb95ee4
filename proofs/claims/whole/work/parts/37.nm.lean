/-! ### the reference -/
theorem fn_Mo_7 : n_fld mS0 kT "GuestKernelModel" 7 0 0 (.array .int) true := ⟨33, "GuestKernelModel", "GuestKernelModel", "op", "[I", T_Mo, ty_Mo, rfl, in_Mo, tk_Mo, nm_Mo, rfl, by decide, rfl, by decide +kernel, (kt3 112 rfl rfl)⟩
theorem fn_Mo_13 : n_fld mS0 kT "GuestKernelModel" 13 0 1 (.array .int) true := ⟨33, "GuestKernelModel", "GuestKernelModel", "first", "[I", T_Mo, ty_Mo, rfl, in_Mo, tk_Mo, nm_Mo, rfl, by decide, rfl, by decide +kernel, (kt3 113 rfl rfl)⟩
theorem fn_Mo_16 : n_fld mS0 kT "GuestKernelModel" 16 0 2 (.array .int) true := ⟨33, "GuestKernelModel", "GuestKernelModel", "second", "[I", T_Mo, ty_Mo, rfl, in_Mo, tk_Mo, nm_Mo, rfl, by decide, rfl, by decide +kernel, (kt3 114 rfl rfl)⟩
theorem fn_Mo_19 : n_fld mS0 kT "GuestKernelModel" 19 0 3 (.array .int) true := ⟨33, "GuestKernelModel", "GuestKernelModel", "third", "[I", T_Mo, ty_Mo, rfl, in_Mo, tk_Mo, nm_Mo, rfl, by decide, rfl, by decide +kernel, (kt3 115 rfl rfl)⟩
theorem fn_Mo_22 : n_fld mS0 kT "GuestKernelModel" 22 0 4 (.array .int) true := ⟨33, "GuestKernelModel", "GuestKernelModel", "state", "[I", T_Mo, ty_Mo, rfl, in_Mo, tk_Mo, nm_Mo, rfl, by decide, rfl, by decide +kernel, (kt3 116 rfl rfl)⟩
theorem fn_Mo_25 : n_fld mS0 kT "GuestKernelModel" 25 0 5 (.array .int) true := ⟨33, "GuestKernelModel", "GuestKernelModel", "place", "[I", T_Mo, ty_Mo, rfl, in_Mo, tk_Mo, nm_Mo, rfl, by decide, rfl, by decide +kernel, (kt3 117 rfl rfl)⟩
theorem fn_Mo_28 : n_fld mS0 kT "GuestKernelModel" 28 0 6 (.array .int) true := ⟨33, "GuestKernelModel", "GuestKernelModel", "handler", "[I", T_Mo, ty_Mo, rfl, in_Mo, tk_Mo, nm_Mo, rfl, by decide, rfl, by decide +kernel, (kt3 118 rfl rfl)⟩
theorem fn_Mo_31 : n_fld mS0 kT "GuestKernelModel" 31 0 7 (.array .int) true := ⟨33, "GuestKernelModel", "GuestKernelModel", "quota", "[I", T_Mo, ty_Mo, rfl, in_Mo, tk_Mo, nm_Mo, rfl, by decide, rfl, by decide +kernel, (kt3 119 rfl rfl)⟩
theorem fn_Mo_34 : n_fld mS0 kT "GuestKernelModel" 34 0 8 (.array .int) true := ⟨33, "GuestKernelModel", "GuestKernelModel", "used", "[I", T_Mo, ty_Mo, rfl, in_Mo, tk_Mo, nm_Mo, rfl, by decide, rfl, by decide +kernel, (kt3 120 rfl rfl)⟩
theorem fn_Mo_37 : n_fld mS0 kT "GuestKernelModel" 37 0 9 (.array .int) true := ⟨33, "GuestKernelModel", "GuestKernelModel", "given", "[I", T_Mo, ty_Mo, rfl, in_Mo, tk_Mo, nm_Mo, rfl, by decide, rfl, by decide +kernel, (kt3 121 rfl rfl)⟩
theorem fn_Mo_40 : n_fld mS0 kT "GuestKernelModel" 40 0 10 (.array .int) true := ⟨33, "GuestKernelModel", "GuestKernelModel", "parent", "[I", T_Mo, ty_Mo, rfl, in_Mo, tk_Mo, nm_Mo, rfl, by decide, rfl, by decide +kernel, (kt3 122 rfl rfl)⟩
theorem fn_Mo_43 : n_fld mS0 kT "GuestKernelModel" 43 0 11 (.array .int) true := ⟨33, "GuestKernelModel", "GuestKernelModel", "outcome", "[I", T_Mo, ty_Mo, rfl, in_Mo, tk_Mo, nm_Mo, rfl, by decide, rfl, by decide +kernel, (kt3 123 rfl rfl)⟩
theorem fn_Mo_46 : n_fld mS0 kT "GuestKernelModel" 46 0 12 (.array .int) true := ⟨33, "GuestKernelModel", "GuestKernelModel", "traps", "[I", T_Mo, ty_Mo, rfl, in_Mo, tk_Mo, nm_Mo, rfl, by decide, rfl, by decide +kernel, (kt3 124 rfl rfl)⟩
theorem fn_Mo_49 : n_fld mS0 kT "GuestKernelModel" 49 0 13 (.array .int) true := ⟨33, "GuestKernelModel", "GuestKernelModel", "carried", "[I", T_Mo, ty_Mo, rfl, in_Mo, tk_Mo, nm_Mo, rfl, by decide, rfl, by decide +kernel, (kt3 125 rfl rfl)⟩
theorem fn_Mo_52 : n_fld mS0 kT "GuestKernelModel" 52 0 14 (.array .int) true := ⟨33, "GuestKernelModel", "GuestKernelModel", "register", "[I", T_Mo, ty_Mo, rfl, in_Mo, tk_Mo, nm_Mo, rfl, by decide, rfl, by decide +kernel, (kt3 126 rfl rfl)⟩
theorem fn_Mo_55 : n_fld mS0 kT "GuestKernelModel" 55 0 15 (.array .int) true := ⟨33, "GuestKernelModel", "GuestKernelModel", "page", "[I", T_Mo, ty_Mo, rfl, in_Mo, tk_Mo, nm_Mo, rfl, by decide, rfl, by decide +kernel, (kt3 127 rfl rfl)⟩
theorem fn_Mo_58 : n_fld mS0 kT "GuestKernelModel" 58 0 16 (.array .int) true := ⟨33, "GuestKernelModel", "GuestKernelModel", "memory", "[I", T_Mo, ty_Mo, rfl, in_Mo, tk_Mo, nm_Mo, rfl, by decide, rfl, by decide +kernel, (kt3 128 rfl rfl)⟩
theorem fn_Mo_61 : n_fld mS0 kT "GuestKernelModel" 61 0 17 (.array .boolean) true := ⟨33, "GuestKernelModel", "GuestKernelModel", "taken", "[Z", T_Mo, ty_Mo, rfl, in_Mo, tk_Mo, nm_Mo, rfl, by decide, rfl, by decide +kernel, (kt3 129 rfl rfl)⟩
theorem fn_Mo_65 : n_fld mS0 kT "GuestKernelModel" 65 0 18 (.array .int) true := ⟨33, "GuestKernelModel", "GuestKernelModel", "row", "[I", T_Mo, ty_Mo, rfl, in_Mo, tk_Mo, nm_Mo, rfl, by decide, rfl, by decide +kernel, (kt3 130 rfl rfl)⟩
theorem fn_Mo_68 : n_fld mS0 kT "GuestKernelModel" 68 0 19 (.array .int) true := ⟨33, "GuestKernelModel", "GuestKernelModel", "size", "[I", T_Mo, ty_Mo, rfl, in_Mo, tk_Mo, nm_Mo, rfl, by decide, rfl, by decide +kernel, (kt3 131 rfl rfl)⟩
theorem fn_Mo_71 : n_fld mS0 kT "GuestKernelModel" 71 0 20 (.array .int) true := ⟨33, "GuestKernelModel", "GuestKernelModel", "channel", "[I", T_Mo, ty_Mo, rfl, in_Mo, tk_Mo, nm_Mo, rfl, by decide, rfl, by decide +kernel, (kt3 132 rfl rfl)⟩
theorem fn_Mo_74 : n_fld mS0 kT "GuestKernelModel" 74 0 21 (.array .int) true := ⟨33, "GuestKernelModel", "GuestKernelModel", "held", "[I", T_Mo, ty_Mo, rfl, in_Mo, tk_Mo, nm_Mo, rfl, by decide, rfl, by decide +kernel, (kt3 133 rfl rfl)⟩
theorem fn_Mo_77 : n_fld mS0 kT "GuestKernelModel" 77 0 22 (.array .int) true := ⟨33, "GuestKernelModel", "GuestKernelModel", "holder", "[I", T_Mo, ty_Mo, rfl, in_Mo, tk_Mo, nm_Mo, rfl, by decide, rfl, by decide +kernel, (kt3 134 rfl rfl)⟩
theorem fn_Mo_80 : n_fld mS0 kT "GuestKernelModel" 80 0 23 (.array .int) true := ⟨33, "GuestKernelModel", "GuestKernelModel", "hand", "[I", T_Mo, ty_Mo, rfl, in_Mo, tk_Mo, nm_Mo, rfl, by decide, rfl, by decide +kernel, (kt3 135 rfl rfl)⟩
theorem fn_Mo_83 : n_fld mS0 kT "GuestKernelModel" 83 0 24 (.array .int) true := ⟨33, "GuestKernelModel", "GuestKernelModel", "time", "[I", T_Mo, ty_Mo, rfl, in_Mo, tk_Mo, nm_Mo, rfl, by decide, rfl, by decide +kernel, (kt3 136 rfl rfl)⟩
def m_ph (a z : Nat) : Nat → Nat → Nat := fun f _ => match f with
  | 0 => a
  | 1 => z + 0
  | 2 => z + 1
  | 3 => z + 2
  | 4 => z + 3
  | 5 => z + 4
  | 6 => z + 5
  | 7 => z + 6
  | 8 => z + 7
  | 9 => z + 8
  | 10 => z + 9
  | 11 => z + 10
  | 12 => z + 11
  | 13 => z + 12
  | 14 => z + 13
  | 15 => z + 14
  | 16 => z + 15
  | 17 => z + 16
  | 18 => z + 17
  | 19 => z + 18
  | 20 => z + 19
  | 21 => z + 20
  | 22 => z + 21
  | 23 => z + 22
  | 24 => z + 23
  | _ => z + 24
def m_K0 : kM := fun _ _ _ => 0
theorem iv_mK0 : m_Inv m_K0 := by
  intro f i j
  unfold m_rng
  split
  · exact (k_in (by decide) : vp_in 0 22)
  · exact (k_in (by decide) : vp_in 0 4)
  · exact (k_in (by decide) : vp_in 0 4)
  · exact (k_in (by decide) : vp_in 0 32)
  · exact Or.inr (k_in (by decide) : vp_in 0 32)
  · exact Or.inr (k_in (by decide) : vp_in 0 12)
  · exact (k_in (by decide) : vp_in 0 6)
  · exact (by decide : (0 : Int32) ≤ 0 ∧ (0 : Int32) ≤ 6)
  · exact (by decide : (0 : Int32) ≤ 0 ∧ (0 : Int32) ≤ 2)
  · exact Or.inr (k_in (by decide) : vp_in 0 6)
  · exact Or.inr (k_in (by decide) : vp_in 0 6)
  · trivial
def m_Ki : kM := (k_up (k_up (k_up (k_up (k_up (k_up (k_up (k_up (k_up (k_up (k_up (k_up m_K0 5 0 0 (-1)) 5 0 1 (-1)) 5 0 2 (-1)) 5 0 3 (-1)) 5 0 4 (-1)) 5 0 5 (-1)) 23 0 0 (-1)) 23 0 1 (-1)) 23 0 2 (-1)) 23 0 3 (-1)) 24 0 0 (-1)) 24 0 1 (-1))
def m_K1 : kM := m_begin m_Ki 0 0 12 (-1)
def m_tb : List (Nat × Nat) := [(1, 0), (2, 0), (3, 0), (4, 0), (5, 0), (6, 0), (7, 0), (8, 0), (9, 0), (10, 0), (11, 0), (12, 0), (13, 0), (14, 0), (15, 0), (16, 0), (17, 0), (18, 0), (19, 0), (20, 0), (21, 0), (22, 0), (23, 0), (24, 0), (25, 0)]
def m_T0 (z : Nat) : va_E := .inr (0, [.ref (z + 0), .ref (z + 1), .ref (z + 2), .ref (z + 3), .ref (z + 4), .ref (z + 5), .ref (z + 6), .ref (z + 7), .ref (z + 8), .ref (z + 9), .ref (z + 10), .ref (z + 11), .ref (z + 12), .ref (z + 13), .ref (z + 14), .ref (z + 15), .ref (z + 16), .ref (z + 17), .ref (z + 18), .ref (z + 19), .ref (z + 20), .ref (z + 21), .ref (z + 22), .ref (z + 23), .ref (z + 24), .int 0, .int 0, .int 0, .int 0, .int 0, .int 0, .int 0, .int 0])
def m_L0 (G : kG) (z : Nat) : List va_E := [.inl (G.2.1 0, 32, .inl (fun _ => 0)), .inl (G.2.1 0, 32, .inl (fun _ => 0)), .inl (G.2.1 0, 32, .inl (fun _ => 0)), .inl (G.2.1 0, 32, .inl (fun _ => 0)), .inl (G.2.1 0, 6, .inl (fun _ => 0)), .inl (G.2.1 0, 6, .inl (fun _ => 0)), .inl (G.2.1 0, 6, .inl (fun _ => 0)), .inl (G.2.1 0, 6, .inl (fun _ => 0)), .inl (G.2.1 0, 6, .inl (fun _ => 0)), .inl (G.2.1 0, 6, .inl (fun _ => 0)), .inl (G.2.1 0, 6, .inl (fun _ => 0)), .inl (G.2.1 0, 6, .inl (fun _ => 0)), .inl (G.2.1 0, 6, .inl (fun _ => 0)), .inl (G.2.1 0, 6, .inl (fun _ => 0)), .inl (G.2.1 0, 24, .inl (fun _ => 0)), .inl (G.2.1 0, 24, .inl (fun _ => 0)), .inl (G.2.1 0, 96, .inl (fun _ => 0)), .inl (G.2.1 1, 12, .inl (fun _ => 0)), .inl (G.2.1 0, 84, .inl (fun _ => 0)), .inl (G.2.1 0, 14, .inl (fun _ => 0)), .inl (G.2.1 0, 8, .inl (fun _ => 0)), .inl (G.2.1 0, 4, .inl (fun _ => 0)), .inl (G.2.1 0, 4, .inl (fun _ => 0)), .inl (G.2.1 0, 2, .inl (fun _ => 0)), .inl (G.2.1 0, 2, .inl (fun _ => 0))]
set_option maxHeartbeats 4000000 in
set_option maxRecDepth 100000 in
theorem m_cells (G : kG) (a z : Nat) : ∀ (f c : Nat) (k : kF) (i : Nat), mS.2.2[f]? = some (c, k) → i < c → (m_ph a z f i = a ∧ f = 0 ∧ i = 0 ∧ k_ent (G.1, G.2.1, m_ph a z) m_K0 f i k = m_T0 z) ∨ ∃ j e, m_ph a z f i = z + j ∧ m_tb[j]? = some (f, i) ∧ (m_L0 G z)[j]? = some e ∧ n_same e (k_ent (G.1, G.2.1, m_ph a z) m_K0 f i k) := fun f c k i hf hi => match f, hf with
  | 0, hf => by
    have e := Option.some.inj (hf.symm.trans (show mS.2.2[0]? = some (1, (.inl (0, 33, rf_Mo) : kF)) from rfl))
    cases e
    match i, hi with
    | 0, _ => exact Or.inl ⟨rfl, rfl, rfl, rfl⟩
    | q + 1, h => exact absurd h (by omega)
  | 1, hf => by
    have e := Option.some.inj (hf.symm.trans (show mS.2.2[1]? = some (1, (.inr (.inl (0, 32)) : kF)) from rfl))
    cases e
    match i, hi with
    | 0, _ => exact Or.inr ⟨0, _, rfl, rfl, rfl, n_same.rf⟩
    | q + 1, h => exact absurd h (by omega)
  | 2, hf => by
    have e := Option.some.inj (hf.symm.trans (show mS.2.2[2]? = some (1, (.inr (.inl (0, 32)) : kF)) from rfl))
    cases e
    match i, hi with
    | 0, _ => exact Or.inr ⟨1, _, rfl, rfl, rfl, n_same.rf⟩
    | q + 1, h => exact absurd h (by omega)
  | 3, hf => by
    have e := Option.some.inj (hf.symm.trans (show mS.2.2[3]? = some (1, (.inr (.inl (0, 32)) : kF)) from rfl))
    cases e
    match i, hi with
    | 0, _ => exact Or.inr ⟨2, _, rfl, rfl, rfl, n_same.rf⟩
    | q + 1, h => exact absurd h (by omega)
  | 4, hf => by
    have e := Option.some.inj (hf.symm.trans (show mS.2.2[4]? = some (1, (.inr (.inl (0, 32)) : kF)) from rfl))
    cases e
    match i, hi with
    | 0, _ => exact Or.inr ⟨3, _, rfl, rfl, rfl, n_same.rf⟩
    | q + 1, h => exact absurd h (by omega)
  | 5, hf => by
    have e := Option.some.inj (hf.symm.trans (show mS.2.2[5]? = some (1, (.inr (.inl (0, 6)) : kF)) from rfl))
    cases e
    match i, hi with
    | 0, _ => exact Or.inr ⟨4, _, rfl, rfl, rfl, n_same.rf⟩
    | q + 1, h => exact absurd h (by omega)
  | 6, hf => by
    have e := Option.some.inj (hf.symm.trans (show mS.2.2[6]? = some (1, (.inr (.inl (0, 6)) : kF)) from rfl))
    cases e
    match i, hi with
    | 0, _ => exact Or.inr ⟨5, _, rfl, rfl, rfl, n_same.rf⟩
    | q + 1, h => exact absurd h (by omega)
  | 7, hf => by
    have e := Option.some.inj (hf.symm.trans (show mS.2.2[7]? = some (1, (.inr (.inl (0, 6)) : kF)) from rfl))
    cases e
    match i, hi with
    | 0, _ => exact Or.inr ⟨6, _, rfl, rfl, rfl, n_same.rf⟩
    | q + 1, h => exact absurd h (by omega)
  | 8, hf => by
    have e := Option.some.inj (hf.symm.trans (show mS.2.2[8]? = some (1, (.inr (.inl (0, 6)) : kF)) from rfl))
    cases e
    match i, hi with
    | 0, _ => exact Or.inr ⟨7, _, rfl, rfl, rfl, n_same.rf⟩
    | q + 1, h => exact absurd h (by omega)
  | 9, hf => by
    have e := Option.some.inj (hf.symm.trans (show mS.2.2[9]? = some (1, (.inr (.inl (0, 6)) : kF)) from rfl))
    cases e
    match i, hi with
    | 0, _ => exact Or.inr ⟨8, _, rfl, rfl, rfl, n_same.rf⟩
    | q + 1, h => exact absurd h (by omega)
  | 10, hf => by
    have e := Option.some.inj (hf.symm.trans (show mS.2.2[10]? = some (1, (.inr (.inl (0, 6)) : kF)) from rfl))
    cases e
    match i, hi with
    | 0, _ => exact Or.inr ⟨9, _, rfl, rfl, rfl, n_same.rf⟩
    | q + 1, h => exact absurd h (by omega)
  | 11, hf => by
    have e := Option.some.inj (hf.symm.trans (show mS.2.2[11]? = some (1, (.inr (.inl (0, 6)) : kF)) from rfl))
    cases e
    match i, hi with
    | 0, _ => exact Or.inr ⟨10, _, rfl, rfl, rfl, n_same.rf⟩
    | q + 1, h => exact absurd h (by omega)
  | 12, hf => by
    have e := Option.some.inj (hf.symm.trans (show mS.2.2[12]? = some (1, (.inr (.inl (0, 6)) : kF)) from rfl))
    cases e
    match i, hi with
    | 0, _ => exact Or.inr ⟨11, _, rfl, rfl, rfl, n_same.rf⟩
    | q + 1, h => exact absurd h (by omega)
  | 13, hf => by
    have e := Option.some.inj (hf.symm.trans (show mS.2.2[13]? = some (1, (.inr (.inl (0, 6)) : kF)) from rfl))
    cases e
    match i, hi with
    | 0, _ => exact Or.inr ⟨12, _, rfl, rfl, rfl, n_same.rf⟩
    | q + 1, h => exact absurd h (by omega)
  | 14, hf => by
    have e := Option.some.inj (hf.symm.trans (show mS.2.2[14]? = some (1, (.inr (.inl (0, 6)) : kF)) from rfl))
    cases e
    match i, hi with
    | 0, _ => exact Or.inr ⟨13, _, rfl, rfl, rfl, n_same.rf⟩
    | q + 1, h => exact absurd h (by omega)
  | 15, hf => by
    have e := Option.some.inj (hf.symm.trans (show mS.2.2[15]? = some (1, (.inr (.inl (0, 24)) : kF)) from rfl))
    cases e
    match i, hi with
    | 0, _ => exact Or.inr ⟨14, _, rfl, rfl, rfl, n_same.rf⟩
    | q + 1, h => exact absurd h (by omega)
  | 16, hf => by
    have e := Option.some.inj (hf.symm.trans (show mS.2.2[16]? = some (1, (.inr (.inl (0, 24)) : kF)) from rfl))
    cases e
    match i, hi with
    | 0, _ => exact Or.inr ⟨15, _, rfl, rfl, rfl, n_same.rf⟩
    | q + 1, h => exact absurd h (by omega)
  | 17, hf => by
    have e := Option.some.inj (hf.symm.trans (show mS.2.2[17]? = some (1, (.inr (.inl (0, 96)) : kF)) from rfl))
    cases e
    match i, hi with
    | 0, _ => exact Or.inr ⟨16, _, rfl, rfl, rfl, n_same.rf⟩
    | q + 1, h => exact absurd h (by omega)
  | 18, hf => by
    have e := Option.some.inj (hf.symm.trans (show mS.2.2[18]? = some (1, (.inr (.inl (1, 12)) : kF)) from rfl))
    cases e
    match i, hi with
    | 0, _ => exact Or.inr ⟨17, _, rfl, rfl, rfl, n_same.rf⟩
    | q + 1, h => exact absurd h (by omega)
  | 19, hf => by
    have e := Option.some.inj (hf.symm.trans (show mS.2.2[19]? = some (1, (.inr (.inl (0, 84)) : kF)) from rfl))
    cases e
    match i, hi with
    | 0, _ => exact Or.inr ⟨18, _, rfl, rfl, rfl, n_same.rf⟩
    | q + 1, h => exact absurd h (by omega)
  | 20, hf => by
    have e := Option.some.inj (hf.symm.trans (show mS.2.2[20]? = some (1, (.inr (.inl (0, 14)) : kF)) from rfl))
    cases e
    match i, hi with
    | 0, _ => exact Or.inr ⟨19, _, rfl, rfl, rfl, n_same.rf⟩
    | q + 1, h => exact absurd h (by omega)
  | 21, hf => by
    have e := Option.some.inj (hf.symm.trans (show mS.2.2[21]? = some (1, (.inr (.inl (0, 8)) : kF)) from rfl))
    cases e
    match i, hi with
    | 0, _ => exact Or.inr ⟨20, _, rfl, rfl, rfl, n_same.rf⟩
    | q + 1, h => exact absurd h (by omega)
  | 22, hf => by
    have e := Option.some.inj (hf.symm.trans (show mS.2.2[22]? = some (1, (.inr (.inl (0, 4)) : kF)) from rfl))
    cases e
    match i, hi with
    | 0, _ => exact Or.inr ⟨21, _, rfl, rfl, rfl, n_same.rf⟩
    | q + 1, h => exact absurd h (by omega)
  | 23, hf => by
    have e := Option.some.inj (hf.symm.trans (show mS.2.2[23]? = some (1, (.inr (.inl (0, 4)) : kF)) from rfl))
    cases e
    match i, hi with
    | 0, _ => exact Or.inr ⟨22, _, rfl, rfl, rfl, n_same.rf⟩
    | q + 1, h => exact absurd h (by omega)
  | 24, hf => by
    have e := Option.some.inj (hf.symm.trans (show mS.2.2[24]? = some (1, (.inr (.inl (0, 2)) : kF)) from rfl))
    cases e
    match i, hi with
    | 0, _ => exact Or.inr ⟨23, _, rfl, rfl, rfl, n_same.rf⟩
    | q + 1, h => exact absurd h (by omega)
  | 25, hf => by
    have e := Option.some.inj (hf.symm.trans (show mS.2.2[25]? = some (1, (.inr (.inl (0, 2)) : kF)) from rfl))
    cases e
    match i, hi with
    | 0, _ => exact Or.inr ⟨24, _, rfl, rfl, rfl, n_same.rf⟩
    | q + 1, h => exact absurd h (by omega)
  | q + 26, hf => absurd hf (by simp [mS, mL])

set_option maxHeartbeats 4000000 in
set_option maxRecDepth 100000 in
theorem b_MoT {X : kX} {G : kG} {l : Launch} (C : k_C X kT b_Mo_init y_Mo_init.cls mS G 2 l (n_rm 3 25 462)) (I0 : m_Inv m_K0) (E : k_E X none none m_K1 25 462) : k_W X 25 462 200 [(0, .ref (G.2.2 0 0))] [] m_K0 := by
  refine k_iconst C d_Mo_init_200 (v := 0) (by decide) ?_
  refine k_istore_n C d_Mo_init_201 (by decide) ?_
  refine k_iload_n C d_Mo_init_202 rfl ?_
  refine k_bipush C d_Mo_init_203 (v := 6) (by decide) ?_
  refine k_icmp_ge C d_Mo_init_205 (tgt := 221) (by decide) (fun h => absurd h (by decide)) (fun _ => ?_)
  refine k_aload_n C d_Mo_init_208 rfl ?_
  refine k_getr C d_Mo_init_209 fg_Mo_22 (by decide) rfl ?_
  refine k_iload_n C d_Mo_init_212 rfl ?_
  refine k_iconst C d_Mo_init_213 (v := (-1)) (by decide) ?_
  refine k_iastore C d_Mo_init_214 am_5 (by decide) (k_in (by decide)) (j := 0) (by decide) I0 (trivial) (fun I1 => ?_)
  refine k_iinc C d_Mo_init_215 rfl (v := 1) (by decide) (by decide) ?_
  refine k_goto C d_Mo_init_218 (tgt := 202) (by decide) ?_
  refine k_iload_n C d_Mo_init_202 rfl ?_
  refine k_bipush C d_Mo_init_203 (v := 6) (by decide) ?_
  refine k_icmp_ge C d_Mo_init_205 (tgt := 221) (by decide) (fun h => absurd h (by decide)) (fun _ => ?_)
  refine k_aload_n C d_Mo_init_208 rfl ?_
  refine k_getr C d_Mo_init_209 fg_Mo_22 (by decide) rfl ?_
  refine k_iload_n C d_Mo_init_212 rfl ?_
  refine k_iconst C d_Mo_init_213 (v := (-1)) (by decide) ?_
  refine k_iastore C d_Mo_init_214 am_5 (by decide) (k_in (by decide)) (j := 1) (by decide) I1 (trivial) (fun I2 => ?_)
  refine k_iinc C d_Mo_init_215 rfl (v := 2) (by decide) (by decide) ?_
  refine k_goto C d_Mo_init_218 (tgt := 202) (by decide) ?_
  refine k_iload_n C d_Mo_init_202 rfl ?_
  refine k_bipush C d_Mo_init_203 (v := 6) (by decide) ?_
  refine k_icmp_ge C d_Mo_init_205 (tgt := 221) (by decide) (fun h => absurd h (by decide)) (fun _ => ?_)
  refine k_aload_n C d_Mo_init_208 rfl ?_
  refine k_getr C d_Mo_init_209 fg_Mo_22 (by decide) rfl ?_
  refine k_iload_n C d_Mo_init_212 rfl ?_
  refine k_iconst C d_Mo_init_213 (v := (-1)) (by decide) ?_
  refine k_iastore C d_Mo_init_214 am_5 (by decide) (k_in (by decide)) (j := 2) (by decide) I2 (trivial) (fun I3 => ?_)
  refine k_iinc C d_Mo_init_215 rfl (v := 3) (by decide) (by decide) ?_
  refine k_goto C d_Mo_init_218 (tgt := 202) (by decide) ?_
  refine k_iload_n C d_Mo_init_202 rfl ?_
  refine k_bipush C d_Mo_init_203 (v := 6) (by decide) ?_
  refine k_icmp_ge C d_Mo_init_205 (tgt := 221) (by decide) (fun h => absurd h (by decide)) (fun _ => ?_)
  refine k_aload_n C d_Mo_init_208 rfl ?_
  refine k_getr C d_Mo_init_209 fg_Mo_22 (by decide) rfl ?_
  refine k_iload_n C d_Mo_init_212 rfl ?_
  refine k_iconst C d_Mo_init_213 (v := (-1)) (by decide) ?_
  refine k_iastore C d_Mo_init_214 am_5 (by decide) (k_in (by decide)) (j := 3) (by decide) I3 (trivial) (fun I4 => ?_)
  refine k_iinc C d_Mo_init_215 rfl (v := 4) (by decide) (by decide) ?_
  refine k_goto C d_Mo_init_218 (tgt := 202) (by decide) ?_
  refine k_iload_n C d_Mo_init_202 rfl ?_
  refine k_bipush C d_Mo_init_203 (v := 6) (by decide) ?_
  refine k_icmp_ge C d_Mo_init_205 (tgt := 221) (by decide) (fun h => absurd h (by decide)) (fun _ => ?_)
  refine k_aload_n C d_Mo_init_208 rfl ?_
  refine k_getr C d_Mo_init_209 fg_Mo_22 (by decide) rfl ?_
  refine k_iload_n C d_Mo_init_212 rfl ?_
  refine k_iconst C d_Mo_init_213 (v := (-1)) (by decide) ?_
  refine k_iastore C d_Mo_init_214 am_5 (by decide) (k_in (by decide)) (j := 4) (by decide) I4 (trivial) (fun I5 => ?_)
  refine k_iinc C d_Mo_init_215 rfl (v := 5) (by decide) (by decide) ?_
  refine k_goto C d_Mo_init_218 (tgt := 202) (by decide) ?_
  refine k_iload_n C d_Mo_init_202 rfl ?_
  refine k_bipush C d_Mo_init_203 (v := 6) (by decide) ?_
  refine k_icmp_ge C d_Mo_init_205 (tgt := 221) (by decide) (fun h => absurd h (by decide)) (fun _ => ?_)
  refine k_aload_n C d_Mo_init_208 rfl ?_
  refine k_getr C d_Mo_init_209 fg_Mo_22 (by decide) rfl ?_
  refine k_iload_n C d_Mo_init_212 rfl ?_
  refine k_iconst C d_Mo_init_213 (v := (-1)) (by decide) ?_
  refine k_iastore C d_Mo_init_214 am_5 (by decide) (k_in (by decide)) (j := 5) (by decide) I5 (trivial) (fun I6 => ?_)
  refine k_iinc C d_Mo_init_215 rfl (v := 6) (by decide) (by decide) ?_
  refine k_goto C d_Mo_init_218 (tgt := 202) (by decide) ?_
  refine k_iload_n C d_Mo_init_202 rfl ?_
  refine k_bipush C d_Mo_init_203 (v := 6) (by decide) ?_
  refine k_icmp_ge C d_Mo_init_205 (tgt := 221) (by decide) (fun _ => ?_) (fun h => absurd h (by decide))
  refine k_iconst C d_Mo_init_221 (v := 0) (by decide) ?_
  refine k_istore_n C d_Mo_init_222 (by decide) ?_
  refine k_iload_n C d_Mo_init_223 rfl ?_
  refine k_iconst C d_Mo_init_224 (v := 4) (by decide) ?_
  refine k_icmp_ge C d_Mo_init_225 (tgt := 241) (by decide) (fun h => absurd h (by decide)) (fun _ => ?_)
  refine k_aload_n C d_Mo_init_228 rfl ?_
  refine k_getr C d_Mo_init_229 fg_Mo_77 (by decide) rfl ?_
  refine k_iload_n C d_Mo_init_232 rfl ?_
  refine k_iconst C d_Mo_init_233 (v := (-1)) (by decide) ?_
  refine k_iastore C d_Mo_init_234 am_23 (by decide) (k_in (by decide)) (j := 0) (by decide) I6 (Or.inl rfl) (fun I7 => ?_)
  refine k_iinc C d_Mo_init_235 rfl (v := 1) (by decide) (by decide) ?_
  refine k_goto C d_Mo_init_238 (tgt := 223) (by decide) ?_
  refine k_iload_n C d_Mo_init_223 rfl ?_
  refine k_iconst C d_Mo_init_224 (v := 4) (by decide) ?_
  refine k_icmp_ge C d_Mo_init_225 (tgt := 241) (by decide) (fun h => absurd h (by decide)) (fun _ => ?_)
  refine k_aload_n C d_Mo_init_228 rfl ?_
  refine k_getr C d_Mo_init_229 fg_Mo_77 (by decide) rfl ?_
  refine k_iload_n C d_Mo_init_232 rfl ?_
  refine k_iconst C d_Mo_init_233 (v := (-1)) (by decide) ?_
  refine k_iastore C d_Mo_init_234 am_23 (by decide) (k_in (by decide)) (j := 1) (by decide) I7 (Or.inl rfl) (fun I8 => ?_)
  refine k_iinc C d_Mo_init_235 rfl (v := 2) (by decide) (by decide) ?_
  refine k_goto C d_Mo_init_238 (tgt := 223) (by decide) ?_
  refine k_iload_n C d_Mo_init_223 rfl ?_
  refine k_iconst C d_Mo_init_224 (v := 4) (by decide) ?_
  refine k_icmp_ge C d_Mo_init_225 (tgt := 241) (by decide) (fun h => absurd h (by decide)) (fun _ => ?_)
  refine k_aload_n C d_Mo_init_228 rfl ?_
  refine k_getr C d_Mo_init_229 fg_Mo_77 (by decide) rfl ?_
  refine k_iload_n C d_Mo_init_232 rfl ?_
  refine k_iconst C d_Mo_init_233 (v := (-1)) (by decide) ?_
  refine k_iastore C d_Mo_init_234 am_23 (by decide) (k_in (by decide)) (j := 2) (by decide) I8 (Or.inl rfl) (fun I9 => ?_)
  refine k_iinc C d_Mo_init_235 rfl (v := 3) (by decide) (by decide) ?_
  refine k_goto C d_Mo_init_238 (tgt := 223) (by decide) ?_
  refine k_iload_n C d_Mo_init_223 rfl ?_
  refine k_iconst C d_Mo_init_224 (v := 4) (by decide) ?_
  refine k_icmp_ge C d_Mo_init_225 (tgt := 241) (by decide) (fun h => absurd h (by decide)) (fun _ => ?_)
  refine k_aload_n C d_Mo_init_228 rfl ?_
  refine k_getr C d_Mo_init_229 fg_Mo_77 (by decide) rfl ?_
  refine k_iload_n C d_Mo_init_232 rfl ?_
  refine k_iconst C d_Mo_init_233 (v := (-1)) (by decide) ?_
  refine k_iastore C d_Mo_init_234 am_23 (by decide) (k_in (by decide)) (j := 3) (by decide) I9 (Or.inl rfl) (fun I10 => ?_)
  refine k_iinc C d_Mo_init_235 rfl (v := 4) (by decide) (by decide) ?_
  refine k_goto C d_Mo_init_238 (tgt := 223) (by decide) ?_
  refine k_iload_n C d_Mo_init_223 rfl ?_
  refine k_iconst C d_Mo_init_224 (v := 4) (by decide) ?_
  refine k_icmp_ge C d_Mo_init_225 (tgt := 241) (by decide) (fun _ => ?_) (fun h => absurd h (by decide))
  refine k_aload_n C d_Mo_init_241 rfl ?_
  refine k_getr C d_Mo_init_242 fg_Mo_80 (by decide) rfl ?_
  refine k_iconst C d_Mo_init_245 (v := 0) (by decide) ?_
  refine k_iconst C d_Mo_init_246 (v := (-1)) (by decide) ?_
  refine k_iastore C d_Mo_init_247 am_24 (by decide) (k_in (by decide)) (j := 0) (by decide) I10 (Or.inl rfl) (fun I11 => ?_)
  refine k_aload_n C d_Mo_init_248 rfl ?_
  refine k_getr C d_Mo_init_249 fg_Mo_80 (by decide) rfl ?_
  refine k_iconst C d_Mo_init_252 (v := 1) (by decide) ?_
  refine k_iconst C d_Mo_init_253 (v := (-1)) (by decide) ?_
  refine k_iastore C d_Mo_init_254 am_24 (by decide) (k_in (by decide)) (j := 1) (by decide) I11 (Or.inl rfl) (fun I12 => ?_)
  refine k_aload_n C d_Mo_init_255 rfl ?_
  refine k_iconst C d_Mo_init_256 (v := 0) (by decide) ?_
  refine k_iconst C d_Mo_init_257 (v := 0) (by decide) ?_
  refine k_bipush C d_Mo_init_258 (v := 12) (by decide) ?_
  refine k_iconst C d_Mo_init_260 (v := (-1)) (by decide) ?_
  refine k_callVv C kg_all (c_Mo_begin l G _ _ _ _ _ 0 rfl I12 (by decide) (by (repeat rw [mt_ne (by decide)]); exact Nat.le_of_ble_eq_true rfl) (k_in (by decide))) cs_Mo_86 cv_Mo_begin om_0 (by decide) rfl rfl (Nat.le_of_ble_eq_true rfl) ⟨rfl, rfl⟩ ⟨by decide, by decide⟩ ⟨by decide, by decide⟩ d_Mo_init_261 (iv_mbegin I12 (by (repeat rw [mt_ne (by decide)]); exact Nat.le_of_ble_eq_true rfl) (by decide) (k_in (by decide))) (fun I13 => ?_)
  exact k_return C (E.to rfl (by first | rfl | (simp only [m_K1, m_Ki, ↓reduceIte, Nat.reduceAdd]; done) | (simp only [m_K1, m_Ki, ↓reduceIte, Nat.reduceAdd]; rfl) | contradiction | (simp [m_K1, m_Ki, ↓reduceIte, Nat.reduceAdd]; done) | (simp [m_K1, m_Ki, ↓reduceIte, Nat.reduceAdd]; rfl))) d_Mo_init_264
set_option maxHeartbeats 4000000 in
set_option maxRecDepth 100000 in
theorem c_Mo_init (l : Launch) (G : kG) (a z : Nat) (haz : a < z) : Met l y_Mo_init (.code y_Mo_init b_Mo_init 2 none :: kT) (n_rm 3 25 462) (n_Pc mS0 G a z [] (.inr (0, [.null, .null, .null, .null, .null, .null, .null, .null, .null, .null, .null, .null, .null, .null, .null, .null, .null, .null, .null, .null, .null, .null, .null, .null, .null, .int 0, .int 0, .int 0, .int 0, .int 0, .int 0, .int 0, .int 0]))) (k_Qc mS (G.1, G.2.1, m_ph a z) none m_K1 (n_A a z)) 25 462 (n_A a z) := by
  refine n_intro rfl (by decide +kernel) rfl rfl (Nat.le_of_ble_eq_true rfl) ?_
  intro X C N E
  refine n_aload_n C d_Mo_init_0 rfl ?_
  refine n_obj C ⟨(kt3 99 rfl rfl), (kt1 25 rfl rfl), (kt1 26 rfl rfl)⟩ ⟨by decide, by decide⟩ d_Mo_init_1 ?_
  refine n_aload_n C d_Mo_init_4 rfl ?_
  refine n_bipush C d_Mo_init_5 (v := 32) (by decide) ?_
  refine n_newa C N (ty := .int) (t0 := 0) (n := 32) (j := 0) d_Mo_init_7 rfl rfl (kt1 37 rfl rfl) rfl ra_int (by decide) (by decide) (by decide) ⟨by decide, by decide⟩ rfl ?_
  refine n_put C N d_Mo_init_9 fn_Mo_7 rfl rfl (Nat.le_of_ble_eq_true rfl) ?_
  refine n_nf (.inr (0, [.ref (z + 0), .null, .null, .null, .null, .null, .null, .null, .null, .null, .null, .null, .null, .null, .null, .null, .null, .null, .null, .null, .null, .null, .null, .null, .null, .int 0, .int 0, .int 0, .int 0, .int 0, .int 0, .int 0, .int 0])) [.inl (G.2.1 0, 32, .inl (fun _ => 0))] rfl rfl ?_
  refine n_ct (m1 := 1) (m2 := 32) rfl rfl ?_
  refine n_aload_n C d_Mo_init_12 rfl ?_
  refine n_bipush C d_Mo_init_13 (v := 32) (by decide) ?_
  refine n_newa C N (ty := .int) (t0 := 0) (n := 32) (j := 1) d_Mo_init_15 rfl rfl (kt1 37 rfl rfl) rfl ra_int (by decide) (by decide) (by decide) ⟨by decide, by decide⟩ rfl ?_
  refine n_put C N d_Mo_init_17 fn_Mo_13 rfl rfl (Nat.le_of_ble_eq_true rfl) ?_
  refine n_nf (.inr (0, [.ref (z + 0), .ref (z + 1), .null, .null, .null, .null, .null, .null, .null, .null, .null, .null, .null, .null, .null, .null, .null, .null, .null, .null, .null, .null, .null, .null, .null, .int 0, .int 0, .int 0, .int 0, .int 0, .int 0, .int 0, .int 0])) [.inl (G.2.1 0, 32, .inl (fun _ => 0)), .inl (G.2.1 0, 32, .inl (fun _ => 0))] rfl rfl ?_
  refine n_ct (m1 := 2) (m2 := 64) rfl rfl ?_
  refine n_aload_n C d_Mo_init_20 rfl ?_
  refine n_bipush C d_Mo_init_21 (v := 32) (by decide) ?_
  refine n_newa C N (ty := .int) (t0 := 0) (n := 32) (j := 2) d_Mo_init_23 rfl rfl (kt1 37 rfl rfl) rfl ra_int (by decide) (by decide) (by decide) ⟨by decide, by decide⟩ rfl ?_
  refine n_put C N d_Mo_init_25 fn_Mo_16 rfl rfl (Nat.le_of_ble_eq_true rfl) ?_
  refine n_nf (.inr (0, [.ref (z + 0), .ref (z + 1), .ref (z + 2), .null, .null, .null, .null, .null, .null, .null, .null, .null, .null, .null, .null, .null, .null, .null, .null, .null, .null, .null, .null, .null, .null, .int 0, .int 0, .int 0, .int 0, .int 0, .int 0, .int 0, .int 0])) [.inl (G.2.1 0, 32, .inl (fun _ => 0)), .inl (G.2.1 0, 32, .inl (fun _ => 0)), .inl (G.2.1 0, 32, .inl (fun _ => 0))] rfl rfl ?_
  refine n_ct (m1 := 3) (m2 := 96) rfl rfl ?_
  refine n_aload_n C d_Mo_init_28 rfl ?_
  refine n_bipush C d_Mo_init_29 (v := 32) (by decide) ?_
  refine n_newa C N (ty := .int) (t0 := 0) (n := 32) (j := 3) d_Mo_init_31 rfl rfl (kt1 37 rfl rfl) rfl ra_int (by decide) (by decide) (by decide) ⟨by decide, by decide⟩ rfl ?_
  refine n_put C N d_Mo_init_33 fn_Mo_19 rfl rfl (Nat.le_of_ble_eq_true rfl) ?_
  refine n_nf (.inr (0, [.ref (z + 0), .ref (z + 1), .ref (z + 2), .ref (z + 3), .null, .null, .null, .null, .null, .null, .null, .null, .null, .null, .null, .null, .null, .null, .null, .null, .null, .null, .null, .null, .null, .int 0, .int 0, .int 0, .int 0, .int 0, .int 0, .int 0, .int 0])) [.inl (G.2.1 0, 32, .inl (fun _ => 0)), .inl (G.2.1 0, 32, .inl (fun _ => 0)), .inl (G.2.1 0, 32, .inl (fun _ => 0)), .inl (G.2.1 0, 32, .inl (fun _ => 0))] rfl rfl ?_
  refine n_ct (m1 := 4) (m2 := 128) rfl rfl ?_
  refine n_aload_n C d_Mo_init_36 rfl ?_
  refine n_bipush C d_Mo_init_37 (v := 6) (by decide) ?_
  refine n_newa C N (ty := .int) (t0 := 0) (n := 6) (j := 4) d_Mo_init_39 rfl rfl (kt1 37 rfl rfl) rfl ra_int (by decide) (by decide) (by decide) ⟨by decide, by decide⟩ rfl ?_
  refine n_put C N d_Mo_init_41 fn_Mo_22 rfl rfl (Nat.le_of_ble_eq_true rfl) ?_
  refine n_nf (.inr (0, [.ref (z + 0), .ref (z + 1), .ref (z + 2), .ref (z + 3), .ref (z + 4), .null, .null, .null, .null, .null, .null, .null, .null, .null, .null, .null, .null, .null, .null, .null, .null, .null, .null, .null, .null, .int 0, .int 0, .int 0, .int 0, .int 0, .int 0, .int 0, .int 0])) [.inl (G.2.1 0, 32, .inl (fun _ => 0)), .inl (G.2.1 0, 32, .inl (fun _ => 0)), .inl (G.2.1 0, 32, .inl (fun _ => 0)), .inl (G.2.1 0, 32, .inl (fun _ => 0)), .inl (G.2.1 0, 6, .inl (fun _ => 0))] rfl rfl ?_
  refine n_ct (m1 := 5) (m2 := 134) rfl rfl ?_
  refine n_aload_n C d_Mo_init_44 rfl ?_
  refine n_bipush C d_Mo_init_45 (v := 6) (by decide) ?_
  refine n_newa C N (ty := .int) (t0 := 0) (n := 6) (j := 5) d_Mo_init_47 rfl rfl (kt1 37 rfl rfl) rfl ra_int (by decide) (by decide) (by decide) ⟨by decide, by decide⟩ rfl ?_
  refine n_put C N d_Mo_init_49 fn_Mo_25 rfl rfl (Nat.le_of_ble_eq_true rfl) ?_
  refine n_nf (.inr (0, [.ref (z + 0), .ref (z + 1), .ref (z + 2), .ref (z + 3), .ref (z + 4), .ref (z + 5), .null, .null, .null, .null, .null, .null, .null, .null, .null, .null, .null, .null, .null, .null, .null, .null, .null, .null, .null, .int 0, .int 0, .int 0, .int 0, .int 0, .int 0, .int 0, .int 0])) [.inl (G.2.1 0, 32, .inl (fun _ => 0)), .inl (G.2.1 0, 32, .inl (fun _ => 0)), .inl (G.2.1 0, 32, .inl (fun _ => 0)), .inl (G.2.1 0, 32, .inl (fun _ => 0)), .inl (G.2.1 0, 6, .inl (fun _ => 0)), .inl (G.2.1 0, 6, .inl (fun _ => 0))] rfl rfl ?_
  refine n_ct (m1 := 6) (m2 := 140) rfl rfl ?_
  refine n_aload_n C d_Mo_init_52 rfl ?_
  refine n_bipush C d_Mo_init_53 (v := 6) (by decide) ?_
  refine n_newa C N (ty := .int) (t0 := 0) (n := 6) (j := 6) d_Mo_init_55 rfl rfl (kt1 37 rfl rfl) rfl ra_int (by decide) (by decide) (by decide) ⟨by decide, by decide⟩ rfl ?_
  refine n_put C N d_Mo_init_57 fn_Mo_28 rfl rfl (Nat.le_of_ble_eq_true rfl) ?_
  refine n_nf (.inr (0, [.ref (z + 0), .ref (z + 1), .ref (z + 2), .ref (z + 3), .ref (z + 4), .ref (z + 5), .ref (z + 6), .null, .null, .null, .null, .null, .null, .null, .null, .null, .null, .null, .null, .null, .null, .null, .null, .null, .null, .int 0, .int 0, .int 0, .int 0, .int 0, .int 0, .int 0, .int 0])) [.inl (G.2.1 0, 32, .inl (fun _ => 0)), .inl (G.2.1 0, 32, .inl (fun _ => 0)), .inl (G.2.1 0, 32, .inl (fun _ => 0)), .inl (G.2.1 0, 32, .inl (fun _ => 0)), .inl (G.2.1 0, 6, .inl (fun _ => 0)), .inl (G.2.1 0, 6, .inl (fun _ => 0)), .inl (G.2.1 0, 6, .inl (fun _ => 0))] rfl rfl ?_
  refine n_ct (m1 := 7) (m2 := 146) rfl rfl ?_
  refine n_aload_n C d_Mo_init_60 rfl ?_
  refine n_bipush C d_Mo_init_61 (v := 6) (by decide) ?_
  refine n_newa C N (ty := .int) (t0 := 0) (n := 6) (j := 7) d_Mo_init_63 rfl rfl (kt1 37 rfl rfl) rfl ra_int (by decide) (by decide) (by decide) ⟨by decide, by decide⟩ rfl ?_
  refine n_put C N d_Mo_init_65 fn_Mo_31 rfl rfl (Nat.le_of_ble_eq_true rfl) ?_
  refine n_nf (.inr (0, [.ref (z + 0), .ref (z + 1), .ref (z + 2), .ref (z + 3), .ref (z + 4), .ref (z + 5), .ref (z + 6), .ref (z + 7), .null, .null, .null, .null, .null, .null, .null, .null, .null, .null, .null, .null, .null, .null, .null, .null, .null, .int 0, .int 0, .int 0, .int 0, .int 0, .int 0, .int 0, .int 0])) [.inl (G.2.1 0, 32, .inl (fun _ => 0)), .inl (G.2.1 0, 32, .inl (fun _ => 0)), .inl (G.2.1 0, 32, .inl (fun _ => 0)), .inl (G.2.1 0, 32, .inl (fun _ => 0)), .inl (G.2.1 0, 6, .inl (fun _ => 0)), .inl (G.2.1 0, 6, .inl (fun _ => 0)), .inl (G.2.1 0, 6, .inl (fun _ => 0)), .inl (G.2.1 0, 6, .inl (fun _ => 0))] rfl rfl ?_
  refine n_ct (m1 := 8) (m2 := 152) rfl rfl ?_
  refine n_aload_n C d_Mo_init_68 rfl ?_
  refine n_bipush C d_Mo_init_69 (v := 6) (by decide) ?_
  refine n_newa C N (ty := .int) (t0 := 0) (n := 6) (j := 8) d_Mo_init_71 rfl rfl (kt1 37 rfl rfl) rfl ra_int (by decide) (by decide) (by decide) ⟨by decide, by decide⟩ rfl ?_
  refine n_put C N d_Mo_init_73 fn_Mo_34 rfl rfl (Nat.le_of_ble_eq_true rfl) ?_
  refine n_nf (.inr (0, [.ref (z + 0), .ref (z + 1), .ref (z + 2), .ref (z + 3), .ref (z + 4), .ref (z + 5), .ref (z + 6), .ref (z + 7), .ref (z + 8), .null, .null, .null, .null, .null, .null, .null, .null, .null, .null, .null, .null, .null, .null, .null, .null, .int 0, .int 0, .int 0, .int 0, .int 0, .int 0, .int 0, .int 0])) [.inl (G.2.1 0, 32, .inl (fun _ => 0)), .inl (G.2.1 0, 32, .inl (fun _ => 0)), .inl (G.2.1 0, 32, .inl (fun _ => 0)), .inl (G.2.1 0, 32, .inl (fun _ => 0)), .inl (G.2.1 0, 6, .inl (fun _ => 0)), .inl (G.2.1 0, 6, .inl (fun _ => 0)), .inl (G.2.1 0, 6, .inl (fun _ => 0)), .inl (G.2.1 0, 6, .inl (fun _ => 0)), .inl (G.2.1 0, 6, .inl (fun _ => 0))] rfl rfl ?_
  refine n_ct (m1 := 9) (m2 := 158) rfl rfl ?_
  refine n_aload_n C d_Mo_init_76 rfl ?_
  refine n_bipush C d_Mo_init_77 (v := 6) (by decide) ?_
  refine n_newa C N (ty := .int) (t0 := 0) (n := 6) (j := 9) d_Mo_init_79 rfl rfl (kt1 37 rfl rfl) rfl ra_int (by decide) (by decide) (by decide) ⟨by decide, by decide⟩ rfl ?_
  refine n_put C N d_Mo_init_81 fn_Mo_37 rfl rfl (Nat.le_of_ble_eq_true rfl) ?_
  refine n_nf (.inr (0, [.ref (z + 0), .ref (z + 1), .ref (z + 2), .ref (z + 3), .ref (z + 4), .ref (z + 5), .ref (z + 6), .ref (z + 7), .ref (z + 8), .ref (z + 9), .null, .null, .null, .null, .null, .null, .null, .null, .null, .null, .null, .null, .null, .null, .null, .int 0, .int 0, .int 0, .int 0, .int 0, .int 0, .int 0, .int 0])) [.inl (G.2.1 0, 32, .inl (fun _ => 0)), .inl (G.2.1 0, 32, .inl (fun _ => 0)), .inl (G.2.1 0, 32, .inl (fun _ => 0)), .inl (G.2.1 0, 32, .inl (fun _ => 0)), .inl (G.2.1 0, 6, .inl (fun _ => 0)), .inl (G.2.1 0, 6, .inl (fun _ => 0)), .inl (G.2.1 0, 6, .inl (fun _ => 0)), .inl (G.2.1 0, 6, .inl (fun _ => 0)), .inl (G.2.1 0, 6, .inl (fun _ => 0)), .inl (G.2.1 0, 6, .inl (fun _ => 0))] rfl rfl ?_
  refine n_ct (m1 := 10) (m2 := 164) rfl rfl ?_
  refine n_aload_n C d_Mo_init_84 rfl ?_
  refine n_bipush C d_Mo_init_85 (v := 6) (by decide) ?_
  refine n_newa C N (ty := .int) (t0 := 0) (n := 6) (j := 10) d_Mo_init_87 rfl rfl (kt1 37 rfl rfl) rfl ra_int (by decide) (by decide) (by decide) ⟨by decide, by decide⟩ rfl ?_
  refine n_put C N d_Mo_init_89 fn_Mo_40 rfl rfl (Nat.le_of_ble_eq_true rfl) ?_
  refine n_nf (.inr (0, [.ref (z + 0), .ref (z + 1), .ref (z + 2), .ref (z + 3), .ref (z + 4), .ref (z + 5), .ref (z + 6), .ref (z + 7), .ref (z + 8), .ref (z + 9), .ref (z + 10), .null, .null, .null, .null, .null, .null, .null, .null, .null, .null, .null, .null, .null, .null, .int 0, .int 0, .int 0, .int 0, .int 0, .int 0, .int 0, .int 0])) [.inl (G.2.1 0, 32, .inl (fun _ => 0)), .inl (G.2.1 0, 32, .inl (fun _ => 0)), .inl (G.2.1 0, 32, .inl (fun _ => 0)), .inl (G.2.1 0, 32, .inl (fun _ => 0)), .inl (G.2.1 0, 6, .inl (fun _ => 0)), .inl (G.2.1 0, 6, .inl (fun _ => 0)), .inl (G.2.1 0, 6, .inl (fun _ => 0)), .inl (G.2.1 0, 6, .inl (fun _ => 0)), .inl (G.2.1 0, 6, .inl (fun _ => 0)), .inl (G.2.1 0, 6, .inl (fun _ => 0)), .inl (G.2.1 0, 6, .inl (fun _ => 0))] rfl rfl ?_
  refine n_ct (m1 := 11) (m2 := 170) rfl rfl ?_
  refine n_aload_n C d_Mo_init_92 rfl ?_
  refine n_bipush C d_Mo_init_93 (v := 6) (by decide) ?_
  refine n_newa C N (ty := .int) (t0 := 0) (n := 6) (j := 11) d_Mo_init_95 rfl rfl (kt1 37 rfl rfl) rfl ra_int (by decide) (by decide) (by decide) ⟨by decide, by decide⟩ rfl ?_
  refine n_put C N d_Mo_init_97 fn_Mo_43 rfl rfl (Nat.le_of_ble_eq_true rfl) ?_
  refine n_nf (.inr (0, [.ref (z + 0), .ref (z + 1), .ref (z + 2), .ref (z + 3), .ref (z + 4), .ref (z + 5), .ref (z + 6), .ref (z + 7), .ref (z + 8), .ref (z + 9), .ref (z + 10), .ref (z + 11), .null, .null, .null, .null, .null, .null, .null, .null, .null, .null, .null, .null, .null, .int 0, .int 0, .int 0, .int 0, .int 0, .int 0, .int 0, .int 0])) [.inl (G.2.1 0, 32, .inl (fun _ => 0)), .inl (G.2.1 0, 32, .inl (fun _ => 0)), .inl (G.2.1 0, 32, .inl (fun _ => 0)), .inl (G.2.1 0, 32, .inl (fun _ => 0)), .inl (G.2.1 0, 6, .inl (fun _ => 0)), .inl (G.2.1 0, 6, .inl (fun _ => 0)), .inl (G.2.1 0, 6, .inl (fun _ => 0)), .inl (G.2.1 0, 6, .inl (fun _ => 0)), .inl (G.2.1 0, 6, .inl (fun _ => 0)), .inl (G.2.1 0, 6, .inl (fun _ => 0)), .inl (G.2.1 0, 6, .inl (fun _ => 0)), .inl (G.2.1 0, 6, .inl (fun _ => 0))] rfl rfl ?_
  refine n_ct (m1 := 12) (m2 := 176) rfl rfl ?_
  refine n_aload_n C d_Mo_init_100 rfl ?_
  refine n_bipush C d_Mo_init_101 (v := 6) (by decide) ?_
  refine n_newa C N (ty := .int) (t0 := 0) (n := 6) (j := 12) d_Mo_init_103 rfl rfl (kt1 37 rfl rfl) rfl ra_int (by decide) (by decide) (by decide) ⟨by decide, by decide⟩ rfl ?_
  refine n_put C N d_Mo_init_105 fn_Mo_46 rfl rfl (Nat.le_of_ble_eq_true rfl) ?_
  refine n_nf (.inr (0, [.ref (z + 0), .ref (z + 1), .ref (z + 2), .ref (z + 3), .ref (z + 4), .ref (z + 5), .ref (z + 6), .ref (z + 7), .ref (z + 8), .ref (z + 9), .ref (z + 10), .ref (z + 11), .ref (z + 12), .null, .null, .null, .null, .null, .null, .null, .null, .null, .null, .null, .null, .int 0, .int 0, .int 0, .int 0, .int 0, .int 0, .int 0, .int 0])) [.inl (G.2.1 0, 32, .inl (fun _ => 0)), .inl (G.2.1 0, 32, .inl (fun _ => 0)), .inl (G.2.1 0, 32, .inl (fun _ => 0)), .inl (G.2.1 0, 32, .inl (fun _ => 0)), .inl (G.2.1 0, 6, .inl (fun _ => 0)), .inl (G.2.1 0, 6, .inl (fun _ => 0)), .inl (G.2.1 0, 6, .inl (fun _ => 0)), .inl (G.2.1 0, 6, .inl (fun _ => 0)), .inl (G.2.1 0, 6, .inl (fun _ => 0)), .inl (G.2.1 0, 6, .inl (fun _ => 0)), .inl (G.2.1 0, 6, .inl (fun _ => 0)), .inl (G.2.1 0, 6, .inl (fun _ => 0)), .inl (G.2.1 0, 6, .inl (fun _ => 0))] rfl rfl ?_
  refine n_ct (m1 := 13) (m2 := 182) rfl rfl ?_
  refine n_aload_n C d_Mo_init_108 rfl ?_
  refine n_bipush C d_Mo_init_109 (v := 6) (by decide) ?_
  refine n_newa C N (ty := .int) (t0 := 0) (n := 6) (j := 13) d_Mo_init_111 rfl rfl (kt1 37 rfl rfl) rfl ra_int (by decide) (by decide) (by decide) ⟨by decide, by decide⟩ rfl ?_
  refine n_put C N d_Mo_init_113 fn_Mo_49 rfl rfl (Nat.le_of_ble_eq_true rfl) ?_
  refine n_nf (.inr (0, [.ref (z + 0), .ref (z + 1), .ref (z + 2), .ref (z + 3), .ref (z + 4), .ref (z + 5), .ref (z + 6), .ref (z + 7), .ref (z + 8), .ref (z + 9), .ref (z + 10), .ref (z + 11), .ref (z + 12), .ref (z + 13), .null, .null, .null, .null, .null, .null, .null, .null, .null, .null, .null, .int 0, .int 0, .int 0, .int 0, .int 0, .int 0, .int 0, .int 0])) [.inl (G.2.1 0, 32, .inl (fun _ => 0)), .inl (G.2.1 0, 32, .inl (fun _ => 0)), .inl (G.2.1 0, 32, .inl (fun _ => 0)), .inl (G.2.1 0, 32, .inl (fun _ => 0)), .inl (G.2.1 0, 6, .inl (fun _ => 0)), .inl (G.2.1 0, 6, .inl (fun _ => 0)), .inl (G.2.1 0, 6, .inl (fun _ => 0)), .inl (G.2.1 0, 6, .inl (fun _ => 0)), .inl (G.2.1 0, 6, .inl (fun _ => 0)), .inl (G.2.1 0, 6, .inl (fun _ => 0)), .inl (G.2.1 0, 6, .inl (fun _ => 0)), .inl (G.2.1 0, 6, .inl (fun _ => 0)), .inl (G.2.1 0, 6, .inl (fun _ => 0)), .inl (G.2.1 0, 6, .inl (fun _ => 0))] rfl rfl ?_
  refine n_ct (m1 := 14) (m2 := 188) rfl rfl ?_
  refine n_aload_n C d_Mo_init_116 rfl ?_
  refine n_bipush C d_Mo_init_117 (v := 24) (by decide) ?_
  refine n_newa C N (ty := .int) (t0 := 0) (n := 24) (j := 14) d_Mo_init_119 rfl rfl (kt1 37 rfl rfl) rfl ra_int (by decide) (by decide) (by decide) ⟨by decide, by decide⟩ rfl ?_
  refine n_put C N d_Mo_init_121 fn_Mo_52 rfl rfl (Nat.le_of_ble_eq_true rfl) ?_
  refine n_nf (.inr (0, [.ref (z + 0), .ref (z + 1), .ref (z + 2), .ref (z + 3), .ref (z + 4), .ref (z + 5), .ref (z + 6), .ref (z + 7), .ref (z + 8), .ref (z + 9), .ref (z + 10), .ref (z + 11), .ref (z + 12), .ref (z + 13), .ref (z + 14), .null, .null, .null, .null, .null, .null, .null, .null, .null, .null, .int 0, .int 0, .int 0, .int 0, .int 0, .int 0, .int 0, .int 0])) [.inl (G.2.1 0, 32, .inl (fun _ => 0)), .inl (G.2.1 0, 32, .inl (fun _ => 0)), .inl (G.2.1 0, 32, .inl (fun _ => 0)), .inl (G.2.1 0, 32, .inl (fun _ => 0)), .inl (G.2.1 0, 6, .inl (fun _ => 0)), .inl (G.2.1 0, 6, .inl (fun _ => 0)), .inl (G.2.1 0, 6, .inl (fun _ => 0)), .inl (G.2.1 0, 6, .inl (fun _ => 0)), .inl (G.2.1 0, 6, .inl (fun _ => 0)), .inl (G.2.1 0, 6, .inl (fun _ => 0)), .inl (G.2.1 0, 6, .inl (fun _ => 0)), .inl (G.2.1 0, 6, .inl (fun _ => 0)), .inl (G.2.1 0, 6, .inl (fun _ => 0)), .inl (G.2.1 0, 6, .inl (fun _ => 0)), .inl (G.2.1 0, 24, .inl (fun _ => 0))] rfl rfl ?_
  refine n_ct (m1 := 15) (m2 := 212) rfl rfl ?_
  refine n_aload_n C d_Mo_init_124 rfl ?_
  refine n_bipush C d_Mo_init_125 (v := 24) (by decide) ?_
  refine n_newa C N (ty := .int) (t0 := 0) (n := 24) (j := 15) d_Mo_init_127 rfl rfl (kt1 37 rfl rfl) rfl ra_int (by decide) (by decide) (by decide) ⟨by decide, by decide⟩ rfl ?_
  refine n_put C N d_Mo_init_129 fn_Mo_55 rfl rfl (Nat.le_of_ble_eq_true rfl) ?_
  refine n_nf (.inr (0, [.ref (z + 0), .ref (z + 1), .ref (z + 2), .ref (z + 3), .ref (z + 4), .ref (z + 5), .ref (z + 6), .ref (z + 7), .ref (z + 8), .ref (z + 9), .ref (z + 10), .ref (z + 11), .ref (z + 12), .ref (z + 13), .ref (z + 14), .ref (z + 15), .null, .null, .null, .null, .null, .null, .null, .null, .null, .int 0, .int 0, .int 0, .int 0, .int 0, .int 0, .int 0, .int 0])) [.inl (G.2.1 0, 32, .inl (fun _ => 0)), .inl (G.2.1 0, 32, .inl (fun _ => 0)), .inl (G.2.1 0, 32, .inl (fun _ => 0)), .inl (G.2.1 0, 32, .inl (fun _ => 0)), .inl (G.2.1 0, 6, .inl (fun _ => 0)), .inl (G.2.1 0, 6, .inl (fun _ => 0)), .inl (G.2.1 0, 6, .inl (fun _ => 0)), .inl (G.2.1 0, 6, .inl (fun _ => 0)), .inl (G.2.1 0, 6, .inl (fun _ => 0)), .inl (G.2.1 0, 6, .inl (fun _ => 0)), .inl (G.2.1 0, 6, .inl (fun _ => 0)), .inl (G.2.1 0, 6, .inl (fun _ => 0)), .inl (G.2.1 0, 6, .inl (fun _ => 0)), .inl (G.2.1 0, 6, .inl (fun _ => 0)), .inl (G.2.1 0, 24, .inl (fun _ => 0)), .inl (G.2.1 0, 24, .inl (fun _ => 0))] rfl rfl ?_
  refine n_ct (m1 := 16) (m2 := 236) rfl rfl ?_
  refine n_aload_n C d_Mo_init_132 rfl ?_
  refine n_bipush C d_Mo_init_133 (v := 96) (by decide) ?_
  refine n_newa C N (ty := .int) (t0 := 0) (n := 96) (j := 16) d_Mo_init_135 rfl rfl (kt1 37 rfl rfl) rfl ra_int (by decide) (by decide) (by decide) ⟨by decide, by decide⟩ rfl ?_
  refine n_put C N d_Mo_init_137 fn_Mo_58 rfl rfl (Nat.le_of_ble_eq_true rfl) ?_
  refine n_nf (.inr (0, [.ref (z + 0), .ref (z + 1), .ref (z + 2), .ref (z + 3), .ref (z + 4), .ref (z + 5), .ref (z + 6), .ref (z + 7), .ref (z + 8), .ref (z + 9), .ref (z + 10), .ref (z + 11), .ref (z + 12), .ref (z + 13), .ref (z + 14), .ref (z + 15), .ref (z + 16), .null, .null, .null, .null, .null, .null, .null, .null, .int 0, .int 0, .int 0, .int 0, .int 0, .int 0, .int 0, .int 0])) [.inl (G.2.1 0, 32, .inl (fun _ => 0)), .inl (G.2.1 0, 32, .inl (fun _ => 0)), .inl (G.2.1 0, 32, .inl (fun _ => 0)), .inl (G.2.1 0, 32, .inl (fun _ => 0)), .inl (G.2.1 0, 6, .inl (fun _ => 0)), .inl (G.2.1 0, 6, .inl (fun _ => 0)), .inl (G.2.1 0, 6, .inl (fun _ => 0)), .inl (G.2.1 0, 6, .inl (fun _ => 0)), .inl (G.2.1 0, 6, .inl (fun _ => 0)), .inl (G.2.1 0, 6, .inl (fun _ => 0)), .inl (G.2.1 0, 6, .inl (fun _ => 0)), .inl (G.2.1 0, 6, .inl (fun _ => 0)), .inl (G.2.1 0, 6, .inl (fun _ => 0)), .inl (G.2.1 0, 6, .inl (fun _ => 0)), .inl (G.2.1 0, 24, .inl (fun _ => 0)), .inl (G.2.1 0, 24, .inl (fun _ => 0)), .inl (G.2.1 0, 96, .inl (fun _ => 0))] rfl rfl ?_
  refine n_ct (m1 := 17) (m2 := 332) rfl rfl ?_
  refine n_aload_n C d_Mo_init_140 rfl ?_
  refine n_bipush C d_Mo_init_141 (v := 12) (by decide) ?_
  refine n_newa C N (ty := .boolean) (t0 := 1) (n := 12) (j := 17) d_Mo_init_143 rfl rfl (kt1 55 rfl rfl) rfl ra_bool (by decide) (by decide) (by decide) ⟨by decide, by decide⟩ rfl ?_
  refine n_put C N d_Mo_init_145 fn_Mo_61 rfl rfl (Nat.le_of_ble_eq_true rfl) ?_
  refine n_nf (.inr (0, [.ref (z + 0), .ref (z + 1), .ref (z + 2), .ref (z + 3), .ref (z + 4), .ref (z + 5), .ref (z + 6), .ref (z + 7), .ref (z + 8), .ref (z + 9), .ref (z + 10), .ref (z + 11), .ref (z + 12), .ref (z + 13), .ref (z + 14), .ref (z + 15), .ref (z + 16), .ref (z + 17), .null, .null, .null, .null, .null, .null, .null, .int 0, .int 0, .int 0, .int 0, .int 0, .int 0, .int 0, .int 0])) [.inl (G.2.1 0, 32, .inl (fun _ => 0)), .inl (G.2.1 0, 32, .inl (fun _ => 0)), .inl (G.2.1 0, 32, .inl (fun _ => 0)), .inl (G.2.1 0, 32, .inl (fun _ => 0)), .inl (G.2.1 0, 6, .inl (fun _ => 0)), .inl (G.2.1 0, 6, .inl (fun _ => 0)), .inl (G.2.1 0, 6, .inl (fun _ => 0)), .inl (G.2.1 0, 6, .inl (fun _ => 0)), .inl (G.2.1 0, 6, .inl (fun _ => 0)), .inl (G.2.1 0, 6, .inl (fun _ => 0)), .inl (G.2.1 0, 6, .inl (fun _ => 0)), .inl (G.2.1 0, 6, .inl (fun _ => 0)), .inl (G.2.1 0, 6, .inl (fun _ => 0)), .inl (G.2.1 0, 6, .inl (fun _ => 0)), .inl (G.2.1 0, 24, .inl (fun _ => 0)), .inl (G.2.1 0, 24, .inl (fun _ => 0)), .inl (G.2.1 0, 96, .inl (fun _ => 0)), .inl (G.2.1 1, 12, .inl (fun _ => 0))] rfl rfl ?_
  refine n_ct (m1 := 18) (m2 := 344) rfl rfl ?_
  refine n_aload_n C d_Mo_init_148 rfl ?_
  refine n_bipush C d_Mo_init_149 (v := 84) (by decide) ?_
  refine n_newa C N (ty := .int) (t0 := 0) (n := 84) (j := 18) d_Mo_init_151 rfl rfl (kt1 37 rfl rfl) rfl ra_int (by decide) (by decide) (by decide) ⟨by decide, by decide⟩ rfl ?_
  refine n_put C N d_Mo_init_153 fn_Mo_65 rfl rfl (Nat.le_of_ble_eq_true rfl) ?_
  refine n_nf (.inr (0, [.ref (z + 0), .ref (z + 1), .ref (z + 2), .ref (z + 3), .ref (z + 4), .ref (z + 5), .ref (z + 6), .ref (z + 7), .ref (z + 8), .ref (z + 9), .ref (z + 10), .ref (z + 11), .ref (z + 12), .ref (z + 13), .ref (z + 14), .ref (z + 15), .ref (z + 16), .ref (z + 17), .ref (z + 18), .null, .null, .null, .null, .null, .null, .int 0, .int 0, .int 0, .int 0, .int 0, .int 0, .int 0, .int 0])) [.inl (G.2.1 0, 32, .inl (fun _ => 0)), .inl (G.2.1 0, 32, .inl (fun _ => 0)), .inl (G.2.1 0, 32, .inl (fun _ => 0)), .inl (G.2.1 0, 32, .inl (fun _ => 0)), .inl (G.2.1 0, 6, .inl (fun _ => 0)), .inl (G.2.1 0, 6, .inl (fun _ => 0)), .inl (G.2.1 0, 6, .inl (fun _ => 0)), .inl (G.2.1 0, 6, .inl (fun _ => 0)), .inl (G.2.1 0, 6, .inl (fun _ => 0)), .inl (G.2.1 0, 6, .inl (fun _ => 0)), .inl (G.2.1 0, 6, .inl (fun _ => 0)), .inl (G.2.1 0, 6, .inl (fun _ => 0)), .inl (G.2.1 0, 6, .inl (fun _ => 0)), .inl (G.2.1 0, 6, .inl (fun _ => 0)), .inl (G.2.1 0, 24, .inl (fun _ => 0)), .inl (G.2.1 0, 24, .inl (fun _ => 0)), .inl (G.2.1 0, 96, .inl (fun _ => 0)), .inl (G.2.1 1, 12, .inl (fun _ => 0)), .inl (G.2.1 0, 84, .inl (fun _ => 0))] rfl rfl ?_
  refine n_ct (m1 := 19) (m2 := 428) rfl rfl ?_
  refine n_aload_n C d_Mo_init_156 rfl ?_
  refine n_bipush C d_Mo_init_157 (v := 14) (by decide) ?_
  refine n_newa C N (ty := .int) (t0 := 0) (n := 14) (j := 19) d_Mo_init_159 rfl rfl (kt1 37 rfl rfl) rfl ra_int (by decide) (by decide) (by decide) ⟨by decide, by decide⟩ rfl ?_
  refine n_put C N d_Mo_init_161 fn_Mo_68 rfl rfl (Nat.le_of_ble_eq_true rfl) ?_
  refine n_nf (.inr (0, [.ref (z + 0), .ref (z + 1), .ref (z + 2), .ref (z + 3), .ref (z + 4), .ref (z + 5), .ref (z + 6), .ref (z + 7), .ref (z + 8), .ref (z + 9), .ref (z + 10), .ref (z + 11), .ref (z + 12), .ref (z + 13), .ref (z + 14), .ref (z + 15), .ref (z + 16), .ref (z + 17), .ref (z + 18), .ref (z + 19), .null, .null, .null, .null, .null, .int 0, .int 0, .int 0, .int 0, .int 0, .int 0, .int 0, .int 0])) [.inl (G.2.1 0, 32, .inl (fun _ => 0)), .inl (G.2.1 0, 32, .inl (fun _ => 0)), .inl (G.2.1 0, 32, .inl (fun _ => 0)), .inl (G.2.1 0, 32, .inl (fun _ => 0)), .inl (G.2.1 0, 6, .inl (fun _ => 0)), .inl (G.2.1 0, 6, .inl (fun _ => 0)), .inl (G.2.1 0, 6, .inl (fun _ => 0)), .inl (G.2.1 0, 6, .inl (fun _ => 0)), .inl (G.2.1 0, 6, .inl (fun _ => 0)), .inl (G.2.1 0, 6, .inl (fun _ => 0)), .inl (G.2.1 0, 6, .inl (fun _ => 0)), .inl (G.2.1 0, 6, .inl (fun _ => 0)), .inl (G.2.1 0, 6, .inl (fun _ => 0)), .inl (G.2.1 0, 6, .inl (fun _ => 0)), .inl (G.2.1 0, 24, .inl (fun _ => 0)), .inl (G.2.1 0, 24, .inl (fun _ => 0)), .inl (G.2.1 0, 96, .inl (fun _ => 0)), .inl (G.2.1 1, 12, .inl (fun _ => 0)), .inl (G.2.1 0, 84, .inl (fun _ => 0)), .inl (G.2.1 0, 14, .inl (fun _ => 0))] rfl rfl ?_
  refine n_ct (m1 := 20) (m2 := 442) rfl rfl ?_
  refine n_aload_n C d_Mo_init_164 rfl ?_
  refine n_bipush C d_Mo_init_165 (v := 8) (by decide) ?_
  refine n_newa C N (ty := .int) (t0 := 0) (n := 8) (j := 20) d_Mo_init_167 rfl rfl (kt1 37 rfl rfl) rfl ra_int (by decide) (by decide) (by decide) ⟨by decide, by decide⟩ rfl ?_
  refine n_put C N d_Mo_init_169 fn_Mo_71 rfl rfl (Nat.le_of_ble_eq_true rfl) ?_
  refine n_nf (.inr (0, [.ref (z + 0), .ref (z + 1), .ref (z + 2), .ref (z + 3), .ref (z + 4), .ref (z + 5), .ref (z + 6), .ref (z + 7), .ref (z + 8), .ref (z + 9), .ref (z + 10), .ref (z + 11), .ref (z + 12), .ref (z + 13), .ref (z + 14), .ref (z + 15), .ref (z + 16), .ref (z + 17), .ref (z + 18), .ref (z + 19), .ref (z + 20), .null, .null, .null, .null, .int 0, .int 0, .int 0, .int 0, .int 0, .int 0, .int 0, .int 0])) [.inl (G.2.1 0, 32, .inl (fun _ => 0)), .inl (G.2.1 0, 32, .inl (fun _ => 0)), .inl (G.2.1 0, 32, .inl (fun _ => 0)), .inl (G.2.1 0, 32, .inl (fun _ => 0)), .inl (G.2.1 0, 6, .inl (fun _ => 0)), .inl (G.2.1 0, 6, .inl (fun _ => 0)), .inl (G.2.1 0, 6, .inl (fun _ => 0)), .inl (G.2.1 0, 6, .inl (fun _ => 0)), .inl (G.2.1 0, 6, .inl (fun _ => 0)), .inl (G.2.1 0, 6, .inl (fun _ => 0)), .inl (G.2.1 0, 6, .inl (fun _ => 0)), .inl (G.2.1 0, 6, .inl (fun _ => 0)), .inl (G.2.1 0, 6, .inl (fun _ => 0)), .inl (G.2.1 0, 6, .inl (fun _ => 0)), .inl (G.2.1 0, 24, .inl (fun _ => 0)), .inl (G.2.1 0, 24, .inl (fun _ => 0)), .inl (G.2.1 0, 96, .inl (fun _ => 0)), .inl (G.2.1 1, 12, .inl (fun _ => 0)), .inl (G.2.1 0, 84, .inl (fun _ => 0)), .inl (G.2.1 0, 14, .inl (fun _ => 0)), .inl (G.2.1 0, 8, .inl (fun _ => 0))] rfl rfl ?_
  refine n_ct (m1 := 21) (m2 := 450) rfl rfl ?_
  refine n_aload_n C d_Mo_init_172 rfl ?_
  refine n_iconst C d_Mo_init_173 (v := 4) (by decide) ?_
  refine n_newa C N (ty := .int) (t0 := 0) (n := 4) (j := 21) d_Mo_init_174 rfl rfl (kt1 37 rfl rfl) rfl ra_int (by decide) (by decide) (by decide) ⟨by decide, by decide⟩ rfl ?_
  refine n_put C N d_Mo_init_176 fn_Mo_74 rfl rfl (Nat.le_of_ble_eq_true rfl) ?_
  refine n_nf (.inr (0, [.ref (z + 0), .ref (z + 1), .ref (z + 2), .ref (z + 3), .ref (z + 4), .ref (z + 5), .ref (z + 6), .ref (z + 7), .ref (z + 8), .ref (z + 9), .ref (z + 10), .ref (z + 11), .ref (z + 12), .ref (z + 13), .ref (z + 14), .ref (z + 15), .ref (z + 16), .ref (z + 17), .ref (z + 18), .ref (z + 19), .ref (z + 20), .ref (z + 21), .null, .null, .null, .int 0, .int 0, .int 0, .int 0, .int 0, .int 0, .int 0, .int 0])) [.inl (G.2.1 0, 32, .inl (fun _ => 0)), .inl (G.2.1 0, 32, .inl (fun _ => 0)), .inl (G.2.1 0, 32, .inl (fun _ => 0)), .inl (G.2.1 0, 32, .inl (fun _ => 0)), .inl (G.2.1 0, 6, .inl (fun _ => 0)), .inl (G.2.1 0, 6, .inl (fun _ => 0)), .inl (G.2.1 0, 6, .inl (fun _ => 0)), .inl (G.2.1 0, 6, .inl (fun _ => 0)), .inl (G.2.1 0, 6, .inl (fun _ => 0)), .inl (G.2.1 0, 6, .inl (fun _ => 0)), .inl (G.2.1 0, 6, .inl (fun _ => 0)), .inl (G.2.1 0, 6, .inl (fun _ => 0)), .inl (G.2.1 0, 6, .inl (fun _ => 0)), .inl (G.2.1 0, 6, .inl (fun _ => 0)), .inl (G.2.1 0, 24, .inl (fun _ => 0)), .inl (G.2.1 0, 24, .inl (fun _ => 0)), .inl (G.2.1 0, 96, .inl (fun _ => 0)), .inl (G.2.1 1, 12, .inl (fun _ => 0)), .inl (G.2.1 0, 84, .inl (fun _ => 0)), .inl (G.2.1 0, 14, .inl (fun _ => 0)), .inl (G.2.1 0, 8, .inl (fun _ => 0)), .inl (G.2.1 0, 4, .inl (fun _ => 0))] rfl rfl ?_
  refine n_ct (m1 := 22) (m2 := 454) rfl rfl ?_
  refine n_aload_n C d_Mo_init_179 rfl ?_
  refine n_iconst C d_Mo_init_180 (v := 4) (by decide) ?_
  refine n_newa C N (ty := .int) (t0 := 0) (n := 4) (j := 22) d_Mo_init_181 rfl rfl (kt1 37 rfl rfl) rfl ra_int (by decide) (by decide) (by decide) ⟨by decide, by decide⟩ rfl ?_
  refine n_put C N d_Mo_init_183 fn_Mo_77 rfl rfl (Nat.le_of_ble_eq_true rfl) ?_
  refine n_nf (.inr (0, [.ref (z + 0), .ref (z + 1), .ref (z + 2), .ref (z + 3), .ref (z + 4), .ref (z + 5), .ref (z + 6), .ref (z + 7), .ref (z + 8), .ref (z + 9), .ref (z + 10), .ref (z + 11), .ref (z + 12), .ref (z + 13), .ref (z + 14), .ref (z + 15), .ref (z + 16), .ref (z + 17), .ref (z + 18), .ref (z + 19), .ref (z + 20), .ref (z + 21), .ref (z + 22), .null, .null, .int 0, .int 0, .int 0, .int 0, .int 0, .int 0, .int 0, .int 0])) [.inl (G.2.1 0, 32, .inl (fun _ => 0)), .inl (G.2.1 0, 32, .inl (fun _ => 0)), .inl (G.2.1 0, 32, .inl (fun _ => 0)), .inl (G.2.1 0, 32, .inl (fun _ => 0)), .inl (G.2.1 0, 6, .inl (fun _ => 0)), .inl (G.2.1 0, 6, .inl (fun _ => 0)), .inl (G.2.1 0, 6, .inl (fun _ => 0)), .inl (G.2.1 0, 6, .inl (fun _ => 0)), .inl (G.2.1 0, 6, .inl (fun _ => 0)), .inl (G.2.1 0, 6, .inl (fun _ => 0)), .inl (G.2.1 0, 6, .inl (fun _ => 0)), .inl (G.2.1 0, 6, .inl (fun _ => 0)), .inl (G.2.1 0, 6, .inl (fun _ => 0)), .inl (G.2.1 0, 6, .inl (fun _ => 0)), .inl (G.2.1 0, 24, .inl (fun _ => 0)), .inl (G.2.1 0, 24, .inl (fun _ => 0)), .inl (G.2.1 0, 96, .inl (fun _ => 0)), .inl (G.2.1 1, 12, .inl (fun _ => 0)), .inl (G.2.1 0, 84, .inl (fun _ => 0)), .inl (G.2.1 0, 14, .inl (fun _ => 0)), .inl (G.2.1 0, 8, .inl (fun _ => 0)), .inl (G.2.1 0, 4, .inl (fun _ => 0)), .inl (G.2.1 0, 4, .inl (fun _ => 0))] rfl rfl ?_
  refine n_ct (m1 := 23) (m2 := 458) rfl rfl ?_
  refine n_aload_n C d_Mo_init_186 rfl ?_
  refine n_iconst C d_Mo_init_187 (v := 2) (by decide) ?_
  refine n_newa C N (ty := .int) (t0 := 0) (n := 2) (j := 23) d_Mo_init_188 rfl rfl (kt1 37 rfl rfl) rfl ra_int (by decide) (by decide) (by decide) ⟨by decide, by decide⟩ rfl ?_
  refine n_put C N d_Mo_init_190 fn_Mo_80 rfl rfl (Nat.le_of_ble_eq_true rfl) ?_
  refine n_nf (.inr (0, [.ref (z + 0), .ref (z + 1), .ref (z + 2), .ref (z + 3), .ref (z + 4), .ref (z + 5), .ref (z + 6), .ref (z + 7), .ref (z + 8), .ref (z + 9), .ref (z + 10), .ref (z + 11), .ref (z + 12), .ref (z + 13), .ref (z + 14), .ref (z + 15), .ref (z + 16), .ref (z + 17), .ref (z + 18), .ref (z + 19), .ref (z + 20), .ref (z + 21), .ref (z + 22), .ref (z + 23), .null, .int 0, .int 0, .int 0, .int 0, .int 0, .int 0, .int 0, .int 0])) [.inl (G.2.1 0, 32, .inl (fun _ => 0)), .inl (G.2.1 0, 32, .inl (fun _ => 0)), .inl (G.2.1 0, 32, .inl (fun _ => 0)), .inl (G.2.1 0, 32, .inl (fun _ => 0)), .inl (G.2.1 0, 6, .inl (fun _ => 0)), .inl (G.2.1 0, 6, .inl (fun _ => 0)), .inl (G.2.1 0, 6, .inl (fun _ => 0)), .inl (G.2.1 0, 6, .inl (fun _ => 0)), .inl (G.2.1 0, 6, .inl (fun _ => 0)), .inl (G.2.1 0, 6, .inl (fun _ => 0)), .inl (G.2.1 0, 6, .inl (fun _ => 0)), .inl (G.2.1 0, 6, .inl (fun _ => 0)), .inl (G.2.1 0, 6, .inl (fun _ => 0)), .inl (G.2.1 0, 6, .inl (fun _ => 0)), .inl (G.2.1 0, 24, .inl (fun _ => 0)), .inl (G.2.1 0, 24, .inl (fun _ => 0)), .inl (G.2.1 0, 96, .inl (fun _ => 0)), .inl (G.2.1 1, 12, .inl (fun _ => 0)), .inl (G.2.1 0, 84, .inl (fun _ => 0)), .inl (G.2.1 0, 14, .inl (fun _ => 0)), .inl (G.2.1 0, 8, .inl (fun _ => 0)), .inl (G.2.1 0, 4, .inl (fun _ => 0)), .inl (G.2.1 0, 4, .inl (fun _ => 0)), .inl (G.2.1 0, 2, .inl (fun _ => 0))] rfl rfl ?_
  refine n_ct (m1 := 24) (m2 := 460) rfl rfl ?_
  refine n_aload_n C d_Mo_init_193 rfl ?_
  refine n_iconst C d_Mo_init_194 (v := 2) (by decide) ?_
  refine n_newa C N (ty := .int) (t0 := 0) (n := 2) (j := 24) d_Mo_init_195 rfl rfl (kt1 37 rfl rfl) rfl ra_int (by decide) (by decide) (by decide) ⟨by decide, by decide⟩ rfl ?_
  refine n_put C N d_Mo_init_197 fn_Mo_83 rfl rfl (Nat.le_of_ble_eq_true rfl) ?_
  refine n_nf (.inr (0, [.ref (z + 0), .ref (z + 1), .ref (z + 2), .ref (z + 3), .ref (z + 4), .ref (z + 5), .ref (z + 6), .ref (z + 7), .ref (z + 8), .ref (z + 9), .ref (z + 10), .ref (z + 11), .ref (z + 12), .ref (z + 13), .ref (z + 14), .ref (z + 15), .ref (z + 16), .ref (z + 17), .ref (z + 18), .ref (z + 19), .ref (z + 20), .ref (z + 21), .ref (z + 22), .ref (z + 23), .ref (z + 24), .int 0, .int 0, .int 0, .int 0, .int 0, .int 0, .int 0, .int 0])) [.inl (G.2.1 0, 32, .inl (fun _ => 0)), .inl (G.2.1 0, 32, .inl (fun _ => 0)), .inl (G.2.1 0, 32, .inl (fun _ => 0)), .inl (G.2.1 0, 32, .inl (fun _ => 0)), .inl (G.2.1 0, 6, .inl (fun _ => 0)), .inl (G.2.1 0, 6, .inl (fun _ => 0)), .inl (G.2.1 0, 6, .inl (fun _ => 0)), .inl (G.2.1 0, 6, .inl (fun _ => 0)), .inl (G.2.1 0, 6, .inl (fun _ => 0)), .inl (G.2.1 0, 6, .inl (fun _ => 0)), .inl (G.2.1 0, 6, .inl (fun _ => 0)), .inl (G.2.1 0, 6, .inl (fun _ => 0)), .inl (G.2.1 0, 6, .inl (fun _ => 0)), .inl (G.2.1 0, 6, .inl (fun _ => 0)), .inl (G.2.1 0, 24, .inl (fun _ => 0)), .inl (G.2.1 0, 24, .inl (fun _ => 0)), .inl (G.2.1 0, 96, .inl (fun _ => 0)), .inl (G.2.1 1, 12, .inl (fun _ => 0)), .inl (G.2.1 0, 84, .inl (fun _ => 0)), .inl (G.2.1 0, 14, .inl (fun _ => 0)), .inl (G.2.1 0, 8, .inl (fun _ => 0)), .inl (G.2.1 0, 4, .inl (fun _ => 0)), .inl (G.2.1 0, 4, .inl (fun _ => 0)), .inl (G.2.1 0, 2, .inl (fun _ => 0)), .inl (G.2.1 0, 2, .inl (fun _ => 0))] rfl rfl ?_
  refine n_ct (m1 := 25) (m2 := 462) rfl rfl ?_
  refine n_nf (.inr (0, [.ref (z + 0), .ref (z + 1), .ref (z + 2), .ref (z + 3), .ref (z + 4), .ref (z + 5), .ref (z + 6), .ref (z + 7), .ref (z + 8), .ref (z + 9), .ref (z + 10), .ref (z + 11), .ref (z + 12), .ref (z + 13), .ref (z + 14), .ref (z + 15), .ref (z + 16), .ref (z + 17), .ref (z + 18), .ref (z + 19), .ref (z + 20), .ref (z + 21), .ref (z + 22), .ref (z + 23), .ref (z + 24), .int 0, .int 0, .int 0, .int 0, .int 0, .int 0, .int 0, .int 0])) [.inl (G.2.1 0, 32, .inl (fun _ => 0)), .inl (G.2.1 0, 32, .inl (fun _ => 0)), .inl (G.2.1 0, 32, .inl (fun _ => 0)), .inl (G.2.1 0, 32, .inl (fun _ => 0)), .inl (G.2.1 0, 6, .inl (fun _ => 0)), .inl (G.2.1 0, 6, .inl (fun _ => 0)), .inl (G.2.1 0, 6, .inl (fun _ => 0)), .inl (G.2.1 0, 6, .inl (fun _ => 0)), .inl (G.2.1 0, 6, .inl (fun _ => 0)), .inl (G.2.1 0, 6, .inl (fun _ => 0)), .inl (G.2.1 0, 6, .inl (fun _ => 0)), .inl (G.2.1 0, 6, .inl (fun _ => 0)), .inl (G.2.1 0, 6, .inl (fun _ => 0)), .inl (G.2.1 0, 6, .inl (fun _ => 0)), .inl (G.2.1 0, 24, .inl (fun _ => 0)), .inl (G.2.1 0, 24, .inl (fun _ => 0)), .inl (G.2.1 0, 96, .inl (fun _ => 0)), .inl (G.2.1 1, 12, .inl (fun _ => 0)), .inl (G.2.1 0, 84, .inl (fun _ => 0)), .inl (G.2.1 0, 14, .inl (fun _ => 0)), .inl (G.2.1 0, 8, .inl (fun _ => 0)), .inl (G.2.1 0, 4, .inl (fun _ => 0)), .inl (G.2.1 0, 4, .inl (fun _ => 0)), .inl (G.2.1 0, 2, .inl (fun _ => 0)), .inl (G.2.1 0, 2, .inl (fun _ => 0))] rfl rfl ?_
  refine n_ct (m1 := 25) (m2 := 462) rfl rfl ?_
  have hI : k_I mS (G.1, G.2.1, m_ph a z) := k_I_of haz m_tb (fun f c k i hf hi => by
    rcases m_cells G a z f c k i hf hi with ⟨h1, h2, h3, -⟩ | ⟨j, e, h1, h2, -⟩
    · exact Or.inl ⟨h1, h2, h3⟩
    · exact Or.inr ⟨j, h1, h2⟩)
  have C2 := n_upC (S := mS) (φ := m_ph a z) C N rfl rfl hI (fun f c k i hf hi => by
    rcases m_cells G a z f c k i hf hi with ⟨h1, -⟩ | ⟨j, e, h1, -⟩
    · exact Or.inl h1
    · exact Or.inr (by omega))
  refine n_toK (S := mS) (φ := m_ph a z) (K := m_K0) C rfl (fun f c k i hf hi => by
    rcases m_cells G a z f c k i hf hi with ⟨h1, -, -, h4⟩ | ⟨j, e, h1, -, h3, h4⟩
    · exact Or.inl ⟨h1, h4⟩
    · exact Or.inr ⟨j, e, h1, h3, h4⟩) ?_
  refine k_loc [(0, .ref (m_ph a z 0 0))] ⟨rfl, trivial⟩ ?_
  refine b_MoT C2 iv_mK0 (n_upE E ?_)
  obtain ⟨p, l', e, R, s, m, args, below, meth, cd, Q, S', G', A, nL'⟩ := X
  obtain ⟨rfl, rfl, -⟩ := C
  obtain ⟨-, rfl, -⟩ := N
  rfl
