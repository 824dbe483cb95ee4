/-! ===== the layouts: the class (gS) and the reference (mS) ===== -/
def T_Ke : u_T := fun k => match k with
  | 0 => ("GuestKernel", "program", "LGuestKernel$Program;", true)
  | 1 => ("GuestKernel", "frames", "LGuestKernel$Frames;", true)
  | 2 => ("GuestKernel", "guests", "[LGuestKernel$Guest;", true)
  | 3 => ("GuestKernel", "processors", "[LGuestKernel$Processor;", true)
  | 4 => ("GuestKernel", "locks", "[LGuestKernel$Lock;", true)
  | 5 => ("GuestKernel", "channels", "[LGuestKernel$Channel;", true)
  | 6 => ("GuestKernel", "ticks", "I", false)
  | 7 => ("GuestKernel", "instructions", "I", false)
  | 8 => ("GuestKernel", "trapped", "I", false)
  | 9 => ("GuestKernel", "spawned", "I", false)
  | 10 => ("GuestKernel", "reaped", "I", false)
  | 11 => ("GuestKernel", "idle", "I", false)
  | _ => ("GuestKernel", "taken", "I", false)
def ty_Ke : Nat → FieldType := fun k => match k with
  | 0 => .object "GuestKernel$Program"
  | 1 => .object "GuestKernel$Frames"
  | 2 => .array (.object "GuestKernel$Guest")
  | 3 => .array (.object "GuestKernel$Processor")
  | 4 => .array (.object "GuestKernel$Lock")
  | 5 => .array (.object "GuestKernel$Channel")
  | 6 => .int
  | 7 => .int
  | 8 => .int
  | 9 => .int
  | 10 => .int
  | 11 => .int
  | _ => .int
theorem nm_Ke : ∀ a, a < 13 → ∀ b, b < 13 → a ≠ b → (T_Ke a).2.1 ≠ (T_Ke b).2.1 := by decide +kernel
theorem tk_Ke : ∀ k, k < 13 → parseFieldDescriptor (T_Ke k).2.2.1 = some (ty_Ke k) := by decide +kernel
theorem in_Ke : ∀ w ∈ u_ws "GuestKernel" T_Ke 13, w ∈ kT := fun w h => kT_in ((by decide +kernel : ∀ w ∈ u_ws "GuestKernel" T_Ke 13, w ∈ lw_tbl) w h) ((by decide +kernel : ∀ w ∈ u_ws "GuestKernel" T_Ke 13, goodWord w = true) w h)
def rf_Ke : kR := fun i j => match j with
  | 0 => some (1, 0)
  | 1 => some (3, 0)
  | 2 => some (6, 0)
  | 3 => some (10, 0)
  | 4 => some (14, 0)
  | 5 => some (16, 0)
  | _ => none
def T_Pg : u_T := fun k => match k with
  | _ => ("GuestKernel$Program", "parts", "[I", true)
def ty_Pg : Nat → FieldType := fun k => match k with
  | _ => .array .int
theorem nm_Pg : ∀ a, a < 1 → ∀ b, b < 1 → a ≠ b → (T_Pg a).2.1 ≠ (T_Pg b).2.1 := by decide +kernel
theorem tk_Pg : ∀ k, k < 1 → parseFieldDescriptor (T_Pg k).2.2.1 = some (ty_Pg k) := by decide +kernel
theorem in_Pg : ∀ w ∈ u_ws "GuestKernel$Program" T_Pg 1, w ∈ kT := fun w h => kT_in ((by decide +kernel : ∀ w ∈ u_ws "GuestKernel$Program" T_Pg 1, w ∈ lw_tbl) w h) ((by decide +kernel : ∀ w ∈ u_ws "GuestKernel$Program" T_Pg 1, goodWord w = true) w h)
def rf_Pg : kR := fun i j => match j with
  | 0 => some (2, 0)
  | _ => none
def T_Fr : u_T := fun k => match k with
  | 0 => ("GuestKernel$Frames", "ints", "[I", true)
  | 1 => ("GuestKernel$Frames", "isTaken", "[Z", true)
  | _ => ("GuestKernel$Frames", "free", "I", false)
def ty_Fr : Nat → FieldType := fun k => match k with
  | 0 => .array .int
  | 1 => .array .boolean
  | _ => .int
theorem nm_Fr : ∀ a, a < 3 → ∀ b, b < 3 → a ≠ b → (T_Fr a).2.1 ≠ (T_Fr b).2.1 := by decide +kernel
theorem tk_Fr : ∀ k, k < 3 → parseFieldDescriptor (T_Fr k).2.2.1 = some (ty_Fr k) := by decide +kernel
theorem in_Fr : ∀ w ∈ u_ws "GuestKernel$Frames" T_Fr 3, w ∈ kT := fun w h => kT_in ((by decide +kernel : ∀ w ∈ u_ws "GuestKernel$Frames" T_Fr 3, w ∈ lw_tbl) w h) ((by decide +kernel : ∀ w ∈ u_ws "GuestKernel$Frames" T_Fr 3, goodWord w = true) w h)
def rf_Fr : kR := fun i j => match j with
  | 0 => some (4, 0)
  | 1 => some (5, 0)
  | _ => none
def T_Gu : u_T := fun k => match k with
  | 0 => ("GuestKernel$Guest", "number", "I", true)
  | 1 => ("GuestKernel$Guest", "registers", "[I", true)
  | 2 => ("GuestKernel$Guest", "pages", "[I", true)
  | 3 => ("GuestKernel$Guest", "state", "I", false)
  | 4 => ("GuestKernel$Guest", "place", "I", false)
  | 5 => ("GuestKernel$Guest", "handler", "I", false)
  | 6 => ("GuestKernel$Guest", "quota", "I", false)
  | 7 => ("GuestKernel$Guest", "used", "I", false)
  | 8 => ("GuestKernel$Guest", "given", "I", false)
  | 9 => ("GuestKernel$Guest", "parent", "I", false)
  | 10 => ("GuestKernel$Guest", "outcome", "I", false)
  | 11 => ("GuestKernel$Guest", "trapped", "I", false)
  | _ => ("GuestKernel$Guest", "blockedRegister", "I", false)
def ty_Gu : Nat → FieldType := fun k => match k with
  | 0 => .int
  | 1 => .array .int
  | 2 => .array .int
  | 3 => .int
  | 4 => .int
  | 5 => .int
  | 6 => .int
  | 7 => .int
  | 8 => .int
  | 9 => .int
  | 10 => .int
  | 11 => .int
  | _ => .int
theorem nm_Gu : ∀ a, a < 13 → ∀ b, b < 13 → a ≠ b → (T_Gu a).2.1 ≠ (T_Gu b).2.1 := by decide +kernel
theorem tk_Gu : ∀ k, k < 13 → parseFieldDescriptor (T_Gu k).2.2.1 = some (ty_Gu k) := by decide +kernel
theorem in_Gu : ∀ w ∈ u_ws "GuestKernel$Guest" T_Gu 13, w ∈ kT := fun w h => kT_in ((by decide +kernel : ∀ w ∈ u_ws "GuestKernel$Guest" T_Gu 13, w ∈ lw_tbl) w h) ((by decide +kernel : ∀ w ∈ u_ws "GuestKernel$Guest" T_Gu 13, goodWord w = true) w h)
def rf_Gu : kR := fun i j => match j with
  | 1 => some (8, i)
  | 2 => some (9, i)
  | _ => none
def T_Pr : u_T := fun k => match k with
  | 0 => ("GuestKernel$Processor", "ready", "LGuestKernel$Row;", true)
  | 1 => ("GuestKernel$Processor", "atHand", "I", false)
  | _ => ("GuestKernel$Processor", "time", "I", false)
def ty_Pr : Nat → FieldType := fun k => match k with
  | 0 => .object "GuestKernel$Row"
  | 1 => .int
  | _ => .int
theorem nm_Pr : ∀ a, a < 3 → ∀ b, b < 3 → a ≠ b → (T_Pr a).2.1 ≠ (T_Pr b).2.1 := by decide +kernel
theorem tk_Pr : ∀ k, k < 3 → parseFieldDescriptor (T_Pr k).2.2.1 = some (ty_Pr k) := by decide +kernel
theorem in_Pr : ∀ w ∈ u_ws "GuestKernel$Processor" T_Pr 3, w ∈ kT := fun w h => kT_in ((by decide +kernel : ∀ w ∈ u_ws "GuestKernel$Processor" T_Pr 3, w ∈ lw_tbl) w h) ((by decide +kernel : ∀ w ∈ u_ws "GuestKernel$Processor" T_Pr 3, goodWord w = true) w h)
def rf_Pr : kR := fun i j => match j with
  | 0 => some (12, i)
  | _ => none
def T_Ro : u_T := fun k => match k with
  | 0 => ("GuestKernel$Row", "numbers", "[I", true)
  | 1 => ("GuestKernel$Row", "first", "I", false)
  | _ => ("GuestKernel$Row", "size", "I", false)
def ty_Ro : Nat → FieldType := fun k => match k with
  | 0 => .array .int
  | 1 => .int
  | _ => .int
theorem nm_Ro : ∀ a, a < 3 → ∀ b, b < 3 → a ≠ b → (T_Ro a).2.1 ≠ (T_Ro b).2.1 := by decide +kernel
theorem tk_Ro : ∀ k, k < 3 → parseFieldDescriptor (T_Ro k).2.2.1 = some (ty_Ro k) := by decide +kernel
theorem in_Ro : ∀ w ∈ u_ws "GuestKernel$Row" T_Ro 3, w ∈ kT := fun w h => kT_in ((by decide +kernel : ∀ w ∈ u_ws "GuestKernel$Row" T_Ro 3, w ∈ lw_tbl) w h) ((by decide +kernel : ∀ w ∈ u_ws "GuestKernel$Row" T_Ro 3, goodWord w = true) w h)
def rf_Ro : kR := fun i j => match j with
  | 0 => some (13, i)
  | _ => none
def T_Lo : u_T := fun k => match k with
  | 0 => ("GuestKernel$Lock", "waiting", "LGuestKernel$Row;", true)
  | _ => ("GuestKernel$Lock", "holder", "I", false)
def ty_Lo : Nat → FieldType := fun k => match k with
  | 0 => .object "GuestKernel$Row"
  | _ => .int
theorem nm_Lo : ∀ a, a < 2 → ∀ b, b < 2 → a ≠ b → (T_Lo a).2.1 ≠ (T_Lo b).2.1 := by decide +kernel
theorem tk_Lo : ∀ k, k < 2 → parseFieldDescriptor (T_Lo k).2.2.1 = some (ty_Lo k) := by decide +kernel
theorem in_Lo : ∀ w ∈ u_ws "GuestKernel$Lock" T_Lo 2, w ∈ kT := fun w h => kT_in ((by decide +kernel : ∀ w ∈ u_ws "GuestKernel$Lock" T_Lo 2, w ∈ lw_tbl) w h) ((by decide +kernel : ∀ w ∈ u_ws "GuestKernel$Lock" T_Lo 2, goodWord w = true) w h)
def rf_Lo : kR := fun i j => match j with
  | 0 => some (12, 10 + i)
  | _ => none
def T_Ch : u_T := fun k => match k with
  | 0 => ("GuestKernel$Channel", "senders", "LGuestKernel$Row;", true)
  | 1 => ("GuestKernel$Channel", "receivers", "LGuestKernel$Row;", true)
  | 2 => ("GuestKernel$Channel", "ints", "[I", true)
  | _ => ("GuestKernel$Channel", "size", "I", false)
def ty_Ch : Nat → FieldType := fun k => match k with
  | 0 => .object "GuestKernel$Row"
  | 1 => .object "GuestKernel$Row"
  | 2 => .array .int
  | _ => .int
theorem nm_Ch : ∀ a, a < 4 → ∀ b, b < 4 → a ≠ b → (T_Ch a).2.1 ≠ (T_Ch b).2.1 := by decide +kernel
theorem tk_Ch : ∀ k, k < 4 → parseFieldDescriptor (T_Ch k).2.2.1 = some (ty_Ch k) := by decide +kernel
theorem in_Ch : ∀ w ∈ u_ws "GuestKernel$Channel" T_Ch 4, w ∈ kT := fun w h => kT_in ((by decide +kernel : ∀ w ∈ u_ws "GuestKernel$Channel" T_Ch 4, w ∈ lw_tbl) w h) ((by decide +kernel : ∀ w ∈ u_ws "GuestKernel$Channel" T_Ch 4, goodWord w = true) w h)
def rf_Ch : kR := fun i j => match j with
  | 0 => some (12, 2 + i)
  | 1 => some (12, 6 + i)
  | 2 => some (18, i)
  | _ => none
def T_Mo : u_T := fun k => match k with
  | 0 => ("GuestKernelModel", "op", "[I", true)
  | 1 => ("GuestKernelModel", "first", "[I", true)
  | 2 => ("GuestKernelModel", "second", "[I", true)
  | 3 => ("GuestKernelModel", "third", "[I", true)
  | 4 => ("GuestKernelModel", "state", "[I", true)
  | 5 => ("GuestKernelModel", "place", "[I", true)
  | 6 => ("GuestKernelModel", "handler", "[I", true)
  | 7 => ("GuestKernelModel", "quota", "[I", true)
  | 8 => ("GuestKernelModel", "used", "[I", true)
  | 9 => ("GuestKernelModel", "given", "[I", true)
  | 10 => ("GuestKernelModel", "parent", "[I", true)
  | 11 => ("GuestKernelModel", "outcome", "[I", true)
  | 12 => ("GuestKernelModel", "traps", "[I", true)
  | 13 => ("GuestKernelModel", "carried", "[I", true)
  | 14 => ("GuestKernelModel", "register", "[I", true)
  | 15 => ("GuestKernelModel", "page", "[I", true)
  | 16 => ("GuestKernelModel", "memory", "[I", true)
  | 17 => ("GuestKernelModel", "taken", "[Z", true)
  | 18 => ("GuestKernelModel", "row", "[I", true)
  | 19 => ("GuestKernelModel", "size", "[I", true)
  | 20 => ("GuestKernelModel", "channel", "[I", true)
  | 21 => ("GuestKernelModel", "held", "[I", true)
  | 22 => ("GuestKernelModel", "holder", "[I", true)
  | 23 => ("GuestKernelModel", "hand", "[I", true)
  | 24 => ("GuestKernelModel", "time", "[I", true)
  | 25 => ("GuestKernelModel", "ticks", "I", false)
  | 26 => ("GuestKernelModel", "done", "I", false)
  | 27 => ("GuestKernelModel", "allTraps", "I", false)
  | 28 => ("GuestKernelModel", "spawned", "I", false)
  | 29 => ("GuestKernelModel", "reaped", "I", false)
  | 30 => ("GuestKernelModel", "idle", "I", false)
  | 31 => ("GuestKernelModel", "chosen", "I", false)
  | _ => ("GuestKernelModel", "thrown", "I", false)
def ty_Mo : Nat → FieldType := fun k => match k with
  | 0 => .array .int
  | 1 => .array .int
  | 2 => .array .int
  | 3 => .array .int
  | 4 => .array .int
  | 5 => .array .int
  | 6 => .array .int
  | 7 => .array .int
  | 8 => .array .int
  | 9 => .array .int
  | 10 => .array .int
  | 11 => .array .int
  | 12 => .array .int
  | 13 => .array .int
  | 14 => .array .int
  | 15 => .array .int
  | 16 => .array .int
  | 17 => .array .boolean
  | 18 => .array .int
  | 19 => .array .int
  | 20 => .array .int
  | 21 => .array .int
  | 22 => .array .int
  | 23 => .array .int
  | 24 => .array .int
  | 25 => .int
  | 26 => .int
  | 27 => .int
  | 28 => .int
  | 29 => .int
  | 30 => .int
  | 31 => .int
  | _ => .int
theorem nm_Mo : ∀ a, a < 33 → ∀ b, b < 33 → a ≠ b → (T_Mo a).2.1 ≠ (T_Mo b).2.1 := by decide +kernel
theorem tk_Mo : ∀ k, k < 33 → parseFieldDescriptor (T_Mo k).2.2.1 = some (ty_Mo k) := by decide +kernel
theorem in_Mo : ∀ w ∈ u_ws "GuestKernelModel" T_Mo 33, w ∈ kT := fun w h => kT_in ((by decide +kernel : ∀ w ∈ u_ws "GuestKernelModel" T_Mo 33, w ∈ lw_tbl) w h) ((by decide +kernel : ∀ w ∈ u_ws "GuestKernelModel" T_Mo 33, goodWord w = true) w h)
def rf_Mo : kR := fun i j => match j with
  | 0 => some (1, 0)
  | 1 => some (2, 0)
  | 2 => some (3, 0)
  | 3 => some (4, 0)
  | 4 => some (5, 0)
  | 5 => some (6, 0)
  | 6 => some (7, 0)
  | 7 => some (8, 0)
  | 8 => some (9, 0)
  | 9 => some (10, 0)
  | 10 => some (11, 0)
  | 11 => some (12, 0)
  | 12 => some (13, 0)
  | 13 => some (14, 0)
  | 14 => some (15, 0)
  | 15 => some (16, 0)
  | 16 => some (17, 0)
  | 17 => some (18, 0)
  | 18 => some (19, 0)
  | 19 => some (20, 0)
  | 20 => some (21, 0)
  | 21 => some (22, 0)
  | 22 => some (23, 0)
  | 23 => some (24, 0)
  | 24 => some (25, 0)
  | _ => none
def rq_6 : kR := fun _ j => some (7, j)
def rq_10 : kR := fun _ j => some (11, j)
def rq_14 : kR := fun _ j => some (15, j)
def rq_16 : kR := fun _ j => some (17, j)
def gCl : List vw_C := [("GuestKernel", T_Ke, 13), ("GuestKernel$Program", T_Pg, 1), ("GuestKernel$Frames", T_Fr, 3), ("GuestKernel$Guest", T_Gu, 13), ("GuestKernel$Processor", T_Pr, 3), ("GuestKernel$Row", T_Ro, 3), ("GuestKernel$Lock", T_Lo, 2), ("GuestKernel$Channel", T_Ch, 4)]
def gAt : List FieldType := [.int, .boolean, .object "GuestKernel$Guest", .object "GuestKernel$Processor", .object "GuestKernel$Lock", .object "GuestKernel$Channel"]
def gL : kL := [(1, .inl (0, 13, rf_Ke)), (1, .inl (1, 1, rf_Pg)), (1, .inr (.inl (0, 128))), (1, .inl (2, 3, rf_Fr)), (1, .inr (.inl (0, 96))), (1, .inr (.inl (1, 12))), (1, .inr (.inr (2, 6, rq_6))), (6, .inl (3, 13, rf_Gu)), (6, .inr (.inl (0, 4))), (6, .inr (.inl (0, 4))), (1, .inr (.inr (3, 2, rq_10))), (2, .inl (4, 3, rf_Pr)), (14, .inl (5, 3, rf_Ro)), (14, .inr (.inl (0, 6))), (1, .inr (.inr (4, 4, rq_14))), (4, .inl (6, 2, rf_Lo)), (1, .inr (.inr (5, 4, rq_16))), (4, .inl (7, 4, rf_Ch)), (4, .inr (.inl (0, 2)))]
def gS : kS := (gCl, gAt, gL)
def mCl : List vw_C := [("GuestKernelModel", T_Mo, 33)]
def mAt : List FieldType := [.int, .boolean]
def mL : kL := [(1, .inl (0, 33, rf_Mo)), (1, .inr (.inl (0, 32))), (1, .inr (.inl (0, 32))), (1, .inr (.inl (0, 32))), (1, .inr (.inl (0, 32))), (1, .inr (.inl (0, 6))), (1, .inr (.inl (0, 6))), (1, .inr (.inl (0, 6))), (1, .inr (.inl (0, 6))), (1, .inr (.inl (0, 6))), (1, .inr (.inl (0, 6))), (1, .inr (.inl (0, 6))), (1, .inr (.inl (0, 6))), (1, .inr (.inl (0, 6))), (1, .inr (.inl (0, 6))), (1, .inr (.inl (0, 24))), (1, .inr (.inl (0, 24))), (1, .inr (.inl (0, 96))), (1, .inr (.inl (1, 12))), (1, .inr (.inl (0, 84))), (1, .inr (.inl (0, 14))), (1, .inr (.inl (0, 8))), (1, .inr (.inl (0, 4))), (1, .inr (.inl (0, 4))), (1, .inr (.inl (0, 2))), (1, .inr (.inl (0, 2)))]
def mS : kS := (mCl, mAt, mL)
theorem ar_2 : k_arr gS 2 1 128 .int := ⟨0, rfl, rfl⟩
theorem ar_4 : k_arr gS 4 1 96 .int := ⟨0, rfl, rfl⟩
theorem ar_5 : k_arr gS 5 1 12 .boolean := ⟨1, rfl, rfl⟩
theorem ar_8 : k_arr gS 8 6 4 .int := ⟨0, rfl, rfl⟩
theorem ar_9 : k_arr gS 9 6 4 .int := ⟨0, rfl, rfl⟩
theorem ar_13 : k_arr gS 13 14 6 .int := ⟨0, rfl, rfl⟩
theorem ar_18 : k_arr gS 18 4 2 .int := ⟨0, rfl, rfl⟩
theorem ar_6 : k_arq gS 6 1 6 rq_6 := ⟨2, _, rfl, rfl⟩
theorem ar_10 : k_arq gS 10 1 2 rq_10 := ⟨3, _, rfl, rfl⟩
theorem ar_14 : k_arq gS 14 1 4 rq_14 := ⟨4, _, rfl, rfl⟩
theorem ar_16 : k_arq gS 16 1 4 rq_16 := ⟨5, _, rfl, rfl⟩
theorem am_1 : k_arr mS 1 1 32 .int := ⟨0, rfl, rfl⟩
theorem am_2 : k_arr mS 2 1 32 .int := ⟨0, rfl, rfl⟩
theorem am_3 : k_arr mS 3 1 32 .int := ⟨0, rfl, rfl⟩
theorem am_4 : k_arr mS 4 1 32 .int := ⟨0, rfl, rfl⟩
theorem am_5 : k_arr mS 5 1 6 .int := ⟨0, rfl, rfl⟩
theorem am_6 : k_arr mS 6 1 6 .int := ⟨0, rfl, rfl⟩
theorem am_7 : k_arr mS 7 1 6 .int := ⟨0, rfl, rfl⟩
theorem am_8 : k_arr mS 8 1 6 .int := ⟨0, rfl, rfl⟩
theorem am_9 : k_arr mS 9 1 6 .int := ⟨0, rfl, rfl⟩
theorem am_10 : k_arr mS 10 1 6 .int := ⟨0, rfl, rfl⟩
theorem am_11 : k_arr mS 11 1 6 .int := ⟨0, rfl, rfl⟩
theorem am_12 : k_arr mS 12 1 6 .int := ⟨0, rfl, rfl⟩
theorem am_13 : k_arr mS 13 1 6 .int := ⟨0, rfl, rfl⟩
theorem am_14 : k_arr mS 14 1 6 .int := ⟨0, rfl, rfl⟩
theorem am_15 : k_arr mS 15 1 24 .int := ⟨0, rfl, rfl⟩
theorem am_16 : k_arr mS 16 1 24 .int := ⟨0, rfl, rfl⟩
theorem am_17 : k_arr mS 17 1 96 .int := ⟨0, rfl, rfl⟩
theorem am_18 : k_arr mS 18 1 12 .boolean := ⟨1, rfl, rfl⟩
theorem am_19 : k_arr mS 19 1 84 .int := ⟨0, rfl, rfl⟩
theorem am_20 : k_arr mS 20 1 14 .int := ⟨0, rfl, rfl⟩
theorem am_21 : k_arr mS 21 1 8 .int := ⟨0, rfl, rfl⟩
theorem am_22 : k_arr mS 22 1 4 .int := ⟨0, rfl, rfl⟩
theorem am_23 : k_arr mS 23 1 4 .int := ⟨0, rfl, rfl⟩
theorem am_24 : k_arr mS 24 1 2 .int := ⟨0, rfl, rfl⟩
theorem am_25 : k_arr mS 25 1 2 .int := ⟨0, rfl, rfl⟩
theorem ob_0 : k_obj gS 0 1 "GuestKernel" := ⟨0, 13, rf_Ke, T_Ke, rfl, rfl⟩
theorem ob_1 : k_obj gS 1 1 "GuestKernel$Program" := ⟨1, 1, rf_Pg, T_Pg, rfl, rfl⟩
theorem ob_3 : k_obj gS 3 1 "GuestKernel$Frames" := ⟨2, 3, rf_Fr, T_Fr, rfl, rfl⟩
theorem ob_7 : k_obj gS 7 6 "GuestKernel$Guest" := ⟨3, 13, rf_Gu, T_Gu, rfl, rfl⟩
theorem ob_11 : k_obj gS 11 2 "GuestKernel$Processor" := ⟨4, 3, rf_Pr, T_Pr, rfl, rfl⟩
theorem ob_12 : k_obj gS 12 14 "GuestKernel$Row" := ⟨5, 3, rf_Ro, T_Ro, rfl, rfl⟩
theorem ob_15 : k_obj gS 15 4 "GuestKernel$Lock" := ⟨6, 2, rf_Lo, T_Lo, rfl, rfl⟩
theorem ob_17 : k_obj gS 17 4 "GuestKernel$Channel" := ⟨7, 4, rf_Ch, T_Ch, rfl, rfl⟩
theorem om_0 : k_obj mS 0 1 "GuestKernelModel" := ⟨0, 33, rf_Mo, T_Mo, rfl, rfl⟩
theorem fg_Pg_11 : k_fld gS kT "GuestKernel$Program" 11 1 0 1 rf_Pg := ⟨1, 1, "GuestKernel$Program", "GuestKernel$Program", "parts", "[I", T_Pg, rfl, rfl, in_Pg, rfl, by decide, (kt1 33 rfl rfl)⟩
theorem fg_Fr_9 : k_fld gS kT "GuestKernel$Frames" 9 3 0 1 rf_Fr := ⟨2, 3, "GuestKernel$Frames", "GuestKernel$Frames", "ints", "[I", T_Fr, rfl, rfl, in_Fr, rfl, by decide, (kt1 44 rfl rfl)⟩
theorem fg_Fr_15 : k_fld gS kT "GuestKernel$Frames" 15 3 1 1 rf_Fr := ⟨2, 3, "GuestKernel$Frames", "GuestKernel$Frames", "isTaken", "[Z", T_Fr, rfl, rfl, in_Fr, rfl, by decide, (kt1 45 rfl rfl)⟩
theorem fg_Fr_19 : k_fld gS kT "GuestKernel$Frames" 19 3 2 1 rf_Fr := ⟨2, 3, "GuestKernel$Frames", "GuestKernel$Frames", "free", "I", T_Fr, rfl, rfl, in_Fr, rfl, by decide, (kt1 46 rfl rfl)⟩
theorem fp_Fr_19 : k_fldP gS kT "GuestKernel$Frames" 19 3 2 1 rf_Fr := ⟨2, 3, "GuestKernel$Frames", "GuestKernel$Frames", "free", T_Fr, ty_Fr, rfl, rfl, in_Fr, tk_Fr, nm_Fr, rfl, by decide, (kt1 46 rfl rfl)⟩
theorem fg_Ke_164 : k_fld gS kT "GuestKernel" 164 3 2 1 rf_Fr := ⟨2, 3, "GuestKernel$Frames", "GuestKernel$Frames", "free", "I", T_Fr, rfl, rfl, in_Fr, rfl, by decide, (kt1 47 rfl rfl)⟩
theorem fp_Ke_164 : k_fldP gS kT "GuestKernel" 164 3 2 1 rf_Fr := ⟨2, 3, "GuestKernel$Frames", "GuestKernel$Frames", "free", T_Fr, ty_Fr, rfl, rfl, in_Fr, tk_Fr, nm_Fr, rfl, by decide, (kt1 47 rfl rfl)⟩
theorem fg_Gu_22 : k_fld gS kT "GuestKernel$Guest" 22 7 0 6 rf_Gu := ⟨3, 13, "GuestKernel$Guest", "GuestKernel$Guest", "number", "I", T_Gu, rfl, rfl, in_Gu, rfl, by decide, (kt1 69 rfl rfl)⟩
theorem fg_Ke_273 : k_fld gS kT "GuestKernel" 273 7 0 6 rf_Gu := ⟨3, 13, "GuestKernel$Guest", "GuestKernel$Guest", "number", "I", T_Gu, rfl, rfl, in_Gu, rfl, by decide, (kt1 70 rfl rfl)⟩
theorem fg_Gu_9 : k_fld gS kT "GuestKernel$Guest" 9 7 1 6 rf_Gu := ⟨3, 13, "GuestKernel$Guest", "GuestKernel$Guest", "registers", "[I", T_Gu, rfl, rfl, in_Gu, rfl, by decide, (kt1 71 rfl rfl)⟩
theorem fg_Ke_94 : k_fld gS kT "GuestKernel" 94 7 1 6 rf_Gu := ⟨3, 13, "GuestKernel$Guest", "GuestKernel$Guest", "registers", "[I", T_Gu, rfl, rfl, in_Gu, rfl, by decide, (kt1 72 rfl rfl)⟩
theorem fg_Gu_15 : k_fld gS kT "GuestKernel$Guest" 15 7 2 6 rf_Gu := ⟨3, 13, "GuestKernel$Guest", "GuestKernel$Guest", "pages", "[I", T_Gu, rfl, rfl, in_Gu, rfl, by decide, (kt1 73 rfl rfl)⟩
theorem fg_Ke_125 : k_fld gS kT "GuestKernel" 125 7 2 6 rf_Gu := ⟨3, 13, "GuestKernel$Guest", "GuestKernel$Guest", "pages", "[I", T_Gu, rfl, rfl, in_Gu, rfl, by decide, (kt1 74 rfl rfl)⟩
theorem fg_Gu_18 : k_fld gS kT "GuestKernel$Guest" 18 7 3 6 rf_Gu := ⟨3, 13, "GuestKernel$Guest", "GuestKernel$Guest", "state", "I", T_Gu, rfl, rfl, in_Gu, rfl, by decide, (kt1 75 rfl rfl)⟩
theorem fp_Gu_18 : k_fldP gS kT "GuestKernel$Guest" 18 7 3 6 rf_Gu := ⟨3, 13, "GuestKernel$Guest", "GuestKernel$Guest", "state", T_Gu, ty_Gu, rfl, rfl, in_Gu, tk_Gu, nm_Gu, rfl, by decide, (kt1 75 rfl rfl)⟩
theorem fg_Ke_98 : k_fld gS kT "GuestKernel" 98 7 3 6 rf_Gu := ⟨3, 13, "GuestKernel$Guest", "GuestKernel$Guest", "state", "I", T_Gu, rfl, rfl, in_Gu, rfl, by decide, (kt1 76 rfl rfl)⟩
theorem fp_Ke_98 : k_fldP gS kT "GuestKernel" 98 7 3 6 rf_Gu := ⟨3, 13, "GuestKernel$Guest", "GuestKernel$Guest", "state", T_Gu, ty_Gu, rfl, rfl, in_Gu, tk_Gu, nm_Gu, rfl, by decide, (kt1 76 rfl rfl)⟩
theorem fg_Gu_62 : k_fld gS kT "GuestKernel$Guest" 62 7 4 6 rf_Gu := ⟨3, 13, "GuestKernel$Guest", "GuestKernel$Guest", "place", "I", T_Gu, rfl, rfl, in_Gu, rfl, by decide, (kt1 77 rfl rfl)⟩
theorem fp_Gu_62 : k_fldP gS kT "GuestKernel$Guest" 62 7 4 6 rf_Gu := ⟨3, 13, "GuestKernel$Guest", "GuestKernel$Guest", "place", T_Gu, ty_Gu, rfl, rfl, in_Gu, tk_Gu, nm_Gu, rfl, by decide, (kt1 77 rfl rfl)⟩
theorem fg_Ke_101 : k_fld gS kT "GuestKernel" 101 7 4 6 rf_Gu := ⟨3, 13, "GuestKernel$Guest", "GuestKernel$Guest", "place", "I", T_Gu, rfl, rfl, in_Gu, rfl, by decide, (kt1 78 rfl rfl)⟩
theorem fp_Ke_101 : k_fldP gS kT "GuestKernel" 101 7 4 6 rf_Gu := ⟨3, 13, "GuestKernel$Guest", "GuestKernel$Guest", "place", T_Gu, ty_Gu, rfl, rfl, in_Gu, tk_Gu, nm_Gu, rfl, by decide, (kt1 78 rfl rfl)⟩
theorem fg_Gu_35 : k_fld gS kT "GuestKernel$Guest" 35 7 5 6 rf_Gu := ⟨3, 13, "GuestKernel$Guest", "GuestKernel$Guest", "handler", "I", T_Gu, rfl, rfl, in_Gu, rfl, by decide, (kt1 79 rfl rfl)⟩
theorem fp_Gu_35 : k_fldP gS kT "GuestKernel$Guest" 35 7 5 6 rf_Gu := ⟨3, 13, "GuestKernel$Guest", "GuestKernel$Guest", "handler", T_Gu, ty_Gu, rfl, rfl, in_Gu, tk_Gu, nm_Gu, rfl, by decide, (kt1 79 rfl rfl)⟩
theorem fg_Ke_104 : k_fld gS kT "GuestKernel" 104 7 5 6 rf_Gu := ⟨3, 13, "GuestKernel$Guest", "GuestKernel$Guest", "handler", "I", T_Gu, rfl, rfl, in_Gu, rfl, by decide, (kt1 80 rfl rfl)⟩
theorem fp_Ke_104 : k_fldP gS kT "GuestKernel" 104 7 5 6 rf_Gu := ⟨3, 13, "GuestKernel$Guest", "GuestKernel$Guest", "handler", T_Gu, ty_Gu, rfl, rfl, in_Gu, tk_Gu, nm_Gu, rfl, by decide, (kt1 80 rfl rfl)⟩
theorem fg_Gu_38 : k_fld gS kT "GuestKernel$Guest" 38 7 6 6 rf_Gu := ⟨3, 13, "GuestKernel$Guest", "GuestKernel$Guest", "quota", "I", T_Gu, rfl, rfl, in_Gu, rfl, by decide, (kt1 81 rfl rfl)⟩
theorem fp_Gu_38 : k_fldP gS kT "GuestKernel$Guest" 38 7 6 6 rf_Gu := ⟨3, 13, "GuestKernel$Guest", "GuestKernel$Guest", "quota", T_Gu, ty_Gu, rfl, rfl, in_Gu, tk_Gu, nm_Gu, rfl, by decide, (kt1 81 rfl rfl)⟩
theorem fg_Ke_107 : k_fld gS kT "GuestKernel" 107 7 6 6 rf_Gu := ⟨3, 13, "GuestKernel$Guest", "GuestKernel$Guest", "quota", "I", T_Gu, rfl, rfl, in_Gu, rfl, by decide, (kt1 82 rfl rfl)⟩
theorem fp_Ke_107 : k_fldP gS kT "GuestKernel" 107 7 6 6 rf_Gu := ⟨3, 13, "GuestKernel$Guest", "GuestKernel$Guest", "quota", T_Gu, ty_Gu, rfl, rfl, in_Gu, tk_Gu, nm_Gu, rfl, by decide, (kt1 82 rfl rfl)⟩
theorem fg_Gu_41 : k_fld gS kT "GuestKernel$Guest" 41 7 7 6 rf_Gu := ⟨3, 13, "GuestKernel$Guest", "GuestKernel$Guest", "used", "I", T_Gu, rfl, rfl, in_Gu, rfl, by decide, (kt1 83 rfl rfl)⟩
theorem fp_Gu_41 : k_fldP gS kT "GuestKernel$Guest" 41 7 7 6 rf_Gu := ⟨3, 13, "GuestKernel$Guest", "GuestKernel$Guest", "used", T_Gu, ty_Gu, rfl, rfl, in_Gu, tk_Gu, nm_Gu, rfl, by decide, (kt1 83 rfl rfl)⟩
theorem fg_Ke_110 : k_fld gS kT "GuestKernel" 110 7 7 6 rf_Gu := ⟨3, 13, "GuestKernel$Guest", "GuestKernel$Guest", "used", "I", T_Gu, rfl, rfl, in_Gu, rfl, by decide, (kt1 84 rfl rfl)⟩
theorem fp_Ke_110 : k_fldP gS kT "GuestKernel" 110 7 7 6 rf_Gu := ⟨3, 13, "GuestKernel$Guest", "GuestKernel$Guest", "used", T_Gu, ty_Gu, rfl, rfl, in_Gu, tk_Gu, nm_Gu, rfl, by decide, (kt1 84 rfl rfl)⟩
theorem fg_Gu_44 : k_fld gS kT "GuestKernel$Guest" 44 7 8 6 rf_Gu := ⟨3, 13, "GuestKernel$Guest", "GuestKernel$Guest", "given", "I", T_Gu, rfl, rfl, in_Gu, rfl, by decide, (kt1 85 rfl rfl)⟩
theorem fp_Gu_44 : k_fldP gS kT "GuestKernel$Guest" 44 7 8 6 rf_Gu := ⟨3, 13, "GuestKernel$Guest", "GuestKernel$Guest", "given", T_Gu, ty_Gu, rfl, rfl, in_Gu, tk_Gu, nm_Gu, rfl, by decide, (kt1 85 rfl rfl)⟩
theorem fg_Ke_113 : k_fld gS kT "GuestKernel" 113 7 8 6 rf_Gu := ⟨3, 13, "GuestKernel$Guest", "GuestKernel$Guest", "given", "I", T_Gu, rfl, rfl, in_Gu, rfl, by decide, (kt1 86 rfl rfl)⟩
theorem fp_Ke_113 : k_fldP gS kT "GuestKernel" 113 7 8 6 rf_Gu := ⟨3, 13, "GuestKernel$Guest", "GuestKernel$Guest", "given", T_Gu, ty_Gu, rfl, rfl, in_Gu, tk_Gu, nm_Gu, rfl, by decide, (kt1 86 rfl rfl)⟩
theorem fg_Gu_47 : k_fld gS kT "GuestKernel$Guest" 47 7 9 6 rf_Gu := ⟨3, 13, "GuestKernel$Guest", "GuestKernel$Guest", "parent", "I", T_Gu, rfl, rfl, in_Gu, rfl, by decide, (kt1 87 rfl rfl)⟩
theorem fp_Gu_47 : k_fldP gS kT "GuestKernel$Guest" 47 7 9 6 rf_Gu := ⟨3, 13, "GuestKernel$Guest", "GuestKernel$Guest", "parent", T_Gu, ty_Gu, rfl, rfl, in_Gu, tk_Gu, nm_Gu, rfl, by decide, (kt1 87 rfl rfl)⟩
theorem fg_Ke_116 : k_fld gS kT "GuestKernel" 116 7 9 6 rf_Gu := ⟨3, 13, "GuestKernel$Guest", "GuestKernel$Guest", "parent", "I", T_Gu, rfl, rfl, in_Gu, rfl, by decide, (kt1 88 rfl rfl)⟩
theorem fp_Ke_116 : k_fldP gS kT "GuestKernel" 116 7 9 6 rf_Gu := ⟨3, 13, "GuestKernel$Guest", "GuestKernel$Guest", "parent", T_Gu, ty_Gu, rfl, rfl, in_Gu, tk_Gu, nm_Gu, rfl, by decide, (kt1 88 rfl rfl)⟩
theorem fg_Gu_50 : k_fld gS kT "GuestKernel$Guest" 50 7 10 6 rf_Gu := ⟨3, 13, "GuestKernel$Guest", "GuestKernel$Guest", "outcome", "I", T_Gu, rfl, rfl, in_Gu, rfl, by decide, (kt1 89 rfl rfl)⟩
theorem fp_Gu_50 : k_fldP gS kT "GuestKernel$Guest" 50 7 10 6 rf_Gu := ⟨3, 13, "GuestKernel$Guest", "GuestKernel$Guest", "outcome", T_Gu, ty_Gu, rfl, rfl, in_Gu, tk_Gu, nm_Gu, rfl, by decide, (kt1 89 rfl rfl)⟩
theorem fg_Ke_119 : k_fld gS kT "GuestKernel" 119 7 10 6 rf_Gu := ⟨3, 13, "GuestKernel$Guest", "GuestKernel$Guest", "outcome", "I", T_Gu, rfl, rfl, in_Gu, rfl, by decide, (kt1 90 rfl rfl)⟩
theorem fp_Ke_119 : k_fldP gS kT "GuestKernel" 119 7 10 6 rf_Gu := ⟨3, 13, "GuestKernel$Guest", "GuestKernel$Guest", "outcome", T_Gu, ty_Gu, rfl, rfl, in_Gu, tk_Gu, nm_Gu, rfl, by decide, (kt1 90 rfl rfl)⟩
theorem fg_Gu_53 : k_fld gS kT "GuestKernel$Guest" 53 7 11 6 rf_Gu := ⟨3, 13, "GuestKernel$Guest", "GuestKernel$Guest", "trapped", "I", T_Gu, rfl, rfl, in_Gu, rfl, by decide, (kt1 91 rfl rfl)⟩
theorem fp_Gu_53 : k_fldP gS kT "GuestKernel$Guest" 53 7 11 6 rf_Gu := ⟨3, 13, "GuestKernel$Guest", "GuestKernel$Guest", "trapped", T_Gu, ty_Gu, rfl, rfl, in_Gu, tk_Gu, nm_Gu, rfl, by decide, (kt1 91 rfl rfl)⟩
theorem fg_Ke_122 : k_fld gS kT "GuestKernel" 122 7 11 6 rf_Gu := ⟨3, 13, "GuestKernel$Guest", "GuestKernel$Guest", "trapped", "I", T_Gu, rfl, rfl, in_Gu, rfl, by decide, (kt1 92 rfl rfl)⟩
theorem fp_Ke_122 : k_fldP gS kT "GuestKernel" 122 7 11 6 rf_Gu := ⟨3, 13, "GuestKernel$Guest", "GuestKernel$Guest", "trapped", T_Gu, ty_Gu, rfl, rfl, in_Gu, tk_Gu, nm_Gu, rfl, by decide, (kt1 92 rfl rfl)⟩
theorem fg_Ke_286 : k_fld gS kT "GuestKernel" 286 7 12 6 rf_Gu := ⟨3, 13, "GuestKernel$Guest", "GuestKernel$Guest", "blockedRegister", "I", T_Gu, rfl, rfl, in_Gu, rfl, by decide, (kt1 93 rfl rfl)⟩
theorem fp_Ke_286 : k_fldP gS kT "GuestKernel" 286 7 12 6 rf_Gu := ⟨3, 13, "GuestKernel$Guest", "GuestKernel$Guest", "blockedRegister", T_Gu, ty_Gu, rfl, rfl, in_Gu, tk_Gu, nm_Gu, rfl, by decide, (kt1 93 rfl rfl)⟩
theorem fg_Ro_9 : k_fld gS kT "GuestKernel$Row" 9 12 0 14 rf_Ro := ⟨5, 3, "GuestKernel$Row", "GuestKernel$Row", "numbers", "[I", T_Ro, rfl, rfl, in_Ro, rfl, by decide, (kt1 132 rfl rfl)⟩
theorem fg_Ro_19 : k_fld gS kT "GuestKernel$Row" 19 12 1 14 rf_Ro := ⟨5, 3, "GuestKernel$Row", "GuestKernel$Row", "first", "I", T_Ro, rfl, rfl, in_Ro, rfl, by decide, (kt1 133 rfl rfl)⟩
theorem fp_Ro_19 : k_fldP gS kT "GuestKernel$Row" 19 12 1 14 rf_Ro := ⟨5, 3, "GuestKernel$Row", "GuestKernel$Row", "first", T_Ro, ty_Ro, rfl, rfl, in_Ro, tk_Ro, nm_Ro, rfl, by decide, (kt1 133 rfl rfl)⟩
theorem fg_Ro_15 : k_fld gS kT "GuestKernel$Row" 15 12 2 14 rf_Ro := ⟨5, 3, "GuestKernel$Row", "GuestKernel$Row", "size", "I", T_Ro, rfl, rfl, in_Ro, rfl, by decide, (kt1 134 rfl rfl)⟩
theorem fp_Ro_15 : k_fldP gS kT "GuestKernel$Row" 15 12 2 14 rf_Ro := ⟨5, 3, "GuestKernel$Row", "GuestKernel$Row", "size", T_Ro, ty_Ro, rfl, rfl, in_Ro, tk_Ro, nm_Ro, rfl, by decide, (kt1 134 rfl rfl)⟩
theorem fg_Pr_22 : k_fld gS kT "GuestKernel$Processor" 22 12 2 14 rf_Ro := ⟨5, 3, "GuestKernel$Row", "GuestKernel$Row", "size", "I", T_Ro, rfl, rfl, in_Ro, rfl, by decide, (kt1 135 rfl rfl)⟩
theorem fp_Pr_22 : k_fldP gS kT "GuestKernel$Processor" 22 12 2 14 rf_Ro := ⟨5, 3, "GuestKernel$Row", "GuestKernel$Row", "size", T_Ro, ty_Ro, rfl, rfl, in_Ro, tk_Ro, nm_Ro, rfl, by decide, (kt1 135 rfl rfl)⟩
theorem fg_Ke_139 : k_fld gS kT "GuestKernel" 139 12 2 14 rf_Ro := ⟨5, 3, "GuestKernel$Row", "GuestKernel$Row", "size", "I", T_Ro, rfl, rfl, in_Ro, rfl, by decide, (kt1 136 rfl rfl)⟩
theorem fp_Ke_139 : k_fldP gS kT "GuestKernel" 139 12 2 14 rf_Ro := ⟨5, 3, "GuestKernel$Row", "GuestKernel$Row", "size", T_Ro, ty_Ro, rfl, rfl, in_Ro, tk_Ro, nm_Ro, rfl, by decide, (kt1 136 rfl rfl)⟩
theorem fg_Pr_12 : k_fld gS kT "GuestKernel$Processor" 12 11 0 2 rf_Pr := ⟨4, 3, "GuestKernel$Processor", "GuestKernel$Processor", "ready", "LGuestKernel$Row;", T_Pr, rfl, rfl, in_Pr, rfl, by decide, (kt1 144 rfl rfl)⟩
theorem fg_Ke_176 : k_fld gS kT "GuestKernel" 176 11 0 2 rf_Pr := ⟨4, 3, "GuestKernel$Processor", "GuestKernel$Processor", "ready", "LGuestKernel$Row;", T_Pr, rfl, rfl, in_Pr, rfl, by decide, (kt1 145 rfl rfl)⟩
theorem fg_Pr_18 : k_fld gS kT "GuestKernel$Processor" 18 11 1 2 rf_Pr := ⟨4, 3, "GuestKernel$Processor", "GuestKernel$Processor", "atHand", "I", T_Pr, rfl, rfl, in_Pr, rfl, by decide, (kt1 146 rfl rfl)⟩
theorem fp_Pr_18 : k_fldP gS kT "GuestKernel$Processor" 18 11 1 2 rf_Pr := ⟨4, 3, "GuestKernel$Processor", "GuestKernel$Processor", "atHand", T_Pr, ty_Pr, rfl, rfl, in_Pr, tk_Pr, nm_Pr, rfl, by decide, (kt1 146 rfl rfl)⟩
theorem fg_Ke_173 : k_fld gS kT "GuestKernel" 173 11 1 2 rf_Pr := ⟨4, 3, "GuestKernel$Processor", "GuestKernel$Processor", "atHand", "I", T_Pr, rfl, rfl, in_Pr, rfl, by decide, (kt1 147 rfl rfl)⟩
theorem fp_Ke_173 : k_fldP gS kT "GuestKernel" 173 11 1 2 rf_Pr := ⟨4, 3, "GuestKernel$Processor", "GuestKernel$Processor", "atHand", T_Pr, ty_Pr, rfl, rfl, in_Pr, tk_Pr, nm_Pr, rfl, by decide, (kt1 147 rfl rfl)⟩
theorem fg_Ke_200 : k_fld gS kT "GuestKernel" 200 11 2 2 rf_Pr := ⟨4, 3, "GuestKernel$Processor", "GuestKernel$Processor", "time", "I", T_Pr, rfl, rfl, in_Pr, rfl, by decide, (kt1 148 rfl rfl)⟩
theorem fp_Ke_200 : k_fldP gS kT "GuestKernel" 200 11 2 2 rf_Pr := ⟨4, 3, "GuestKernel$Processor", "GuestKernel$Processor", "time", T_Pr, ty_Pr, rfl, rfl, in_Pr, tk_Pr, nm_Pr, rfl, by decide, (kt1 148 rfl rfl)⟩
theorem fg_Lo_12 : k_fld gS kT "GuestKernel$Lock" 12 15 0 4 rf_Lo := ⟨6, 2, "GuestKernel$Lock", "GuestKernel$Lock", "waiting", "LGuestKernel$Row;", T_Lo, rfl, rfl, in_Lo, rfl, by decide, (kt1 163 rfl rfl)⟩
theorem fg_Ke_135 : k_fld gS kT "GuestKernel" 135 15 0 4 rf_Lo := ⟨6, 2, "GuestKernel$Lock", "GuestKernel$Lock", "waiting", "LGuestKernel$Row;", T_Lo, rfl, rfl, in_Lo, rfl, by decide, (kt1 164 rfl rfl)⟩
theorem fg_Lo_18 : k_fld gS kT "GuestKernel$Lock" 18 15 1 4 rf_Lo := ⟨6, 2, "GuestKernel$Lock", "GuestKernel$Lock", "holder", "I", T_Lo, rfl, rfl, in_Lo, rfl, by decide, (kt1 165 rfl rfl)⟩
theorem fp_Lo_18 : k_fldP gS kT "GuestKernel$Lock" 18 15 1 4 rf_Lo := ⟨6, 2, "GuestKernel$Lock", "GuestKernel$Lock", "holder", T_Lo, ty_Lo, rfl, rfl, in_Lo, tk_Lo, nm_Lo, rfl, by decide, (kt1 165 rfl rfl)⟩
theorem fg_Ke_132 : k_fld gS kT "GuestKernel" 132 15 1 4 rf_Lo := ⟨6, 2, "GuestKernel$Lock", "GuestKernel$Lock", "holder", "I", T_Lo, rfl, rfl, in_Lo, rfl, by decide, (kt1 166 rfl rfl)⟩
theorem fp_Ke_132 : k_fldP gS kT "GuestKernel" 132 15 1 4 rf_Lo := ⟨6, 2, "GuestKernel$Lock", "GuestKernel$Lock", "holder", T_Lo, ty_Lo, rfl, rfl, in_Lo, tk_Lo, nm_Lo, rfl, by decide, (kt1 166 rfl rfl)⟩
theorem fg_Ch_12 : k_fld gS kT "GuestKernel$Channel" 12 17 0 4 rf_Ch := ⟨7, 4, "GuestKernel$Channel", "GuestKernel$Channel", "senders", "LGuestKernel$Row;", T_Ch, rfl, rfl, in_Ch, rfl, by decide, (kt1 179 rfl rfl)⟩
theorem fg_Ke_145 : k_fld gS kT "GuestKernel" 145 17 0 4 rf_Ch := ⟨7, 4, "GuestKernel$Channel", "GuestKernel$Channel", "senders", "LGuestKernel$Row;", T_Ch, rfl, rfl, in_Ch, rfl, by decide, (kt1 180 rfl rfl)⟩
theorem fg_Ch_18 : k_fld gS kT "GuestKernel$Channel" 18 17 1 4 rf_Ch := ⟨7, 4, "GuestKernel$Channel", "GuestKernel$Channel", "receivers", "LGuestKernel$Row;", T_Ch, rfl, rfl, in_Ch, rfl, by decide, (kt1 181 rfl rfl)⟩
theorem fg_Ke_148 : k_fld gS kT "GuestKernel" 148 17 1 4 rf_Ch := ⟨7, 4, "GuestKernel$Channel", "GuestKernel$Channel", "receivers", "LGuestKernel$Row;", T_Ch, rfl, rfl, in_Ch, rfl, by decide, (kt1 182 rfl rfl)⟩
theorem fg_Ch_21 : k_fld gS kT "GuestKernel$Channel" 21 17 2 4 rf_Ch := ⟨7, 4, "GuestKernel$Channel", "GuestKernel$Channel", "ints", "[I", T_Ch, rfl, rfl, in_Ch, rfl, by decide, (kt1 183 rfl rfl)⟩
theorem fg_Ch_25 : k_fld gS kT "GuestKernel$Channel" 25 17 3 4 rf_Ch := ⟨7, 4, "GuestKernel$Channel", "GuestKernel$Channel", "size", "I", T_Ch, rfl, rfl, in_Ch, rfl, by decide, (kt1 184 rfl rfl)⟩
theorem fp_Ch_25 : k_fldP gS kT "GuestKernel$Channel" 25 17 3 4 rf_Ch := ⟨7, 4, "GuestKernel$Channel", "GuestKernel$Channel", "size", T_Ch, ty_Ch, rfl, rfl, in_Ch, tk_Ch, nm_Ch, rfl, by decide, (kt1 184 rfl rfl)⟩
theorem fg_Ke_144 : k_fld gS kT "GuestKernel" 144 17 3 4 rf_Ch := ⟨7, 4, "GuestKernel$Channel", "GuestKernel$Channel", "size", "I", T_Ch, rfl, rfl, in_Ch, rfl, by decide, (kt1 185 rfl rfl)⟩
theorem fp_Ke_144 : k_fldP gS kT "GuestKernel" 144 17 3 4 rf_Ch := ⟨7, 4, "GuestKernel$Channel", "GuestKernel$Channel", "size", T_Ch, ty_Ch, rfl, rfl, in_Ch, tk_Ch, nm_Ch, rfl, by decide, (kt1 185 rfl rfl)⟩
theorem fg_Ke_12 : k_fld gS kT "GuestKernel" 12 0 0 1 rf_Ke := ⟨0, 13, "GuestKernel", "GuestKernel", "program", "LGuestKernel$Program;", T_Ke, rfl, rfl, in_Ke, rfl, by decide, (kt1 217 rfl rfl)⟩
theorem fg_Ke_19 : k_fld gS kT "GuestKernel" 19 0 1 1 rf_Ke := ⟨0, 13, "GuestKernel", "GuestKernel", "frames", "LGuestKernel$Frames;", T_Ke, rfl, rfl, in_Ke, rfl, by decide, (kt1 218 rfl rfl)⟩
theorem fg_Ke_25 : k_fld gS kT "GuestKernel" 25 0 2 1 rf_Ke := ⟨0, 13, "GuestKernel", "GuestKernel", "guests", "[LGuestKernel$Guest;", T_Ke, rfl, rfl, in_Ke, rfl, by decide, (kt1 219 rfl rfl)⟩
theorem fg_Ke_31 : k_fld gS kT "GuestKernel" 31 0 3 1 rf_Ke := ⟨0, 13, "GuestKernel", "GuestKernel", "processors", "[LGuestKernel$Processor;", T_Ke, rfl, rfl, in_Ke, rfl, by decide, (kt1 220 rfl rfl)⟩
theorem fg_Ke_37 : k_fld gS kT "GuestKernel" 37 0 4 1 rf_Ke := ⟨0, 13, "GuestKernel", "GuestKernel", "locks", "[LGuestKernel$Lock;", T_Ke, rfl, rfl, in_Ke, rfl, by decide, (kt1 221 rfl rfl)⟩
theorem fg_Ke_43 : k_fld gS kT "GuestKernel" 43 0 5 1 rf_Ke := ⟨0, 13, "GuestKernel", "GuestKernel", "channels", "[LGuestKernel$Channel;", T_Ke, rfl, rfl, in_Ke, rfl, by decide, (kt1 222 rfl rfl)⟩
theorem fg_Ke_83 : k_fld gS kT "GuestKernel" 83 0 6 1 rf_Ke := ⟨0, 13, "GuestKernel", "GuestKernel", "ticks", "I", T_Ke, rfl, rfl, in_Ke, rfl, by decide, (kt1 223 rfl rfl)⟩
theorem fp_Ke_83 : k_fldP gS kT "GuestKernel" 83 0 6 1 rf_Ke := ⟨0, 13, "GuestKernel", "GuestKernel", "ticks", T_Ke, ty_Ke, rfl, rfl, in_Ke, tk_Ke, nm_Ke, rfl, by decide, (kt1 223 rfl rfl)⟩
theorem fg_Ke_154 : k_fld gS kT "GuestKernel" 154 0 7 1 rf_Ke := ⟨0, 13, "GuestKernel", "GuestKernel", "instructions", "I", T_Ke, rfl, rfl, in_Ke, rfl, by decide, (kt1 224 rfl rfl)⟩
theorem fp_Ke_154 : k_fldP gS kT "GuestKernel" 154 0 7 1 rf_Ke := ⟨0, 13, "GuestKernel", "GuestKernel", "instructions", T_Ke, ty_Ke, rfl, rfl, in_Ke, tk_Ke, nm_Ke, rfl, by decide, (kt1 224 rfl rfl)⟩
theorem fg_Ke_157 : k_fld gS kT "GuestKernel" 157 0 8 1 rf_Ke := ⟨0, 13, "GuestKernel", "GuestKernel", "trapped", "I", T_Ke, rfl, rfl, in_Ke, rfl, by decide, (kt1 225 rfl rfl)⟩
theorem fp_Ke_157 : k_fldP gS kT "GuestKernel" 157 0 8 1 rf_Ke := ⟨0, 13, "GuestKernel", "GuestKernel", "trapped", T_Ke, ty_Ke, rfl, rfl, in_Ke, tk_Ke, nm_Ke, rfl, by decide, (kt1 225 rfl rfl)⟩
theorem fg_Ke_158 : k_fld gS kT "GuestKernel" 158 0 9 1 rf_Ke := ⟨0, 13, "GuestKernel", "GuestKernel", "spawned", "I", T_Ke, rfl, rfl, in_Ke, rfl, by decide, (kt1 226 rfl rfl)⟩
theorem fp_Ke_158 : k_fldP gS kT "GuestKernel" 158 0 9 1 rf_Ke := ⟨0, 13, "GuestKernel", "GuestKernel", "spawned", T_Ke, ty_Ke, rfl, rfl, in_Ke, tk_Ke, nm_Ke, rfl, by decide, (kt1 226 rfl rfl)⟩
theorem fg_Ke_161 : k_fld gS kT "GuestKernel" 161 0 10 1 rf_Ke := ⟨0, 13, "GuestKernel", "GuestKernel", "reaped", "I", T_Ke, rfl, rfl, in_Ke, rfl, by decide, (kt1 227 rfl rfl)⟩
theorem fp_Ke_161 : k_fldP gS kT "GuestKernel" 161 0 10 1 rf_Ke := ⟨0, 13, "GuestKernel", "GuestKernel", "reaped", T_Ke, ty_Ke, rfl, rfl, in_Ke, tk_Ke, nm_Ke, rfl, by decide, (kt1 227 rfl rfl)⟩
theorem fg_Ke_167 : k_fld gS kT "GuestKernel" 167 0 11 1 rf_Ke := ⟨0, 13, "GuestKernel", "GuestKernel", "idle", "I", T_Ke, rfl, rfl, in_Ke, rfl, by decide, (kt1 228 rfl rfl)⟩
theorem fp_Ke_167 : k_fldP gS kT "GuestKernel" 167 0 11 1 rf_Ke := ⟨0, 13, "GuestKernel", "GuestKernel", "idle", T_Ke, ty_Ke, rfl, rfl, in_Ke, tk_Ke, nm_Ke, rfl, by decide, (kt1 228 rfl rfl)⟩
theorem fg_Ke_170 : k_fld gS kT "GuestKernel" 170 0 12 1 rf_Ke := ⟨0, 13, "GuestKernel", "GuestKernel", "taken", "I", T_Ke, rfl, rfl, in_Ke, rfl, by decide, (kt1 229 rfl rfl)⟩
theorem fp_Ke_170 : k_fldP gS kT "GuestKernel" 170 0 12 1 rf_Ke := ⟨0, 13, "GuestKernel", "GuestKernel", "taken", T_Ke, ty_Ke, rfl, rfl, in_Ke, tk_Ke, nm_Ke, rfl, by decide, (kt1 229 rfl rfl)⟩
theorem fg_Mo_7 : k_fld mS kT "GuestKernelModel" 7 0 0 1 rf_Mo := ⟨0, 33, "GuestKernelModel", "GuestKernelModel", "op", "[I", T_Mo, rfl, rfl, in_Mo, rfl, by decide, (kt3 112 rfl rfl)⟩
theorem fg_Mo_13 : k_fld mS kT "GuestKernelModel" 13 0 1 1 rf_Mo := ⟨0, 33, "GuestKernelModel", "GuestKernelModel", "first", "[I", T_Mo, rfl, rfl, in_Mo, rfl, by decide, (kt3 113 rfl rfl)⟩
theorem fg_Mo_16 : k_fld mS kT "GuestKernelModel" 16 0 2 1 rf_Mo := ⟨0, 33, "GuestKernelModel", "GuestKernelModel", "second", "[I", T_Mo, rfl, rfl, in_Mo, rfl, by decide, (kt3 114 rfl rfl)⟩
theorem fg_Mo_19 : k_fld mS kT "GuestKernelModel" 19 0 3 1 rf_Mo := ⟨0, 33, "GuestKernelModel", "GuestKernelModel", "third", "[I", T_Mo, rfl, rfl, in_Mo, rfl, by decide, (kt3 115 rfl rfl)⟩
theorem fg_Mo_22 : k_fld mS kT "GuestKernelModel" 22 0 4 1 rf_Mo := ⟨0, 33, "GuestKernelModel", "GuestKernelModel", "state", "[I", T_Mo, rfl, rfl, in_Mo, rfl, by decide, (kt3 116 rfl rfl)⟩
theorem fg_Mo_25 : k_fld mS kT "GuestKernelModel" 25 0 5 1 rf_Mo := ⟨0, 33, "GuestKernelModel", "GuestKernelModel", "place", "[I", T_Mo, rfl, rfl, in_Mo, rfl, by decide, (kt3 117 rfl rfl)⟩
theorem fg_Mo_28 : k_fld mS kT "GuestKernelModel" 28 0 6 1 rf_Mo := ⟨0, 33, "GuestKernelModel", "GuestKernelModel", "handler", "[I", T_Mo, rfl, rfl, in_Mo, rfl, by decide, (kt3 118 rfl rfl)⟩
theorem fg_Mo_31 : k_fld mS kT "GuestKernelModel" 31 0 7 1 rf_Mo := ⟨0, 33, "GuestKernelModel", "GuestKernelModel", "quota", "[I", T_Mo, rfl, rfl, in_Mo, rfl, by decide, (kt3 119 rfl rfl)⟩
theorem fg_Mo_34 : k_fld mS kT "GuestKernelModel" 34 0 8 1 rf_Mo := ⟨0, 33, "GuestKernelModel", "GuestKernelModel", "used", "[I", T_Mo, rfl, rfl, in_Mo, rfl, by decide, (kt3 120 rfl rfl)⟩
theorem fg_Mo_37 : k_fld mS kT "GuestKernelModel" 37 0 9 1 rf_Mo := ⟨0, 33, "GuestKernelModel", "GuestKernelModel", "given", "[I", T_Mo, rfl, rfl, in_Mo, rfl, by decide, (kt3 121 rfl rfl)⟩
theorem fg_Mo_40 : k_fld mS kT "GuestKernelModel" 40 0 10 1 rf_Mo := ⟨0, 33, "GuestKernelModel", "GuestKernelModel", "parent", "[I", T_Mo, rfl, rfl, in_Mo, rfl, by decide, (kt3 122 rfl rfl)⟩
theorem fg_Mo_43 : k_fld mS kT "GuestKernelModel" 43 0 11 1 rf_Mo := ⟨0, 33, "GuestKernelModel", "GuestKernelModel", "outcome", "[I", T_Mo, rfl, rfl, in_Mo, rfl, by decide, (kt3 123 rfl rfl)⟩
theorem fg_Mo_46 : k_fld mS kT "GuestKernelModel" 46 0 12 1 rf_Mo := ⟨0, 33, "GuestKernelModel", "GuestKernelModel", "traps", "[I", T_Mo, rfl, rfl, in_Mo, rfl, by decide, (kt3 124 rfl rfl)⟩
theorem fg_Mo_49 : k_fld mS kT "GuestKernelModel" 49 0 13 1 rf_Mo := ⟨0, 33, "GuestKernelModel", "GuestKernelModel", "carried", "[I", T_Mo, rfl, rfl, in_Mo, rfl, by decide, (kt3 125 rfl rfl)⟩
theorem fg_Mo_52 : k_fld mS kT "GuestKernelModel" 52 0 14 1 rf_Mo := ⟨0, 33, "GuestKernelModel", "GuestKernelModel", "register", "[I", T_Mo, rfl, rfl, in_Mo, rfl, by decide, (kt3 126 rfl rfl)⟩
theorem fg_Mo_55 : k_fld mS kT "GuestKernelModel" 55 0 15 1 rf_Mo := ⟨0, 33, "GuestKernelModel", "GuestKernelModel", "page", "[I", T_Mo, rfl, rfl, in_Mo, rfl, by decide, (kt3 127 rfl rfl)⟩
theorem fg_Mo_58 : k_fld mS kT "GuestKernelModel" 58 0 16 1 rf_Mo := ⟨0, 33, "GuestKernelModel", "GuestKernelModel", "memory", "[I", T_Mo, rfl, rfl, in_Mo, rfl, by decide, (kt3 128 rfl rfl)⟩
theorem fg_Mo_61 : k_fld mS kT "GuestKernelModel" 61 0 17 1 rf_Mo := ⟨0, 33, "GuestKernelModel", "GuestKernelModel", "taken", "[Z", T_Mo, rfl, rfl, in_Mo, rfl, by decide, (kt3 129 rfl rfl)⟩
theorem fg_Mo_65 : k_fld mS kT "GuestKernelModel" 65 0 18 1 rf_Mo := ⟨0, 33, "GuestKernelModel", "GuestKernelModel", "row", "[I", T_Mo, rfl, rfl, in_Mo, rfl, by decide, (kt3 130 rfl rfl)⟩
theorem fg_Mo_68 : k_fld mS kT "GuestKernelModel" 68 0 19 1 rf_Mo := ⟨0, 33, "GuestKernelModel", "GuestKernelModel", "size", "[I", T_Mo, rfl, rfl, in_Mo, rfl, by decide, (kt3 131 rfl rfl)⟩
theorem fg_Mo_71 : k_fld mS kT "GuestKernelModel" 71 0 20 1 rf_Mo := ⟨0, 33, "GuestKernelModel", "GuestKernelModel", "channel", "[I", T_Mo, rfl, rfl, in_Mo, rfl, by decide, (kt3 132 rfl rfl)⟩
theorem fg_Mo_74 : k_fld mS kT "GuestKernelModel" 74 0 21 1 rf_Mo := ⟨0, 33, "GuestKernelModel", "GuestKernelModel", "held", "[I", T_Mo, rfl, rfl, in_Mo, rfl, by decide, (kt3 133 rfl rfl)⟩
theorem fg_Mo_77 : k_fld mS kT "GuestKernelModel" 77 0 22 1 rf_Mo := ⟨0, 33, "GuestKernelModel", "GuestKernelModel", "holder", "[I", T_Mo, rfl, rfl, in_Mo, rfl, by decide, (kt3 134 rfl rfl)⟩
theorem fg_Mo_80 : k_fld mS kT "GuestKernelModel" 80 0 23 1 rf_Mo := ⟨0, 33, "GuestKernelModel", "GuestKernelModel", "hand", "[I", T_Mo, rfl, rfl, in_Mo, rfl, by decide, (kt3 135 rfl rfl)⟩
theorem fg_Mo_83 : k_fld mS kT "GuestKernelModel" 83 0 24 1 rf_Mo := ⟨0, 33, "GuestKernelModel", "GuestKernelModel", "time", "[I", T_Mo, rfl, rfl, in_Mo, rfl, by decide, (kt3 136 rfl rfl)⟩
theorem fg_Mo_165 : k_fld mS kT "GuestKernelModel" 165 0 25 1 rf_Mo := ⟨0, 33, "GuestKernelModel", "GuestKernelModel", "ticks", "I", T_Mo, rfl, rfl, in_Mo, rfl, by decide, (kt3 137 rfl rfl)⟩
theorem fp_Mo_165 : k_fldP mS kT "GuestKernelModel" 165 0 25 1 rf_Mo := ⟨0, 33, "GuestKernelModel", "GuestKernelModel", "ticks", T_Mo, ty_Mo, rfl, rfl, in_Mo, tk_Mo, nm_Mo, rfl, by decide, (kt3 137 rfl rfl)⟩
theorem fg_Mo_155 : k_fld mS kT "GuestKernelModel" 155 0 26 1 rf_Mo := ⟨0, 33, "GuestKernelModel", "GuestKernelModel", "done", "I", T_Mo, rfl, rfl, in_Mo, rfl, by decide, (kt3 138 rfl rfl)⟩
theorem fp_Mo_155 : k_fldP mS kT "GuestKernelModel" 155 0 26 1 rf_Mo := ⟨0, 33, "GuestKernelModel", "GuestKernelModel", "done", T_Mo, ty_Mo, rfl, rfl, in_Mo, tk_Mo, nm_Mo, rfl, by decide, (kt3 138 rfl rfl)⟩
theorem fg_Mo_116 : k_fld mS kT "GuestKernelModel" 116 0 27 1 rf_Mo := ⟨0, 33, "GuestKernelModel", "GuestKernelModel", "allTraps", "I", T_Mo, rfl, rfl, in_Mo, rfl, by decide, (kt3 139 rfl rfl)⟩
theorem fp_Mo_116 : k_fldP mS kT "GuestKernelModel" 116 0 27 1 rf_Mo := ⟨0, 33, "GuestKernelModel", "GuestKernelModel", "allTraps", T_Mo, ty_Mo, rfl, rfl, in_Mo, tk_Mo, nm_Mo, rfl, by decide, (kt3 139 rfl rfl)⟩
theorem fg_Mo_122 : k_fld mS kT "GuestKernelModel" 122 0 28 1 rf_Mo := ⟨0, 33, "GuestKernelModel", "GuestKernelModel", "spawned", "I", T_Mo, rfl, rfl, in_Mo, rfl, by decide, (kt3 140 rfl rfl)⟩
theorem fp_Mo_122 : k_fldP mS kT "GuestKernelModel" 122 0 28 1 rf_Mo := ⟨0, 33, "GuestKernelModel", "GuestKernelModel", "spawned", T_Mo, ty_Mo, rfl, rfl, in_Mo, tk_Mo, nm_Mo, rfl, by decide, (kt3 140 rfl rfl)⟩
theorem fg_Mo_125 : k_fld mS kT "GuestKernelModel" 125 0 29 1 rf_Mo := ⟨0, 33, "GuestKernelModel", "GuestKernelModel", "reaped", "I", T_Mo, rfl, rfl, in_Mo, rfl, by decide, (kt3 141 rfl rfl)⟩
theorem fp_Mo_125 : k_fldP mS kT "GuestKernelModel" 125 0 29 1 rf_Mo := ⟨0, 33, "GuestKernelModel", "GuestKernelModel", "reaped", T_Mo, ty_Mo, rfl, rfl, in_Mo, tk_Mo, nm_Mo, rfl, by decide, (kt3 141 rfl rfl)⟩
theorem fg_Mo_171 : k_fld mS kT "GuestKernelModel" 171 0 30 1 rf_Mo := ⟨0, 33, "GuestKernelModel", "GuestKernelModel", "idle", "I", T_Mo, rfl, rfl, in_Mo, rfl, by decide, (kt3 142 rfl rfl)⟩
theorem fp_Mo_171 : k_fldP mS kT "GuestKernelModel" 171 0 30 1 rf_Mo := ⟨0, 33, "GuestKernelModel", "GuestKernelModel", "idle", T_Mo, ty_Mo, rfl, rfl, in_Mo, tk_Mo, nm_Mo, rfl, by decide, (kt3 142 rfl rfl)⟩
theorem fg_Mo_168 : k_fld mS kT "GuestKernelModel" 168 0 31 1 rf_Mo := ⟨0, 33, "GuestKernelModel", "GuestKernelModel", "chosen", "I", T_Mo, rfl, rfl, in_Mo, rfl, by decide, (kt3 143 rfl rfl)⟩
theorem fp_Mo_168 : k_fldP mS kT "GuestKernelModel" 168 0 31 1 rf_Mo := ⟨0, 33, "GuestKernelModel", "GuestKernelModel", "chosen", T_Mo, ty_Mo, rfl, rfl, in_Mo, tk_Mo, nm_Mo, rfl, by decide, (kt3 143 rfl rfl)⟩
theorem fg_Mo_90 : k_fld mS kT "GuestKernelModel" 90 0 32 1 rf_Mo := ⟨0, 33, "GuestKernelModel", "GuestKernelModel", "thrown", "I", T_Mo, rfl, rfl, in_Mo, rfl, by decide, (kt3 144 rfl rfl)⟩
theorem fp_Mo_90 : k_fldP mS kT "GuestKernelModel" 90 0 32 1 rf_Mo := ⟨0, 33, "GuestKernelModel", "GuestKernelModel", "thrown", T_Mo, ty_Mo, rfl, rfl, in_Mo, tk_Mo, nm_Mo, rfl, by decide, (kt3 144 rfl rfl)⟩
