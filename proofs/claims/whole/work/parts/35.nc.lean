/-! ===== MAKING (3): the constructors (written by a program out of the listing) ===== -/
def gS0 : kS := (gCl, gAt, [])
def mS0 : kS := (mCl, mAt, [])
def y_Ob_init : MethodName := ⟨"java/lang/Object", "<init>", "()V"⟩
abbrev b_Ob_init : ByteArray := object_method_1_code
theorem d_Ob_init_0 : decode b_Ob_init 0 = .ok (.return_, 1) := by decide +kernel
theorem n_nf {X : kX} {n1 n2 pc : Nat} {lv : List (Nat × Value)} {st : List Value} {a z : Nat} {t : va_E} {L : List va_E} (t2 : va_E) (L2 : List va_E) (h1 : t = t2) (h2 : L = L2) (k : n_W X n1 n2 pc lv st a z t2 L2) : n_W X n1 n2 pc lv st a z t L := by
  subst h1
  subst h2
  exact k
theorem n_ct {X : kX} {n1 n2 m1 m2 pc : Nat} {lv : List (Nat × Value)} {st : List Value} {a z : Nat} {t : va_E} {L : List va_E} (h1 : n1 = m1) (h2 : n2 = m2) (k : n_W X m1 m2 pc lv st a z t L) : n_W X n1 n2 pc lv st a z t L := by
  subst h1
  subst h2
  exact k
theorem ra_int : ∀ (U : State) (cA cB : ClassId), va_RA U cB .int → U.vm.findClass ("[" ++ FieldType.int.toString) = some cA → cA = cB := fun U cA cB h1 h2 => Option.some.inj (h2.symm.trans h1)
theorem ra_bool : ∀ (U : State) (cA cB : ClassId), va_RA U cB .boolean → U.vm.findClass ("[" ++ FieldType.boolean.toString) = some cA → cA = cB := fun U cA cB h1 h2 => Option.some.inj (h2.symm.trans h1)
theorem d_Gu_init_0 : decode b_Gu_init 0 = .ok (.aload_n 0, 1) := by decide +kernel
theorem d_Gu_init_1 : decode b_Gu_init 1 = .ok (.invokespecial 3, 3) := by decide +kernel
theorem d_Gu_init_4 : decode b_Gu_init 4 = .ok (.aload_n 0, 1) := by decide +kernel
theorem d_Gu_init_5 : decode b_Gu_init 5 = .ok (.iconst 4, 1) := by decide +kernel
theorem d_Gu_init_6 : decode b_Gu_init 6 = .ok (.newarray .int, 2) := by decide +kernel
theorem d_Gu_init_8 : decode b_Gu_init 8 = .ok (.putfield 9, 3) := by decide +kernel
theorem d_Gu_init_11 : decode b_Gu_init 11 = .ok (.aload_n 0, 1) := by decide +kernel
theorem d_Gu_init_12 : decode b_Gu_init 12 = .ok (.iconst 4, 1) := by decide +kernel
theorem d_Gu_init_13 : decode b_Gu_init 13 = .ok (.newarray .int, 2) := by decide +kernel
theorem d_Gu_init_15 : decode b_Gu_init 15 = .ok (.putfield 15, 3) := by decide +kernel
theorem d_Gu_init_18 : decode b_Gu_init 18 = .ok (.aload_n 0, 1) := by decide +kernel
theorem d_Gu_init_19 : decode b_Gu_init 19 = .ok (.iconst (-1), 1) := by decide +kernel
theorem d_Gu_init_20 : decode b_Gu_init 20 = .ok (.putfield 18, 3) := by decide +kernel
theorem d_Gu_init_23 : decode b_Gu_init 23 = .ok (.aload_n 0, 1) := by decide +kernel
theorem d_Gu_init_24 : decode b_Gu_init 24 = .ok (.iload_n 1, 1) := by decide +kernel
theorem d_Gu_init_25 : decode b_Gu_init 25 = .ok (.putfield 22, 3) := by decide +kernel
theorem d_Gu_init_28 : decode b_Gu_init 28 = .ok (.return_, 1) := by decide +kernel
theorem dv_Ke : ∀ j, j < 13 → defaultValue (ty_Ke j) = vp_V [.null, .null, .null, .null, .null, .null, .int 0, .int 0, .int 0, .int 0, .int 0, .int 0, .int 0] j := by
  intro j hj
  match j, hj with
  | 0, _ => rfl
  | 1, _ => rfl
  | 2, _ => rfl
  | 3, _ => rfl
  | 4, _ => rfl
  | 5, _ => rfl
  | 6, _ => rfl
  | 7, _ => rfl
  | 8, _ => rfl
  | 9, _ => rfl
  | 10, _ => rfl
  | 11, _ => rfl
  | 12, _ => rfl
  | k + 13, h => exact absurd h (by omega)
theorem dv_Pg : ∀ j, j < 1 → defaultValue (ty_Pg j) = vp_V [.null] j := by
  intro j hj
  match j, hj with
  | 0, _ => rfl
  | k + 1, h => exact absurd h (by omega)
theorem dv_Fr : ∀ j, j < 3 → defaultValue (ty_Fr j) = vp_V [.null, .null, .int 0] j := by
  intro j hj
  match j, hj with
  | 0, _ => rfl
  | 1, _ => rfl
  | 2, _ => rfl
  | k + 3, h => exact absurd h (by omega)
theorem dv_Gu : ∀ j, j < 13 → defaultValue (ty_Gu j) = vp_V [.int 0, .null, .null, .int 0, .int 0, .int 0, .int 0, .int 0, .int 0, .int 0, .int 0, .int 0, .int 0] j := by
  intro j hj
  match j, hj with
  | 0, _ => rfl
  | 1, _ => rfl
  | 2, _ => rfl
  | 3, _ => rfl
  | 4, _ => rfl
  | 5, _ => rfl
  | 6, _ => rfl
  | 7, _ => rfl
  | 8, _ => rfl
  | 9, _ => rfl
  | 10, _ => rfl
  | 11, _ => rfl
  | 12, _ => rfl
  | k + 13, h => exact absurd h (by omega)
theorem dv_Pr : ∀ j, j < 3 → defaultValue (ty_Pr j) = vp_V [.null, .int 0, .int 0] j := by
  intro j hj
  match j, hj with
  | 0, _ => rfl
  | 1, _ => rfl
  | 2, _ => rfl
  | k + 3, h => exact absurd h (by omega)
theorem dv_Ro : ∀ j, j < 3 → defaultValue (ty_Ro j) = vp_V [.null, .int 0, .int 0] j := by
  intro j hj
  match j, hj with
  | 0, _ => rfl
  | 1, _ => rfl
  | 2, _ => rfl
  | k + 3, h => exact absurd h (by omega)
theorem dv_Lo : ∀ j, j < 2 → defaultValue (ty_Lo j) = vp_V [.null, .int 0] j := by
  intro j hj
  match j, hj with
  | 0, _ => rfl
  | 1, _ => rfl
  | k + 2, h => exact absurd h (by omega)
theorem dv_Ch : ∀ j, j < 4 → defaultValue (ty_Ch j) = vp_V [.null, .null, .null, .int 0] j := by
  intro j hj
  match j, hj with
  | 0, _ => rfl
  | 1, _ => rfl
  | 2, _ => rfl
  | 3, _ => rfl
  | k + 4, h => exact absurd h (by omega)
theorem dv_Mo : ∀ j, j < 33 → defaultValue (ty_Mo j) = vp_V [.null, .null, .null, .null, .null, .null, .null, .null, .null, .null, .null, .null, .null, .null, .null, .null, .null, .null, .null, .null, .null, .null, .null, .null, .null, .int 0, .int 0, .int 0, .int 0, .int 0, .int 0, .int 0, .int 0] j := by
  intro j hj
  match j, hj with
  | 0, _ => rfl
  | 1, _ => rfl
  | 2, _ => rfl
  | 3, _ => rfl
  | 4, _ => rfl
  | 5, _ => rfl
  | 6, _ => rfl
  | 7, _ => rfl
  | 8, _ => rfl
  | 9, _ => rfl
  | 10, _ => rfl
  | 11, _ => rfl
  | 12, _ => rfl
  | 13, _ => rfl
  | 14, _ => rfl
  | 15, _ => rfl
  | 16, _ => rfl
  | 17, _ => rfl
  | 18, _ => rfl
  | 19, _ => rfl
  | 20, _ => rfl
  | 21, _ => rfl
  | 22, _ => rfl
  | 23, _ => rfl
  | 24, _ => rfl
  | 25, _ => rfl
  | 26, _ => rfl
  | 27, _ => rfl
  | 28, _ => rfl
  | 29, _ => rfl
  | 30, _ => rfl
  | 31, _ => rfl
  | 32, _ => rfl
  | k + 33, h => exact absurd h (by omega)
theorem fn_Ro_9 : n_fld gS0 kT "GuestKernel$Row" 9 5 0 (.array .int) true := ⟨3, "GuestKernel$Row", "GuestKernel$Row", "numbers", "[I", T_Ro, ty_Ro, rfl, in_Ro, tk_Ro, nm_Ro, rfl, by decide, rfl, by decide +kernel, (kt1 132 rfl rfl)⟩
set_option maxHeartbeats 4000000 in
set_option maxRecDepth 100000 in
theorem c_Ro_init (l : Launch) (G : kG) (a : Nat) : n_Met l gS0 kT y_Ro_init b_Ro_init 1 (n_rm 1 1 6) G a [] (.inr (5, [.null, .int 0, .int 0])) (fun z => .inr (5, [.ref (z + 0), .int 0, .int 0])) (fun z => [.inl (G.2.1 0, 6, .inl (fun _ => 0))]) 1 6 := by
  intro z
  refine n_intro rfl (by decide +kernel) rfl rfl (Nat.le_of_ble_eq_true rfl) ?_
  intro X C N E
  refine n_aload_n C d_Ro_init_0 rfl ?_
  refine n_obj C ⟨(kt1 131 rfl rfl), (kt1 25 rfl rfl), (kt1 26 rfl rfl)⟩ ⟨by decide, by decide⟩ d_Ro_init_1 ?_
  refine n_aload_n C d_Ro_init_4 rfl ?_
  refine n_bipush C d_Ro_init_5 (v := 6) (by decide) ?_
  refine n_newa C N (ty := .int) (t0 := 0) (n := 6) (j := 0) d_Ro_init_7 rfl rfl (kt1 37 rfl rfl) rfl ra_int (by decide) (by decide) (by decide) ⟨by decide, by decide⟩ rfl ?_
  refine n_put C N d_Ro_init_9 fn_Ro_9 rfl rfl (Nat.le_of_ble_eq_true rfl) ?_
  exact n_return C N E d_Ro_init_12
theorem fn_Pg_11 : n_fld gS0 kT "GuestKernel$Program" 11 1 0 (.array .int) true := ⟨1, "GuestKernel$Program", "GuestKernel$Program", "parts", "[I", T_Pg, ty_Pg, rfl, in_Pg, tk_Pg, nm_Pg, rfl, by decide, rfl, by decide +kernel, (kt1 33 rfl rfl)⟩
set_option maxHeartbeats 4000000 in
set_option maxRecDepth 100000 in
theorem c_Pg_init (l : Launch) (G : kG) (a : Nat) : n_Met l gS0 kT y_Pg_init b_Pg_init 1 (n_rm 1 1 128) G a [] (.inr (1, [.null])) (fun z => .inr (1, [.ref (z + 0)])) (fun z => [.inl (G.2.1 0, 128, .inl (fun _ => 0))]) 1 128 := by
  intro z
  refine n_intro rfl (by decide +kernel) rfl rfl (Nat.le_of_ble_eq_true rfl) ?_
  intro X C N E
  refine n_aload_n C d_Pg_init_0 rfl ?_
  refine n_obj C ⟨(kt1 32 rfl rfl), (kt1 25 rfl rfl), (kt1 26 rfl rfl)⟩ ⟨by decide, by decide⟩ d_Pg_init_1 ?_
  refine n_aload_n C d_Pg_init_4 rfl ?_
  refine n_sipush C d_Pg_init_5 (v := 128) (by decide) ?_
  refine n_newa C N (ty := .int) (t0 := 0) (n := 128) (j := 0) d_Pg_init_8 rfl rfl (kt1 37 rfl rfl) rfl ra_int (by decide) (by decide) (by decide) ⟨by decide, by decide⟩ rfl ?_
  refine n_put C N d_Pg_init_10 fn_Pg_11 rfl rfl (Nat.le_of_ble_eq_true rfl) ?_
  exact n_return C N E d_Pg_init_13
theorem fn_Fr_9 : n_fld gS0 kT "GuestKernel$Frames" 9 2 0 (.array .int) true := ⟨3, "GuestKernel$Frames", "GuestKernel$Frames", "ints", "[I", T_Fr, ty_Fr, rfl, in_Fr, tk_Fr, nm_Fr, rfl, by decide, rfl, by decide +kernel, (kt1 44 rfl rfl)⟩
theorem fn_Fr_15 : n_fld gS0 kT "GuestKernel$Frames" 15 2 1 (.array .boolean) true := ⟨3, "GuestKernel$Frames", "GuestKernel$Frames", "isTaken", "[Z", T_Fr, ty_Fr, rfl, in_Fr, tk_Fr, nm_Fr, rfl, by decide, rfl, by decide +kernel, (kt1 45 rfl rfl)⟩
theorem fn_Fr_19 : n_fld gS0 kT "GuestKernel$Frames" 19 2 2 (.int) false := ⟨3, "GuestKernel$Frames", "GuestKernel$Frames", "free", "I", T_Fr, ty_Fr, rfl, in_Fr, tk_Fr, nm_Fr, rfl, by decide, rfl, by decide +kernel, (kt1 46 rfl rfl)⟩
set_option maxHeartbeats 4000000 in
set_option maxRecDepth 100000 in
theorem c_Fr_init (l : Launch) (G : kG) (a : Nat) : n_Met l gS0 kT y_Fr_init b_Fr_init 1 (n_rm 1 2 108) G a [] (.inr (2, [.null, .null, .int 0])) (fun z => .inr (2, [.ref (z + 0), .ref (z + 1), .int 12])) (fun z => [.inl (G.2.1 0, 96, .inl (fun _ => 0)), .inl (G.2.1 1, 12, .inl (fun _ => 0))]) 2 108 := by
  intro z
  refine n_intro rfl (by decide +kernel) rfl rfl (Nat.le_of_ble_eq_true rfl) ?_
  intro X C N E
  refine n_aload_n C d_Fr_init_0 rfl ?_
  refine n_obj C ⟨(kt1 43 rfl rfl), (kt1 25 rfl rfl), (kt1 26 rfl rfl)⟩ ⟨by decide, by decide⟩ d_Fr_init_1 ?_
  refine n_aload_n C d_Fr_init_4 rfl ?_
  refine n_bipush C d_Fr_init_5 (v := 96) (by decide) ?_
  refine n_newa C N (ty := .int) (t0 := 0) (n := 96) (j := 0) d_Fr_init_7 rfl rfl (kt1 37 rfl rfl) rfl ra_int (by decide) (by decide) (by decide) ⟨by decide, by decide⟩ rfl ?_
  refine n_put C N d_Fr_init_9 fn_Fr_9 rfl rfl (Nat.le_of_ble_eq_true rfl) ?_
  refine n_aload_n C d_Fr_init_12 rfl ?_
  refine n_bipush C d_Fr_init_13 (v := 12) (by decide) ?_
  refine n_newa C N (ty := .boolean) (t0 := 1) (n := 12) (j := 1) d_Fr_init_15 rfl rfl (kt1 55 rfl rfl) rfl ra_bool (by decide) (by decide) (by decide) ⟨by decide, by decide⟩ rfl ?_
  refine n_put C N d_Fr_init_17 fn_Fr_15 rfl rfl (Nat.le_of_ble_eq_true rfl) ?_
  refine n_aload_n C d_Fr_init_20 rfl ?_
  refine n_bipush C d_Fr_init_21 (v := 12) (by decide) ?_
  refine n_put C N d_Fr_init_23 fn_Fr_19 rfl rfl (Nat.le_of_ble_eq_true rfl) ?_
  exact n_return C N E d_Fr_init_26
theorem fn_Gu_9 : n_fld gS0 kT "GuestKernel$Guest" 9 3 1 (.array .int) true := ⟨13, "GuestKernel$Guest", "GuestKernel$Guest", "registers", "[I", T_Gu, ty_Gu, rfl, in_Gu, tk_Gu, nm_Gu, rfl, by decide, rfl, by decide +kernel, (kt1 71 rfl rfl)⟩
theorem fn_Gu_15 : n_fld gS0 kT "GuestKernel$Guest" 15 3 2 (.array .int) true := ⟨13, "GuestKernel$Guest", "GuestKernel$Guest", "pages", "[I", T_Gu, ty_Gu, rfl, in_Gu, tk_Gu, nm_Gu, rfl, by decide, rfl, by decide +kernel, (kt1 73 rfl rfl)⟩
theorem fn_Gu_18 : n_fld gS0 kT "GuestKernel$Guest" 18 3 3 (.int) false := ⟨13, "GuestKernel$Guest", "GuestKernel$Guest", "state", "I", T_Gu, ty_Gu, rfl, in_Gu, tk_Gu, nm_Gu, rfl, by decide, rfl, by decide +kernel, (kt1 75 rfl rfl)⟩
theorem fn_Gu_22 : n_fld gS0 kT "GuestKernel$Guest" 22 3 0 (.int) true := ⟨13, "GuestKernel$Guest", "GuestKernel$Guest", "number", "I", T_Gu, ty_Gu, rfl, in_Gu, tk_Gu, nm_Gu, rfl, by decide, rfl, by decide +kernel, (kt1 69 rfl rfl)⟩
set_option maxHeartbeats 4000000 in
set_option maxRecDepth 100000 in
theorem c_Gu_init (l : Launch) (G : kG) (a : Nat) (n : Int32): n_Met l gS0 kT y_Gu_init b_Gu_init 2 (n_rm 1 2 8) G a [.int n] (.inr (3, [.int 0, .null, .null, .int 0, .int 0, .int 0, .int 0, .int 0, .int 0, .int 0, .int 0, .int 0, .int 0])) (fun z => .inr (3, [.int n, .ref (z + 0), .ref (z + 1), .int (-1), .int 0, .int 0, .int 0, .int 0, .int 0, .int 0, .int 0, .int 0, .int 0])) (fun z => [.inl (G.2.1 0, 4, .inl (fun _ => 0)), .inl (G.2.1 0, 4, .inl (fun _ => 0))]) 2 8 := by
  intro z
  refine n_intro rfl (by decide +kernel) rfl rfl (Nat.le_of_ble_eq_true rfl) ?_
  intro X C N E
  refine n_aload_n C d_Gu_init_0 rfl ?_
  refine n_obj C ⟨(kt1 68 rfl rfl), (kt1 25 rfl rfl), (kt1 26 rfl rfl)⟩ ⟨by decide, by decide⟩ d_Gu_init_1 ?_
  refine n_aload_n C d_Gu_init_4 rfl ?_
  refine n_iconst C d_Gu_init_5 (v := 4) (by decide) ?_
  refine n_newa C N (ty := .int) (t0 := 0) (n := 4) (j := 0) d_Gu_init_6 rfl rfl (kt1 37 rfl rfl) rfl ra_int (by decide) (by decide) (by decide) ⟨by decide, by decide⟩ rfl ?_
  refine n_put C N d_Gu_init_8 fn_Gu_9 rfl rfl (Nat.le_of_ble_eq_true rfl) ?_
  refine n_aload_n C d_Gu_init_11 rfl ?_
  refine n_iconst C d_Gu_init_12 (v := 4) (by decide) ?_
  refine n_newa C N (ty := .int) (t0 := 0) (n := 4) (j := 1) d_Gu_init_13 rfl rfl (kt1 37 rfl rfl) rfl ra_int (by decide) (by decide) (by decide) ⟨by decide, by decide⟩ rfl ?_
  refine n_put C N d_Gu_init_15 fn_Gu_15 rfl rfl (Nat.le_of_ble_eq_true rfl) ?_
  refine n_aload_n C d_Gu_init_18 rfl ?_
  refine n_iconst C d_Gu_init_19 (v := (-1)) (by decide) ?_
  refine n_put C N d_Gu_init_20 fn_Gu_18 rfl rfl (Nat.le_of_ble_eq_true rfl) ?_
  refine n_aload_n C d_Gu_init_23 rfl ?_
  refine n_iload_n C d_Gu_init_24 rfl ?_
  refine n_put C N d_Gu_init_25 fn_Gu_22 rfl rfl (Nat.le_of_ble_eq_true rfl) ?_
  exact n_return C N E d_Gu_init_28
theorem fn_Pr_12 : n_fld gS0 kT "GuestKernel$Processor" 12 4 0 (.object "GuestKernel$Row") true := ⟨3, "GuestKernel$Processor", "GuestKernel$Processor", "ready", "LGuestKernel$Row;", T_Pr, ty_Pr, rfl, in_Pr, tk_Pr, nm_Pr, rfl, by decide, rfl, by decide +kernel, (kt1 144 rfl rfl)⟩
theorem fn_Pr_18 : n_fld gS0 kT "GuestKernel$Processor" 18 4 1 (.int) false := ⟨3, "GuestKernel$Processor", "GuestKernel$Processor", "atHand", "I", T_Pr, ty_Pr, rfl, in_Pr, tk_Pr, nm_Pr, rfl, by decide, rfl, by decide +kernel, (kt1 146 rfl rfl)⟩
set_option maxHeartbeats 4000000 in
set_option maxRecDepth 100000 in
theorem c_Pr_init (l : Launch) (G : kG) (a : Nat) : n_Met l gS0 kT y_Pr_init b_Pr_init 1 (n_rm 2 2 9) G a [] (.inr (4, [.null, .int 0, .int 0])) (fun z => .inr (4, [.ref (z + 0), .int (-1), .int 0])) (fun z => [.inr (5, [.ref (z + 1), .int 0, .int 0]), .inl (G.2.1 0, 6, .inl (fun _ => 0))]) 2 9 := by
  intro z
  refine n_intro rfl (by decide +kernel) rfl rfl (Nat.le_of_ble_eq_true rfl) ?_
  intro X C N E
  refine n_aload_n C d_Pr_init_0 rfl ?_
  refine n_obj C ⟨(kt1 125 rfl rfl), (kt1 25 rfl rfl), (kt1 26 rfl rfl)⟩ ⟨by decide, by decide⟩ d_Pr_init_1 ?_
  refine n_aload_n C d_Pr_init_4 rfl ?_
  refine n_new C N (ci := 5) (n := 3) (j := 0) d_Pr_init_5 rfl in_Ro tk_Ro ⟨(kt1 126 rfl rfl), (kt1 127 rfl rfl), (kt1 6 rfl rfl)⟩ dv_Ro ⟨by decide, by decide⟩ rfl ?_
  refine n_dup C d_Pr_init_8 rfl ?_
  refine n_callN (host := "GuestKernel") C N kg_all (j := 0) (len := 1) (c_Ro_init l G _ ) (kt1 130 rfl rfl) (Or.inr (fun U h => h.1.2.2.2.1)) (kt1 6 rfl rfl) (kt1 129 rfl rfl) rfl ⟨by decide, by decide, by decide +kernel⟩ rfl rfl rfl rfl (Nat.le_of_ble_eq_true rfl) ⟨rfl, rfl⟩ ⟨by decide, by decide⟩ ⟨by decide, by decide⟩ d_Pr_init_9 ?_
  refine n_nf (.inr (4, [.null, .int 0, .int 0])) [.inr (5, [.ref (z + 1), .int 0, .int 0]), .inl (G.2.1 0, 6, .inl (fun _ => 0))] rfl rfl ?_
  refine n_ct (m1 := 2) (m2 := 9) rfl rfl ?_
  refine n_put C N d_Pr_init_12 fn_Pr_12 rfl rfl (Nat.le_of_ble_eq_true rfl) ?_
  refine n_aload_n C d_Pr_init_15 rfl ?_
  refine n_iconst C d_Pr_init_16 (v := (-1)) (by decide) ?_
  refine n_put C N d_Pr_init_17 fn_Pr_18 rfl rfl (Nat.le_of_ble_eq_true rfl) ?_
  exact n_return C N E d_Pr_init_20
theorem fn_Lo_12 : n_fld gS0 kT "GuestKernel$Lock" 12 6 0 (.object "GuestKernel$Row") true := ⟨2, "GuestKernel$Lock", "GuestKernel$Lock", "waiting", "LGuestKernel$Row;", T_Lo, ty_Lo, rfl, in_Lo, tk_Lo, nm_Lo, rfl, by decide, rfl, by decide +kernel, (kt1 163 rfl rfl)⟩
theorem fn_Lo_18 : n_fld gS0 kT "GuestKernel$Lock" 18 6 1 (.int) false := ⟨2, "GuestKernel$Lock", "GuestKernel$Lock", "holder", "I", T_Lo, ty_Lo, rfl, in_Lo, tk_Lo, nm_Lo, rfl, by decide, rfl, by decide +kernel, (kt1 165 rfl rfl)⟩
set_option maxHeartbeats 4000000 in
set_option maxRecDepth 100000 in
theorem c_Lo_init (l : Launch) (G : kG) (a : Nat) : n_Met l gS0 kT y_Lo_init b_Lo_init 1 (n_rm 2 2 9) G a [] (.inr (6, [.null, .int 0])) (fun z => .inr (6, [.ref (z + 0), .int (-1)])) (fun z => [.inr (5, [.ref (z + 1), .int 0, .int 0]), .inl (G.2.1 0, 6, .inl (fun _ => 0))]) 2 9 := by
  intro z
  refine n_intro rfl (by decide +kernel) rfl rfl (Nat.le_of_ble_eq_true rfl) ?_
  intro X C N E
  refine n_aload_n C d_Lo_init_0 rfl ?_
  refine n_obj C ⟨(kt1 160 rfl rfl), (kt1 25 rfl rfl), (kt1 26 rfl rfl)⟩ ⟨by decide, by decide⟩ d_Lo_init_1 ?_
  refine n_aload_n C d_Lo_init_4 rfl ?_
  refine n_new C N (ci := 5) (n := 3) (j := 0) d_Lo_init_5 rfl in_Ro tk_Ro ⟨(kt1 161 rfl rfl), (kt1 127 rfl rfl), (kt1 6 rfl rfl)⟩ dv_Ro ⟨by decide, by decide⟩ rfl ?_
  refine n_dup C d_Lo_init_8 rfl ?_
  refine n_callN (host := "GuestKernel") C N kg_all (j := 0) (len := 1) (c_Ro_init l G _ ) (kt1 130 rfl rfl) (Or.inr (fun U h => h.1.2.2.2.2.2.1)) (kt1 6 rfl rfl) (kt1 129 rfl rfl) rfl ⟨by decide, by decide, by decide +kernel⟩ rfl rfl rfl rfl (Nat.le_of_ble_eq_true rfl) ⟨rfl, rfl⟩ ⟨by decide, by decide⟩ ⟨by decide, by decide⟩ d_Lo_init_9 ?_
  refine n_nf (.inr (6, [.null, .int 0])) [.inr (5, [.ref (z + 1), .int 0, .int 0]), .inl (G.2.1 0, 6, .inl (fun _ => 0))] rfl rfl ?_
  refine n_ct (m1 := 2) (m2 := 9) rfl rfl ?_
  refine n_put C N d_Lo_init_12 fn_Lo_12 rfl rfl (Nat.le_of_ble_eq_true rfl) ?_
  refine n_aload_n C d_Lo_init_15 rfl ?_
  refine n_iconst C d_Lo_init_16 (v := (-1)) (by decide) ?_
  refine n_put C N d_Lo_init_17 fn_Lo_18 rfl rfl (Nat.le_of_ble_eq_true rfl) ?_
  exact n_return C N E d_Lo_init_20
theorem fn_Ch_12 : n_fld gS0 kT "GuestKernel$Channel" 12 7 0 (.object "GuestKernel$Row") true := ⟨4, "GuestKernel$Channel", "GuestKernel$Channel", "senders", "LGuestKernel$Row;", T_Ch, ty_Ch, rfl, in_Ch, tk_Ch, nm_Ch, rfl, by decide, rfl, by decide +kernel, (kt1 179 rfl rfl)⟩
theorem fn_Ch_18 : n_fld gS0 kT "GuestKernel$Channel" 18 7 1 (.object "GuestKernel$Row") true := ⟨4, "GuestKernel$Channel", "GuestKernel$Channel", "receivers", "LGuestKernel$Row;", T_Ch, ty_Ch, rfl, in_Ch, tk_Ch, nm_Ch, rfl, by decide, rfl, by decide +kernel, (kt1 181 rfl rfl)⟩
theorem fn_Ch_21 : n_fld gS0 kT "GuestKernel$Channel" 21 7 2 (.array .int) true := ⟨4, "GuestKernel$Channel", "GuestKernel$Channel", "ints", "[I", T_Ch, ty_Ch, rfl, in_Ch, tk_Ch, nm_Ch, rfl, by decide, rfl, by decide +kernel, (kt1 183 rfl rfl)⟩
set_option maxHeartbeats 4000000 in
set_option maxRecDepth 100000 in
theorem c_Ch_init (l : Launch) (G : kG) (a : Nat) : n_Met l gS0 kT y_Ch_init b_Ch_init 1 (n_rm 2 5 20) G a [] (.inr (7, [.null, .null, .null, .int 0])) (fun z => .inr (7, [.ref (z + 0), .ref (z + 2), .ref (z + 4), .int 0])) (fun z => [.inr (5, [.ref (z + 1), .int 0, .int 0]), .inl (G.2.1 0, 6, .inl (fun _ => 0)), .inr (5, [.ref (z + 3), .int 0, .int 0]), .inl (G.2.1 0, 6, .inl (fun _ => 0)), .inl (G.2.1 0, 2, .inl (fun _ => 0))]) 5 20 := by
  intro z
  refine n_intro rfl (by decide +kernel) rfl rfl (Nat.le_of_ble_eq_true rfl) ?_
  intro X C N E
  refine n_aload_n C d_Ch_init_0 rfl ?_
  refine n_obj C ⟨(kt1 176 rfl rfl), (kt1 25 rfl rfl), (kt1 26 rfl rfl)⟩ ⟨by decide, by decide⟩ d_Ch_init_1 ?_
  refine n_aload_n C d_Ch_init_4 rfl ?_
  refine n_new C N (ci := 5) (n := 3) (j := 0) d_Ch_init_5 rfl in_Ro tk_Ro ⟨(kt1 177 rfl rfl), (kt1 127 rfl rfl), (kt1 6 rfl rfl)⟩ dv_Ro ⟨by decide, by decide⟩ rfl ?_
  refine n_dup C d_Ch_init_8 rfl ?_
  refine n_callN (host := "GuestKernel") C N kg_all (j := 0) (len := 1) (c_Ro_init l G _ ) (kt1 130 rfl rfl) (Or.inr (fun U h => h.1.2.2.2.2.2.2.2)) (kt1 6 rfl rfl) (kt1 129 rfl rfl) rfl ⟨by decide, by decide, by decide +kernel⟩ rfl rfl rfl rfl (Nat.le_of_ble_eq_true rfl) ⟨rfl, rfl⟩ ⟨by decide, by decide⟩ ⟨by decide, by decide⟩ d_Ch_init_9 ?_
  refine n_nf (.inr (7, [.null, .null, .null, .int 0])) [.inr (5, [.ref (z + 1), .int 0, .int 0]), .inl (G.2.1 0, 6, .inl (fun _ => 0))] rfl rfl ?_
  refine n_ct (m1 := 2) (m2 := 9) rfl rfl ?_
  refine n_put C N d_Ch_init_12 fn_Ch_12 rfl rfl (Nat.le_of_ble_eq_true rfl) ?_
  refine n_aload_n C d_Ch_init_15 rfl ?_
  refine n_new C N (ci := 5) (n := 3) (j := 2) d_Ch_init_16 rfl in_Ro tk_Ro ⟨(kt1 177 rfl rfl), (kt1 127 rfl rfl), (kt1 6 rfl rfl)⟩ dv_Ro ⟨by decide, by decide⟩ rfl ?_
  refine n_dup C d_Ch_init_19 rfl ?_
  refine n_callN (host := "GuestKernel") C N kg_all (j := 2) (len := 3) (c_Ro_init l G _ ) (kt1 130 rfl rfl) (Or.inr (fun U h => h.1.2.2.2.2.2.2.2)) (kt1 6 rfl rfl) (kt1 129 rfl rfl) rfl ⟨by decide, by decide, by decide +kernel⟩ rfl rfl rfl rfl (Nat.le_of_ble_eq_true rfl) ⟨rfl, rfl⟩ ⟨by decide, by decide⟩ ⟨by decide, by decide⟩ d_Ch_init_20 ?_
  refine n_nf (.inr (7, [.ref (z + 0), .null, .null, .int 0])) [.inr (5, [.ref (z + 1), .int 0, .int 0]), .inl (G.2.1 0, 6, .inl (fun _ => 0)), .inr (5, [.ref (z + 3), .int 0, .int 0]), .inl (G.2.1 0, 6, .inl (fun _ => 0))] rfl rfl ?_
  refine n_ct (m1 := 4) (m2 := 18) rfl rfl ?_
  refine n_put C N d_Ch_init_23 fn_Ch_18 rfl rfl (Nat.le_of_ble_eq_true rfl) ?_
  refine n_aload_n C d_Ch_init_26 rfl ?_
  refine n_iconst C d_Ch_init_27 (v := 2) (by decide) ?_
  refine n_newa C N (ty := .int) (t0 := 0) (n := 2) (j := 4) d_Ch_init_28 rfl rfl (kt1 37 rfl rfl) rfl ra_int (by decide) (by decide) (by decide) ⟨by decide, by decide⟩ rfl ?_
  refine n_put C N d_Ch_init_30 fn_Ch_21 rfl rfl (Nat.le_of_ble_eq_true rfl) ?_
  exact n_return C N E d_Ch_init_33
