/-! ===== the constructors ===== -/
def clp (x : Int32) (M : Nat) : Nat := if x < nI 1 then 1 else if nI M < x then M else x.toNatClampNeg
theorem clp_in {x : Int32} {M : Nat} (h1 : 1 ≤ M) (hM : M < 2 ^ 31) : 1 ≤ clp x M ∧ clp x M ≤ M := by
  unfold clp
  split
  · exact ⟨Nat.le_refl 1, h1⟩
  · rename_i a
    split
    · exact ⟨h1, Nat.le_refl M⟩
    · rename_i b
      have a' := i_le_of a
      have b' := i_le_of b
      rw [Int32.le_iff_toInt_le, nI_toInt (by decide)] at a'
      rw [Int32.le_iff_toInt_le, nI_toInt hM] at b'
      obtain ⟨j, hj, rfl⟩ := nI_of (x := x) (fun z => by rw [Int32.lt_iff_toInt_lt] at z; have h0 : (0 : Int32).toInt = 0 := by decide +kernel
                                                         omega)
      rw [nI_toInt hj] at a' b'
      rw [nI_clamp hj]
      omega
theorem clp_lo {x : Int32} {M : Nat} (h : ¬ nI 1 ≤ x) : clp x M = 1 := if_pos (i_lt_of h)
theorem nlt_of {x y : Int32} (h : y ≤ x) : ¬ x < y := fun z => by
  rw [Int32.lt_iff_toInt_lt] at z; rw [Int32.le_iff_toInt_le] at h; omega
theorem clp_hi {x : Int32} {M : Nat} (h1 : nI 1 ≤ x) (h : ¬ x ≤ nI M) : clp x M = M := by
  unfold clp
  rw [if_neg (nlt_of h1), if_pos (i_lt_of h)]
theorem clp_mid {x : Int32} {M : Nat} (h1 : nI 1 ≤ x) (h : x ≤ nI M) : nI (clp x M) = x := by
  unfold clp
  rw [if_neg (nlt_of h1), if_neg (nlt_of h)]
  obtain ⟨j, hj, rfl⟩ := nI_of (x := x) (fun z => by
    rw [Int32.lt_iff_toInt_lt] at z; rw [Int32.le_iff_toInt_le, nI_toInt (by decide)] at h1
    have h0 : (0 : Int32).toInt = 0 := by decide +kernel
    omega)
  rw [nI_clamp hj]
theorem clp_X {x : Int32} {M : Nat} (hM1 : 1 ≤ M) (hM : M < 2 ^ 31) : (if nI 1 < (if nI M < x then nI M else x) then (if nI M < x then nI M else x) else nI 1) = nI (clp x M) := by
  by_cases h : nI M < x
  · rw [if_pos h]
    have h1 : nI 1 ≤ x := by
      rw [Int32.lt_iff_toInt_lt, nI_toInt hM] at h
      rw [Int32.le_iff_toInt_le, nI_toInt (by decide)]
      omega
    rw [clp_hi h1 (fun z => nlt_of z h)]
    split
    · rfl
    · rename_i q
      rcases Nat.lt_or_ge 1 M with r | r
      · exact absurd (nI_lt r hM) q
      · rw [show M = 1 by omega]
  · rw [if_neg h]
    by_cases h1 : nI 1 ≤ x
    · rw [clp_mid h1 (i_le_of h)]
      split
      · rfl
      · rename_i q
        have q' := i_le_of q
        exact Int32.toInt_inj.mp (by rw [Int32.le_iff_toInt_le] at h1 q'; omega)
    · rw [clp_lo h1, if_neg (nlt_of (by have := i_lt_of h1; rw [Int32.lt_iff_toInt_lt] at this; rw [Int32.le_iff_toInt_le]; omega))]
abbrev zBlank : List Value := [.int 0, .int 0, .int 0, .null, .null, .null, .null, .null, .null, .int 0, .int 0, .int 0]
def a00 : AS := oInit (fun _ _ => nI 0, fun _ _ => nI 0, fun _ => nI 0, fun _ => 0, fun _ => nI 0, fun _ => nI 0, 0, nI 0, nI 0)
abbrev u00 : CS := (fun _ => 0, fun _ => 0, fun _ => 0, fun _ => 0, fun _ => 0, fun _ => 0, 0, 0, 0)
abbrev zA0 (ci o sz : Nat) : Nat → Prop := va_A [(o, .inr (ci, zBlank))] sz
/-- the contract of a constructor: six rows are made -/
def zMC (l : Launch) (y : MethodName) (ws : List Cond) (rm : Room) (dC : Nat → ClassId) (dI : Nat → Nat → Nat) (ci o : Nat) (av : List Value) (post : GE → CS → Prop) : Prop :=
  ∀ sz, Met l y ws rm (va_Pc (.ref o :: av) (fun U => U.heap.size = sz ∧ va_P (dC, dI) vwCl [(o, .inr (ci, zBlank))] U.heap ∧ va_K (dC, dI) vwCl [] U ∧ va_D (fun _ => True) [(o, .inr (ci, zBlank))])) (va_Qv (fun gu : GE × CS => ga0 gu.1 = o ∧ post gu.1 gu.2) (fun gu t => zB dC dI ci gu.1 (zA0 ci o sz) gu.2 t) (zA0 ci o sz)) 6 1984 (zA0 ci o sz)
theorem zMC_of {l : Launch} {y : MethodName} {ws ws' : List Cond} {rm : Room} {dC : Nat → ClassId} {dI : Nat → Nat → Nat} {ci o : Nat} {av : List Value} {post : GE → CS → Prop} {cc : ByteArray} {maxL : Nat} (hy : plainName y.cls = true) (hyi : y.name = "<init>") (hw : ws = Cond.code y cc maxL none :: ws') (hln : (lg_sl (.ref o :: av)).length ≤ maxL)
    (body : ∀ (p : Program) (e : Env) (s : State) (m : MethodId) (below : List Frame) (meth : Method) (c : Code) (A : Nat → Prop) (ls : Array Slot), zC p s m (Value.ref o :: av).toArray meth c cc maxL none ws y.cls → meth.name = "<init>" → va_P (dC, dI) vwCl [(o, .inr (ci, zBlank))] s.heap → va_K (dC, dI) vwCl [] s → va_D A [(o, .inr (ci, zBlank))] → (∀ q : Nat, s.heap.size ≤ q → A q) → lv_has ls maxL (lv_args 0 (.ref o :: av)) →
      W p l e rm s m (Value.ref o :: av).toArray below meth c s.heap [] 0 0 (MQ below (va_Qv (fun gu : GE × CS => ga0 gu.1 = o ∧ post gu.1 gu.2) (fun gu t => zB dC dI ci gu.1 A gu.2 t) A) (Value.ref o :: av).toArray s 6 1984 A) (F0 m 0 ls [])) : zMC l y ws rm dC dI ci o av post := by
  intro sz
  refine Met.ofW (cc := cc) (maxL := maxL) (ret := none) hy hw ?_
  intro p e s m args below meth c s₁ B hml hv
  obtain ⟨rfl, hsz, hP, hK, hD0⟩ := hv
  subst hsz
  have hD := hD0.self (sz := s.heap.size)
  have hl := lv_entry (.ref o :: av) (n := maxL) hln
  rw [lg_entry_eq]
  exact body p e s m below meth c _ _ ⟨B.exec, B.bytes, hml, findClass_of_methodNamed B.named, atoms_spec (ws := ws) B.pre, B.returns, B.notSynchronized⟩ ((name_of_methodNamed B.named B.method).1.trans hyi) hP hK hD (fun q h => Or.inr h) hl
set_option maxHeartbeats 4000000 in
theorem kX0_within (l : Launch) (x : Int32) {M : Nat} (hM1 : 1 ≤ M) (hM : M < 2 ^ 31) : Met l yX0_within wsX0_within ({ frames := 1, cells := 0, slots := 0, locals := 14 }) (va_Pc [.int x, .int (nI M)] (fun _ => True)) (va_Qi (fun (r : Int32) (_ : Unit) => r = nI (clp x M)) (fun _ _ => True) (fun _ => False)) 0 0 (fun _ => False) := by
  refine Met.ofW (cc := cX0_within) (maxL := 2) (ret := (some .int)) (by decide) rfl ?_
  intro p e s m args below meth c s₁ B hml hv
  obtain ⟨rfl, -⟩ := hv
  have hx := B.exec
  have hb := B.bytes
  have hr := B.returns
  have hts := atoms_spec (ws := wsX0_within) B.pre
  have hown : s.vm.findClass RX0 = some m.cls := findClass_of_methodNamed B.named
  have hlocks := B.notSynchronized
  have hl := lv_entry ([.int x, .int (nI M)]) (n := 2) (Nat.le_of_ble_eq_true rfl)
  rw [lg_entry_eq]
  generalize (lg_sl ([.int x, .int (nI M)]) ++ List.replicate (2 - (lg_sl ([.int x, .int (nI M)])).length) Slot.unset).toArray = ls at hl ⊢
  have hl : lv_has ls 2 [(0, .int x), (1, .int (nI M))] := hl
  refine lv_iconst (v := nI 1) hx hb dX0_within_0 (by decide) ?_
  refine lv_iload_n hx hb dX0_within_1 rfl (lv_at hl 0 rfl) ?_
  refine lv_iload_n hx hb dX0_within_2 rfl (lv_at hl 1 rfl) ?_
  refine va_mmin hx hb (hml.trans hl.1.symm) hown (hts _ (List.mem_of_getElem? (i := 1) rfl)) (hts _ (List.mem_of_getElem? (i := 2) rfl)) (hts _ (List.mem_of_getElem? (i := 3) rfl)) (hts _ (List.mem_of_getElem? (i := 4) rfl)) (Nat.le_of_ble_eq_true rfl) (Nat.le_of_ble_eq_true rfl) (Nat.zero_le _) (Nat.zero_le _) dX0_within_3 ?_
  refine va_mmax hx hb (hml.trans hl.1.symm) hown (hts _ (List.mem_of_getElem? (i := 5) rfl)) (hts _ (List.mem_of_getElem? (i := 6) rfl)) (hts _ (List.mem_of_getElem? (i := 3) rfl)) (hts _ (List.mem_of_getElem? (i := 7) rfl)) (Nat.le_of_ble_eq_true rfl) (Nat.le_of_ble_eq_true rfl) (Nat.zero_le _) (Nat.zero_le _) dX0_within_6 ?_
  exact W.iret hx hb hr (fun t ht hW => ⟨⟨_, (), rfl, clp_X hM1 hM, trivial⟩, by rw [ht]; exact Nat.le_refl _, fun q _ _ => by rw [ht]⟩) (fun q h => by cases h) dX0_within_9

set_option maxHeartbeats 800000 in
set_option maxRecDepth 100000 in
theorem kX0_init (l : Launch) (dC : Nat → ClassId) (dI : Nat → Nat → Nat) (o : Nat) (x y z : Int32) : zMC l yX0_init wsX0_init ({ frames := 2, cells := 6, slots := 1984, locals := 42 }) dC dI 0 o [.int x, .int y, .int z] (fun g u1 => geF g = clp x 32 ∧ geP g = clp y 200 ∧ geW g = clp z 8 ∧ geS g = geW g ∧ Rep g 0 a00 u1) := by
  refine zMC_of (cc := cX0_init) (maxL := 4) (by decide) rfl rfl (Nat.le_of_ble_eq_true rfl) ?_
  intro p e s m below meth c A ls Z hnm hP hK hD hA hl
  obtain ⟨hx, hb, hml, hown, hts, hr, hlocks⟩ := id Z
  have hown : s.vm.findClass RX0 = some m.cls := hown
  have hin : ∀ w ∈ wsX00, w ∈ wsX0_init := fun w h => List.mem_cons_of_mem _ (List.mem_append_right _ h)
  have hS : va_S A s.heap s.heap [] := va_S.rf
  have hl : lv_has ls 4 [(0, .ref o), (1, .int x), (2, .int y), (3, .int z)] := hl
  obtain ⟨F, eF⟩ : ∃ F, F = clp x 32 := ⟨_, rfl⟩
  obtain ⟨P, eP⟩ : ∃ P, P = clp y 200 := ⟨_, rfl⟩
  obtain ⟨V, eV⟩ : ∃ V, V = clp z 8 := ⟨_, rfl⟩
  obtain ⟨F1, F2⟩ : 1 ≤ F ∧ F ≤ 32 := by rw [eF]; exact clp_in (by decide) (by decide)
  obtain ⟨P1, P2⟩ : 1 ≤ P ∧ P ≤ 200 := by rw [eP]; exact clp_in (by decide) (by decide)
  obtain ⟨V1, V2⟩ : 1 ≤ V ∧ V ≤ 8 := by rw [eV]; exact clp_in (by decide) (by decide)
  have hPV : P * V ≤ 1600 := Nat.le_trans (Nat.mul_le_mul P2 V2) (by decide)
  have hFV : F * V ≤ 256 := Nat.le_trans (Nat.mul_le_mul F2 V2) (by decide)
  refine lv_aload_n hx hb dX0_init_0 rfl (lv_at hl 0 rfl) ?_
  refine W.objInit hx hb hown (hts _ (List.mem_of_getElem? (i := 1) rfl)) (hts _ (List.mem_of_getElem? (i := 2) rfl)) (hts _ (List.mem_of_getElem? (i := 3) rfl)) rfl (by rw [hml]; exact hl.1) rfl dX0_init_1 (Nat.le_of_ble_eq_true rfl) (Nat.le_of_ble_eq_true rfl) ?_
  refine W.eq (g2 := F0 m 4 ls []) rfl ?_
  refine lv_aload_n hx hb dX0_init_4 rfl (lv_at hl 0 rfl) ?_
  refine lv_iload_n hx hb dX0_init_5 rfl (lv_at hl 1 rfl) ?_
  refine lv_bipush (v := nI 32) hx hb dX0_init_6 (by decide) ?_
  refine va_calli (va_runS (As := [.int x, .int (nI 32)]) (rest := [.ref o]) ⟨hx, hb, hml, hown, hts⟩ (kX0_within l x (M := 32) (by decide) (by decide)) (va_cwS 2 hts gX0_init_X0_within rfl rfl rfl (by decide +kernel) ⟨Nat.le_of_ble_eq_true rfl, Nat.le_of_ble_eq_true rfl⟩) ⟨fun a U g mk q => q, fun U hU hW => ⟨rfl, trivial⟩⟩ rfl rfl hl.1 rfl (lv_room (Nat.le_of_ble_eq_true rfl)) dX0_init_8 ⟨Nat.zero_le _, Nat.zero_le _⟩) hS (fun q _ h => h.elim) (fun q h => h.elim) (fun r8 u t Hq lq ht hvm hw hB hz1 hk1 hS => ?_)
  have hP := hP.kept (H1 := Hq) (fun k q hk => hk1 q.1 ((hP k q hk).lt) (fun z => z.elim))
  rw [← eF] at hw
  subst hw
  refine va_putF (D := (dC, dI)) (ci := 0) (v := .int (nI (F))) (ty := .int) (C := RX0) (T := TX0) (N := 12) hx hb hts hin tyX0 tyX0_ok nmX0 hown hK hP hD hS 0 rfl rfl 0 (by decide) (hts (.fieldLink RX0 13 "FramePool" "frameCount" "I") (by decide +kernel)) (fun _ h9 => h9) rfl hnm rfl (by decide +kernel) rfl rfl (Nat.le_of_ble_eq_true rfl) dX0_init_11 (fun Hq lq hP hD hS => ?_)
  have hP : va_P (dC, dI) vwCl [(o, .inr (0, [.int (nI (F)), .int 0, .int 0, .null, .null, .null, .null, .null, .null, .int 0, .int 0, .int 0]))] Hq := hP
  have hD : va_D A [(o, .inr (0, [.int (nI (F)), .int 0, .int 0, .null, .null, .null, .null, .null, .null, .int 0, .int 0, .int 0]))] := hD
  refine lv_aload_n hx hb dX0_init_14 rfl (lv_at hl 0 rfl) ?_
  refine lv_iload_n hx hb dX0_init_15 rfl (lv_at hl 2 rfl) ?_
  refine lv_sipush (v := nI 200) hx hb dX0_init_16 (by decide) ?_
  refine va_calli (va_runS (As := [.int y, .int (nI 200)]) (rest := [.ref o]) ⟨hx, hb, hml, hown, hts⟩ (kX0_within l y (M := 200) (by decide) (by decide)) (va_cwS 2 hts gX0_init_X0_within rfl rfl rfl (by decide +kernel) ⟨Nat.le_of_ble_eq_true rfl, Nat.le_of_ble_eq_true rfl⟩) ⟨fun a U g mk q => q, fun U hU hW => ⟨rfl, trivial⟩⟩ rfl rfl hl.1 rfl (lv_room (Nat.le_of_ble_eq_true rfl)) dX0_init_19 ⟨Nat.zero_le _, Nat.zero_le _⟩) hS (fun q _ h => h.elim) (fun q h => h.elim) (fun r19 u t Hq lq ht hvm hw hB hz1 hk1 hS => ?_)
  have hP := hP.kept (H1 := Hq) (fun k q hk => hk1 q.1 ((hP k q hk).lt) (fun z => z.elim))
  rw [← eP] at hw
  subst hw
  refine va_putF (D := (dC, dI)) (ci := 0) (v := .int (nI (P))) (ty := .int) (C := RX0) (T := TX0) (N := 12) hx hb hts hin tyX0 tyX0_ok nmX0 hown hK hP hD hS 0 rfl rfl 1 (by decide) (hts (.fieldLink RX0 17 "FramePool" "pageCount" "I") (by decide +kernel)) (fun _ h9 => h9) rfl hnm rfl (by decide +kernel) rfl rfl (Nat.le_of_ble_eq_true rfl) dX0_init_22 (fun Hq lq hP hD hS => ?_)
  have hP : va_P (dC, dI) vwCl [(o, .inr (0, [.int (nI (F)), .int (nI (P)), .int 0, .null, .null, .null, .null, .null, .null, .int 0, .int 0, .int 0]))] Hq := hP
  have hD : va_D A [(o, .inr (0, [.int (nI (F)), .int (nI (P)), .int 0, .null, .null, .null, .null, .null, .null, .int 0, .int 0, .int 0]))] := hD
  refine lv_aload_n hx hb dX0_init_25 rfl (lv_at hl 0 rfl) ?_
  refine lv_iload_n hx hb dX0_init_26 rfl (lv_at hl 3 rfl) ?_
  refine lv_bipush (v := nI 8) hx hb dX0_init_27 (by decide) ?_
  refine va_calli (va_runS (As := [.int z, .int (nI 8)]) (rest := [.ref o]) ⟨hx, hb, hml, hown, hts⟩ (kX0_within l z (M := 8) (by decide) (by decide)) (va_cwS 2 hts gX0_init_X0_within rfl rfl rfl (by decide +kernel) ⟨Nat.le_of_ble_eq_true rfl, Nat.le_of_ble_eq_true rfl⟩) ⟨fun a U g mk q => q, fun U hU hW => ⟨rfl, trivial⟩⟩ rfl rfl hl.1 rfl (lv_room (Nat.le_of_ble_eq_true rfl)) dX0_init_29 ⟨Nat.zero_le _, Nat.zero_le _⟩) hS (fun q _ h => h.elim) (fun q h => h.elim) (fun r29 u t Hq lq ht hvm hw hB hz1 hk1 hS => ?_)
  have hP := hP.kept (H1 := Hq) (fun k q hk => hk1 q.1 ((hP k q hk).lt) (fun z => z.elim))
  rw [← eV] at hw
  subst hw
  refine va_putF (D := (dC, dI)) (ci := 0) (v := .int (nI (V))) (ty := .int) (C := RX0) (T := TX0) (N := 12) hx hb hts hin tyX0 tyX0_ok nmX0 hown hK hP hD hS 0 rfl rfl 2 (by decide) (hts (.fieldLink RX0 20 "FramePool" "wordCount" "I") (by decide +kernel)) (fun _ h9 => h9) rfl hnm rfl (by decide +kernel) rfl rfl (Nat.le_of_ble_eq_true rfl) dX0_init_32 (fun Hq lq hP hD hS => ?_)
  have hP : va_P (dC, dI) vwCl [(o, .inr (0, [.int (nI (F)), .int (nI (P)), .int (nI (V)), .null, .null, .null, .null, .null, .null, .int 0, .int 0, .int 0]))] Hq := hP
  have hD : va_D A [(o, .inr (0, [.int (nI (F)), .int (nI (P)), .int (nI (V)), .null, .null, .null, .null, .null, .null, .int 0, .int 0, .int 0]))] := hD
  refine lv_aload_n hx hb dX0_init_35 rfl (lv_at hl 0 rfl) ?_
  refine lv_aload_n hx hb dX0_init_36 rfl (lv_at hl 0 rfl) ?_
  refine va_get (D := (dC, dI)) (ci := 0) (v := .int (nI (P))) (C := RX0) (T := TX0) (N := 12) hx hb hts hin hown hK hP 0 rfl rfl 1 (by decide) (hts (.fieldLink RX0 17 "FramePool" "pageCount" "I") (by decide +kernel)) (fun _ h9 => h9) rfl dX0_init_37 ?_
  refine lv_aload_n hx hb dX0_init_40 rfl (lv_at hl 0 rfl) ?_
  refine va_get (D := (dC, dI)) (ci := 0) (v := .int (nI (V))) (C := RX0) (T := TX0) (N := 12) hx hb hts hin hown hK hP 0 rfl rfl 2 (by decide) (hts (.fieldLink RX0 20 "FramePool" "wordCount" "I") (by decide +kernel)) (fun _ h9 => h9) rfl dX0_init_41 ?_
  refine lv_imul hx hb dX0_init_44 ?_
  refine z_top (nI (P * V)) (pk_mul _ _) ?_
  refine va_newa (atype := .int) (a0 := (P * V, .inl (fun _ => 0))) (N' := P * V) (ty := .int) hx hb (hts (.arrayClass .int) (by decide +kernel)) rfl hK hP hD hS hA (fun _ => rfl) (nI_pos (by omega)) (nI_clamp (by omega)) (by show (P * V) * 4 ≤ 536870912; omega) (Nat.le_of_ble_eq_true rfl) (by show _ ≤ 1984; omega) dX0_init_45 (fun q3 c3 Hq hK hP hD hS => ?_)
  have hP : va_P (dC, dI) vwCl [(o, .inr (0, [.int (nI (F)), .int (nI (P)), .int (nI (V)), .null, .null, .null, .null, .null, .null, .int 0, .int 0, .int 0])), (q3, .inl (c3, P * V, .inl (fun _ => 0)))] Hq := hP
  have hD : va_D A [(o, .inr (0, [.int (nI (F)), .int (nI (P)), .int (nI (V)), .null, .null, .null, .null, .null, .null, .int 0, .int 0, .int 0])), (q3, .inl (c3, P * V, .inl (fun _ => 0)))] := hD
  refine va_putF (D := (dC, dI)) (ci := 0) (v := .ref (q3)) (ty := .array .int) (C := RX0) (T := TX0) (N := 12) hx hb hts hin tyX0 tyX0_ok nmX0 hown hK hP hD hS 0 rfl rfl 3 (by decide) (hts (.fieldLink RX0 23 "FramePool" "diskWords" "[I") (by decide +kernel)) (fun _ h9 => h9) rfl hnm rfl (by decide +kernel) rfl rfl (Nat.le_of_ble_eq_true rfl) dX0_init_47 (fun Hq lq hP hD hS => ?_)
  have hP : va_P (dC, dI) vwCl [(o, .inr (0, [.int (nI (F)), .int (nI (P)), .int (nI (V)), .ref (q3), .null, .null, .null, .null, .null, .int 0, .int 0, .int 0])), (q3, .inl (c3, P * V, .inl (fun _ => 0)))] Hq := hP
  have hD : va_D A [(o, .inr (0, [.int (nI (F)), .int (nI (P)), .int (nI (V)), .ref (q3), .null, .null, .null, .null, .null, .int 0, .int 0, .int 0])), (q3, .inl (c3, P * V, .inl (fun _ => 0)))] := hD
  refine lv_aload_n hx hb dX0_init_50 rfl (lv_at hl 0 rfl) ?_
  refine lv_aload_n hx hb dX0_init_51 rfl (lv_at hl 0 rfl) ?_
  refine va_get (D := (dC, dI)) (ci := 0) (v := .int (nI (F))) (C := RX0) (T := TX0) (N := 12) hx hb hts hin hown hK hP 0 rfl rfl 0 (by decide) (hts (.fieldLink RX0 13 "FramePool" "frameCount" "I") (by decide +kernel)) (fun _ h9 => h9) rfl dX0_init_52 ?_
  refine lv_aload_n hx hb dX0_init_55 rfl (lv_at hl 0 rfl) ?_
  refine va_get (D := (dC, dI)) (ci := 0) (v := .int (nI (V))) (C := RX0) (T := TX0) (N := 12) hx hb hts hin hown hK hP 0 rfl rfl 2 (by decide) (hts (.fieldLink RX0 20 "FramePool" "wordCount" "I") (by decide +kernel)) (fun _ h9 => h9) rfl dX0_init_56 ?_
  refine lv_imul hx hb dX0_init_59 ?_
  refine z_top (nI (F * V)) (pk_mul _ _) ?_
  refine va_newa (atype := .int) (a0 := (F * V, .inl (fun _ => 0))) (N' := F * V) (ty := .int) hx hb (hts (.arrayClass .int) (by decide +kernel)) rfl hK hP hD hS hA (fun _ => rfl) (nI_pos (by omega)) (nI_clamp (by omega)) (by show (F * V) * 4 ≤ 536870912; omega) (Nat.le_of_ble_eq_true rfl) (by show _ ≤ 1984; omega) dX0_init_60 (fun q4 c4 Hq hK hP hD hS => ?_)
  have hP : va_P (dC, dI) vwCl [(o, .inr (0, [.int (nI (F)), .int (nI (P)), .int (nI (V)), .ref (q3), .null, .null, .null, .null, .null, .int 0, .int 0, .int 0])), (q3, .inl (c3, P * V, .inl (fun _ => 0))), (q4, .inl (c4, F * V, .inl (fun _ => 0)))] Hq := hP
  have hD : va_D A [(o, .inr (0, [.int (nI (F)), .int (nI (P)), .int (nI (V)), .ref (q3), .null, .null, .null, .null, .null, .int 0, .int 0, .int 0])), (q3, .inl (c3, P * V, .inl (fun _ => 0))), (q4, .inl (c4, F * V, .inl (fun _ => 0)))] := hD
  refine va_putF (D := (dC, dI)) (ci := 0) (v := .ref (q4)) (ty := .array .int) (C := RX0) (T := TX0) (N := 12) hx hb hts hin tyX0 tyX0_ok nmX0 hown hK hP hD hS 0 rfl rfl 4 (by decide) (hts (.fieldLink RX0 27 "FramePool" "frameWords" "[I") (by decide +kernel)) (fun _ h9 => h9) rfl hnm rfl (by decide +kernel) rfl rfl (Nat.le_of_ble_eq_true rfl) dX0_init_62 (fun Hq lq hP hD hS => ?_)
  have hP : va_P (dC, dI) vwCl [(o, .inr (0, [.int (nI (F)), .int (nI (P)), .int (nI (V)), .ref (q3), .ref (q4), .null, .null, .null, .null, .int 0, .int 0, .int 0])), (q3, .inl (c3, P * V, .inl (fun _ => 0))), (q4, .inl (c4, F * V, .inl (fun _ => 0)))] Hq := hP
  have hD : va_D A [(o, .inr (0, [.int (nI (F)), .int (nI (P)), .int (nI (V)), .ref (q3), .ref (q4), .null, .null, .null, .null, .int 0, .int 0, .int 0])), (q3, .inl (c3, P * V, .inl (fun _ => 0))), (q4, .inl (c4, F * V, .inl (fun _ => 0)))] := hD
  refine lv_aload_n hx hb dX0_init_65 rfl (lv_at hl 0 rfl) ?_
  refine lv_aload_n hx hb dX0_init_66 rfl (lv_at hl 0 rfl) ?_
  refine va_get (D := (dC, dI)) (ci := 0) (v := .int (nI (F))) (C := RX0) (T := TX0) (N := 12) hx hb hts hin hown hK hP 0 rfl rfl 0 (by decide) (hts (.fieldLink RX0 13 "FramePool" "frameCount" "I") (by decide +kernel)) (fun _ h9 => h9) rfl dX0_init_67 ?_
  refine va_newa (atype := .int) (a0 := (F, .inl (fun _ => 0))) (N' := F) (ty := .int) hx hb (hts (.arrayClass .int) (by decide +kernel)) rfl hK hP hD hS hA (fun _ => rfl) (nI_pos (by omega)) (nI_clamp (by omega)) (by show F * 4 ≤ 536870912; omega) (Nat.le_of_ble_eq_true rfl) (by show _ ≤ 1984; omega) dX0_init_70 (fun q5 c5 Hq hK hP hD hS => ?_)
  have hP : va_P (dC, dI) vwCl [(o, .inr (0, [.int (nI (F)), .int (nI (P)), .int (nI (V)), .ref (q3), .ref (q4), .null, .null, .null, .null, .int 0, .int 0, .int 0])), (q3, .inl (c3, P * V, .inl (fun _ => 0))), (q4, .inl (c4, F * V, .inl (fun _ => 0))), (q5, .inl (c5, F, .inl (fun _ => 0)))] Hq := hP
  have hD : va_D A [(o, .inr (0, [.int (nI (F)), .int (nI (P)), .int (nI (V)), .ref (q3), .ref (q4), .null, .null, .null, .null, .int 0, .int 0, .int 0])), (q3, .inl (c3, P * V, .inl (fun _ => 0))), (q4, .inl (c4, F * V, .inl (fun _ => 0))), (q5, .inl (c5, F, .inl (fun _ => 0)))] := hD
  refine va_putF (D := (dC, dI)) (ci := 0) (v := .ref (q5)) (ty := .array .int) (C := RX0) (T := TX0) (N := 12) hx hb hts hin tyX0 tyX0_ok nmX0 hown hK hP hD hS 0 rfl rfl 5 (by decide) (hts (.fieldLink RX0 30 "FramePool" "pageIn" "[I") (by decide +kernel)) (fun _ h9 => h9) rfl hnm rfl (by decide +kernel) rfl rfl (Nat.le_of_ble_eq_true rfl) dX0_init_72 (fun Hq lq hP hD hS => ?_)
  have hP : va_P (dC, dI) vwCl [(o, .inr (0, [.int (nI (F)), .int (nI (P)), .int (nI (V)), .ref (q3), .ref (q4), .ref (q5), .null, .null, .null, .int 0, .int 0, .int 0])), (q3, .inl (c3, P * V, .inl (fun _ => 0))), (q4, .inl (c4, F * V, .inl (fun _ => 0))), (q5, .inl (c5, F, .inl (fun _ => 0)))] Hq := hP
  have hD : va_D A [(o, .inr (0, [.int (nI (F)), .int (nI (P)), .int (nI (V)), .ref (q3), .ref (q4), .ref (q5), .null, .null, .null, .int 0, .int 0, .int 0])), (q3, .inl (c3, P * V, .inl (fun _ => 0))), (q4, .inl (c4, F * V, .inl (fun _ => 0))), (q5, .inl (c5, F, .inl (fun _ => 0)))] := hD
  refine lv_aload_n hx hb dX0_init_75 rfl (lv_at hl 0 rfl) ?_
  refine lv_aload_n hx hb dX0_init_76 rfl (lv_at hl 0 rfl) ?_
  refine va_get (D := (dC, dI)) (ci := 0) (v := .int (nI (F))) (C := RX0) (T := TX0) (N := 12) hx hb hts hin hown hK hP 0 rfl rfl 0 (by decide) (hts (.fieldLink RX0 13 "FramePool" "frameCount" "I") (by decide +kernel)) (fun _ h9 => h9) rfl dX0_init_77 ?_
  refine va_newa (atype := .int) (a0 := (F, .inl (fun _ => 0))) (N' := F) (ty := .int) hx hb (hts (.arrayClass .int) (by decide +kernel)) rfl hK hP hD hS hA (fun _ => rfl) (nI_pos (by omega)) (nI_clamp (by omega)) (by show F * 4 ≤ 536870912; omega) (Nat.le_of_ble_eq_true rfl) (by show _ ≤ 1984; omega) dX0_init_80 (fun q6 c6 Hq hK hP hD hS => ?_)
  have hP : va_P (dC, dI) vwCl [(o, .inr (0, [.int (nI (F)), .int (nI (P)), .int (nI (V)), .ref (q3), .ref (q4), .ref (q5), .null, .null, .null, .int 0, .int 0, .int 0])), (q3, .inl (c3, P * V, .inl (fun _ => 0))), (q4, .inl (c4, F * V, .inl (fun _ => 0))), (q5, .inl (c5, F, .inl (fun _ => 0))), (q6, .inl (c6, F, .inl (fun _ => 0)))] Hq := hP
  have hD : va_D A [(o, .inr (0, [.int (nI (F)), .int (nI (P)), .int (nI (V)), .ref (q3), .ref (q4), .ref (q5), .null, .null, .null, .int 0, .int 0, .int 0])), (q3, .inl (c3, P * V, .inl (fun _ => 0))), (q4, .inl (c4, F * V, .inl (fun _ => 0))), (q5, .inl (c5, F, .inl (fun _ => 0))), (q6, .inl (c6, F, .inl (fun _ => 0)))] := hD
  refine va_putF (D := (dC, dI)) (ci := 0) (v := .ref (q6)) (ty := .array .int) (C := RX0) (T := TX0) (N := 12) hx hb hts hin tyX0 tyX0_ok nmX0 hown hK hP hD hS 0 rfl rfl 6 (by decide) (hts (.fieldLink RX0 33 "FramePool" "pins" "[I") (by decide +kernel)) (fun _ h9 => h9) rfl hnm rfl (by decide +kernel) rfl rfl (Nat.le_of_ble_eq_true rfl) dX0_init_82 (fun Hq lq hP hD hS => ?_)
  have hP : va_P (dC, dI) vwCl [(o, .inr (0, [.int (nI (F)), .int (nI (P)), .int (nI (V)), .ref (q3), .ref (q4), .ref (q5), .ref (q6), .null, .null, .int 0, .int 0, .int 0])), (q3, .inl (c3, P * V, .inl (fun _ => 0))), (q4, .inl (c4, F * V, .inl (fun _ => 0))), (q5, .inl (c5, F, .inl (fun _ => 0))), (q6, .inl (c6, F, .inl (fun _ => 0)))] Hq := hP
  have hD : va_D A [(o, .inr (0, [.int (nI (F)), .int (nI (P)), .int (nI (V)), .ref (q3), .ref (q4), .ref (q5), .ref (q6), .null, .null, .int 0, .int 0, .int 0])), (q3, .inl (c3, P * V, .inl (fun _ => 0))), (q4, .inl (c4, F * V, .inl (fun _ => 0))), (q5, .inl (c5, F, .inl (fun _ => 0))), (q6, .inl (c6, F, .inl (fun _ => 0)))] := hD
  refine lv_aload_n hx hb dX0_init_85 rfl (lv_at hl 0 rfl) ?_
  refine lv_aload_n hx hb dX0_init_86 rfl (lv_at hl 0 rfl) ?_
  refine va_get (D := (dC, dI)) (ci := 0) (v := .int (nI (F))) (C := RX0) (T := TX0) (N := 12) hx hb hts hin hown hK hP 0 rfl rfl 0 (by decide) (hts (.fieldLink RX0 13 "FramePool" "frameCount" "I") (by decide +kernel)) (fun _ h9 => h9) rfl dX0_init_87 ?_
  refine va_newa (atype := .boolean) (a0 := (F, .inl (fun _ => 0))) (N' := F) (ty := .boolean) hx hb (hts (.arrayClass .boolean) (by decide +kernel)) rfl hK hP hD hS hA (fun _ => rfl) (nI_pos (by omega)) (nI_clamp (by omega)) (by show F * 1 ≤ 536870912; omega) (Nat.le_of_ble_eq_true rfl) (by show _ ≤ 1984; omega) dX0_init_90 (fun q7 c7 Hq hK hP hD hS => ?_)
  have hP : va_P (dC, dI) vwCl [(o, .inr (0, [.int (nI (F)), .int (nI (P)), .int (nI (V)), .ref (q3), .ref (q4), .ref (q5), .ref (q6), .null, .null, .int 0, .int 0, .int 0])), (q3, .inl (c3, P * V, .inl (fun _ => 0))), (q4, .inl (c4, F * V, .inl (fun _ => 0))), (q5, .inl (c5, F, .inl (fun _ => 0))), (q6, .inl (c6, F, .inl (fun _ => 0))), (q7, .inl (c7, F, .inl (fun _ => 0)))] Hq := hP
  have hD : va_D A [(o, .inr (0, [.int (nI (F)), .int (nI (P)), .int (nI (V)), .ref (q3), .ref (q4), .ref (q5), .ref (q6), .null, .null, .int 0, .int 0, .int 0])), (q3, .inl (c3, P * V, .inl (fun _ => 0))), (q4, .inl (c4, F * V, .inl (fun _ => 0))), (q5, .inl (c5, F, .inl (fun _ => 0))), (q6, .inl (c6, F, .inl (fun _ => 0))), (q7, .inl (c7, F, .inl (fun _ => 0)))] := hD
  refine va_putF (D := (dC, dI)) (ci := 0) (v := .ref (q7)) (ty := .array .boolean) (C := RX0) (T := TX0) (N := 12) hx hb hts hin tyX0 tyX0_ok nmX0 hown hK hP hD hS 0 rfl rfl 7 (by decide) (hts (.fieldLink RX0 36 "FramePool" "dirty" "[Z") (by decide +kernel)) (fun _ h9 => h9) rfl hnm rfl (by decide +kernel) rfl rfl (Nat.le_of_ble_eq_true rfl) dX0_init_92 (fun Hq lq hP hD hS => ?_)
  have hP : va_P (dC, dI) vwCl [(o, .inr (0, [.int (nI (F)), .int (nI (P)), .int (nI (V)), .ref (q3), .ref (q4), .ref (q5), .ref (q6), .ref (q7), .null, .int 0, .int 0, .int 0])), (q3, .inl (c3, P * V, .inl (fun _ => 0))), (q4, .inl (c4, F * V, .inl (fun _ => 0))), (q5, .inl (c5, F, .inl (fun _ => 0))), (q6, .inl (c6, F, .inl (fun _ => 0))), (q7, .inl (c7, F, .inl (fun _ => 0)))] Hq := hP
  have hD : va_D A [(o, .inr (0, [.int (nI (F)), .int (nI (P)), .int (nI (V)), .ref (q3), .ref (q4), .ref (q5), .ref (q6), .ref (q7), .null, .int 0, .int 0, .int 0])), (q3, .inl (c3, P * V, .inl (fun _ => 0))), (q4, .inl (c4, F * V, .inl (fun _ => 0))), (q5, .inl (c5, F, .inl (fun _ => 0))), (q6, .inl (c6, F, .inl (fun _ => 0))), (q7, .inl (c7, F, .inl (fun _ => 0)))] := hD
  refine lv_aload_n hx hb dX0_init_95 rfl (lv_at hl 0 rfl) ?_
  refine lv_aload_n hx hb dX0_init_96 rfl (lv_at hl 0 rfl) ?_
  refine va_get (D := (dC, dI)) (ci := 0) (v := .int (nI (F))) (C := RX0) (T := TX0) (N := 12) hx hb hts hin hown hK hP 0 rfl rfl 0 (by decide) (hts (.fieldLink RX0 13 "FramePool" "frameCount" "I") (by decide +kernel)) (fun _ h9 => h9) rfl dX0_init_97 ?_
  refine va_newa (atype := .boolean) (a0 := (F, .inl (fun _ => 0))) (N' := F) (ty := .boolean) hx hb (hts (.arrayClass .boolean) (by decide +kernel)) rfl hK hP hD hS hA (fun _ => rfl) (nI_pos (by omega)) (nI_clamp (by omega)) (by show F * 1 ≤ 536870912; omega) (Nat.le_of_ble_eq_true rfl) (by show _ ≤ 1984; omega) dX0_init_100 (fun q8 c8 Hq hK hP hD hS => ?_)
  have hP : va_P (dC, dI) vwCl [(o, .inr (0, [.int (nI (F)), .int (nI (P)), .int (nI (V)), .ref (q3), .ref (q4), .ref (q5), .ref (q6), .ref (q7), .null, .int 0, .int 0, .int 0])), (q3, .inl (c3, P * V, .inl (fun _ => 0))), (q4, .inl (c4, F * V, .inl (fun _ => 0))), (q5, .inl (c5, F, .inl (fun _ => 0))), (q6, .inl (c6, F, .inl (fun _ => 0))), (q7, .inl (c7, F, .inl (fun _ => 0))), (q8, .inl (c8, F, .inl (fun _ => 0)))] Hq := hP
  have hD : va_D A [(o, .inr (0, [.int (nI (F)), .int (nI (P)), .int (nI (V)), .ref (q3), .ref (q4), .ref (q5), .ref (q6), .ref (q7), .null, .int 0, .int 0, .int 0])), (q3, .inl (c3, P * V, .inl (fun _ => 0))), (q4, .inl (c4, F * V, .inl (fun _ => 0))), (q5, .inl (c5, F, .inl (fun _ => 0))), (q6, .inl (c6, F, .inl (fun _ => 0))), (q7, .inl (c7, F, .inl (fun _ => 0))), (q8, .inl (c8, F, .inl (fun _ => 0)))] := hD
  refine va_putF (D := (dC, dI)) (ci := 0) (v := .ref (q8)) (ty := .array .boolean) (C := RX0) (T := TX0) (N := 12) hx hb hts hin tyX0 tyX0_ok nmX0 hown hK hP hD hS 0 rfl rfl 8 (by decide) (hts (.fieldLink RX0 40 "FramePool" "marked" "[Z") (by decide +kernel)) (fun _ h9 => h9) rfl hnm rfl (by decide +kernel) rfl rfl (Nat.le_of_ble_eq_true rfl) dX0_init_102 (fun Hq lq hP hD hS => ?_)
  have hP : va_P (dC, dI) vwCl [(o, .inr (0, [.int (nI (F)), .int (nI (P)), .int (nI (V)), .ref (q3), .ref (q4), .ref (q5), .ref (q6), .ref (q7), .ref (q8), .int 0, .int 0, .int 0])), (q3, .inl (c3, P * V, .inl (fun _ => 0))), (q4, .inl (c4, F * V, .inl (fun _ => 0))), (q5, .inl (c5, F, .inl (fun _ => 0))), (q6, .inl (c6, F, .inl (fun _ => 0))), (q7, .inl (c7, F, .inl (fun _ => 0))), (q8, .inl (c8, F, .inl (fun _ => 0)))] Hq := hP
  have hD : va_D A [(o, .inr (0, [.int (nI (F)), .int (nI (P)), .int (nI (V)), .ref (q3), .ref (q4), .ref (q5), .ref (q6), .ref (q7), .ref (q8), .int 0, .int 0, .int 0])), (q3, .inl (c3, P * V, .inl (fun _ => 0))), (q4, .inl (c4, F * V, .inl (fun _ => 0))), (q5, .inl (c5, F, .inl (fun _ => 0))), (q6, .inl (c6, F, .inl (fun _ => 0))), (q7, .inl (c7, F, .inl (fun _ => 0))), (q8, .inl (c8, F, .inl (fun _ => 0)))] := hD
  obtain rfl : c4 = c3 := Option.some.inj ((va_nm_int (hK.2 1 _ rfl).2).symm.trans (va_nm_int (hK.2 0 _ rfl).2))
  obtain rfl : c5 = c4 := Option.some.inj ((va_nm_int (hK.2 2 _ rfl).2).symm.trans (va_nm_int (hK.2 0 _ rfl).2))
  obtain rfl : c6 = c5 := Option.some.inj ((va_nm_int (hK.2 3 _ rfl).2).symm.trans (va_nm_int (hK.2 0 _ rfl).2))
  obtain rfl : c8 = c7 := Option.some.inj ((va_nm_boolean (hK.2 5 _ rfl).2).symm.trans (va_nm_boolean (hK.2 4 _ rfl).2))
  obtain ⟨g, eg⟩ : ∃ g : GE, g = ((F, P, V, V), (P * V, F * V, F), (c6, c8), (o, q3, q4, q5, q6, q7, q8)) := ⟨_, rfl⟩
  have hg : gok g := by rw [eg]; exact ⟨F1, F2, P1, P2, V1, V2, Nat.le_refl _, Nat.le_refl _, Nat.le_refl _, Nat.le_refl _, hPV, hFV, F2⟩
  have Y : zW dC dI 0 g A s.heap s u00 Hq lq := by rw [eg]; exact ⟨hK.sub [0, 4] rfl, hP, hD, hS, hA⟩
  have Z : zC p s m (Value.ref o :: [.int x, .int y, .int z]).toArray meth c cX0_init 4 none wsX0_init RX0 := ⟨hx, hb, hml, hown, hts, hr, hlocks⟩
  have ho : o = ga0 g := by rw [eg]
  have hl0 : lv_has ls 4 [(0, .ref (ga0 g))] := by rw [← ho]; exact lv_sub hl [0] rfl
  refine lv_aload_n hx hb dX0_init_105 rfl (lv_at hl0 0 rfl) ?_
  refine z_callV (rest := []) Z Y rfl (kX0_init_ l dC dI hg u00) (cwV 0 hts gX0_init_X0_init_ rfl rfl rfl (by decide +kernel) ⟨Nat.le_of_ble_eq_true rfl, Nat.le_of_ble_eq_true rfl⟩) rfl hl.1 rfl (Nat.le_of_ble_eq_true rfl) dX0_init_106 ⟨Nat.le_of_ble_eq_true rfl, by show _ ≤ 1984; omega⟩ (fun u1 Hq lq hw Y => ?_)
  refine W.widen (k := 6) (n := 1984) (by decide) (by omega) ?_
  obtain ⟨hK1, hP1, hD1, hS1, -⟩ := Y
  have hpost : geF g = clp x 32 ∧ geP g = clp y 200 ∧ geW g = clp z 8 ∧ geS g = geW g ∧ Rep g 0 a00 u1 := by
    refine ⟨by rw [eg]; exact eF, by rw [eg]; exact eP, by rw [eg]; exact eV, by rw [eg], ini_Rep (n := geF g) (a := (fun _ _ => nI 0, fun _ _ => nI 0, fun _ => nI 0, fun _ => 0, fun _ => nI 0, fun _ => nI 0, 0, nI 0, nI 0)) hg (Nat.le_refl _) (by decide) (fun f _ o _ => nI_0.symm) hw⟩
  exact W.vret hx hb hr (fun t ht hW => ⟨⟨(g, u1), rfl, ⟨ho.symm, hpost⟩, by rw [ht]; exact hP1, va_K.moved hW.alike hK1, hD1⟩, hS1.F ht⟩) hS1.2.2 dX0_init_109

theorem z_clp {p : Program} {l : Launch} {e : Env} {R : Room} {s : State} {m : MethodId} {args : Array Value} {below : List Frame} {meth : Method} {c : Code} {H : Heap} {locs : List Loc} {cells slots : Nat} {Q : State → Prop} {pc j : Nat} {ls : Array Slot} {rest : List Value} {x : Int32} {M : Nat}
    (h1 : (∀ v : Int32, v = nI (clp x M) → W p l e R s m args below meth c H locs cells slots Q (F0 m j ls (.int v :: rest))) → W p l e R s m args below meth c H locs cells slots Q (F0 m pc ls rest)) (h2 : W p l e R s m args below meth c H locs cells slots Q (F0 m j ls (.int (nI (clp x M)) :: rest))) : W p l e R s m args below meth c H locs cells slots Q (F0 m pc ls rest) :=
  h1 (fun v hv => by rw [hv]; exact h2)

set_option maxHeartbeats 800000 in
set_option maxRecDepth 100000 in
theorem kX1_init (l : Launch) (dC : Nat → ClassId) (dI : Nat → Nat → Nat) (o : Nat) (x y z : Int32) : zMC l yX1_init wsX1_init ({ frames := 2, cells := 6, slots := 1984, locals := 42 }) dC dI 1 o [.int x, .int y, .int z] (fun g u1 => geF g = clp x 32 ∧ geP g = clp y 200 ∧ geW g = clp z 8 ∧ geS g = 8 ∧ gn3 g = 1600 ∧ gn5 g = 32 ∧ Rep g 0 a00 u1) := by
  refine zMC_of (cc := cX1_init) (maxL := 4) (by decide) rfl rfl (Nat.le_of_ble_eq_true rfl) ?_
  intro p e s m below meth c A ls Z hnm hP hK hD hA hl
  obtain ⟨hx, hb, hml, hown, hts, hr, hlocks⟩ := id Z
  have hown : s.vm.findClass RX1 = some m.cls := hown
  have hin : ∀ w ∈ wsX10, w ∈ wsX1_init := fun w h => List.mem_cons_of_mem _ (List.mem_append_right _ h)
  have hS : va_S A s.heap s.heap [] := va_S.rf
  have hl : lv_has ls 4 [(0, .ref o), (1, .int x), (2, .int y), (3, .int z)] := hl
  obtain ⟨F, eF⟩ : ∃ F, F = clp x 32 := ⟨_, rfl⟩
  obtain ⟨P, eP⟩ : ∃ P, P = clp y 200 := ⟨_, rfl⟩
  obtain ⟨V, eV⟩ : ∃ V, V = clp z 8 := ⟨_, rfl⟩
  obtain ⟨F1, F2⟩ : 1 ≤ F ∧ F ≤ 32 := by rw [eF]; exact clp_in (by decide) (by decide)
  obtain ⟨P1, P2⟩ : 1 ≤ P ∧ P ≤ 200 := by rw [eP]; exact clp_in (by decide) (by decide)
  obtain ⟨V1, V2⟩ : 1 ≤ V ∧ V ≤ 8 := by rw [eV]; exact clp_in (by decide) (by decide)
  have hPV : P * V ≤ 1600 := Nat.le_trans (Nat.mul_le_mul P2 V2) (by decide)
  have hFV : F * V ≤ 256 := Nat.le_trans (Nat.mul_le_mul F2 V2) (by decide)
  refine lv_aload_n hx hb dX1_init_0 rfl (lv_at hl 0 rfl) ?_
  refine W.objInit hx hb hown (hts _ (List.mem_of_getElem? (i := 1) rfl)) (hts _ (List.mem_of_getElem? (i := 2) rfl)) (hts _ (List.mem_of_getElem? (i := 3) rfl)) rfl (by rw [hml]; exact hl.1) rfl dX1_init_1 (Nat.le_of_ble_eq_true rfl) (Nat.le_of_ble_eq_true rfl) ?_
  refine W.eq (g2 := F0 m 4 ls []) rfl ?_
  refine lv_aload_n hx hb dX1_init_4 rfl (lv_at hl 0 rfl) ?_
  refine lv_sipush (v := nI 1600) hx hb dX1_init_5 (by decide) ?_
  refine va_newa (atype := .int) (a0 := (1600, .inl (fun _ => 0))) (N' := 1600) (ty := .int) hx hb (hts (.arrayClass .int) (by decide +kernel)) rfl hK hP hD hS hA (fun _ => rfl) (nI_pos (by omega)) (nI_clamp (by omega)) (by show 1600 * 4 ≤ 536870912; omega) (Nat.le_of_ble_eq_true rfl) (by show _ ≤ 1984; omega) dX1_init_8 (fun q3 c3 Hq hK hP hD hS => ?_)
  have hP : va_P (dC, dI) vwCl [(o, .inr (1, [.int 0, .int 0, .int 0, .null, .null, .null, .null, .null, .null, .int 0, .int 0, .int 0])), (q3, .inl (c3, 1600, .inl (fun _ => 0)))] Hq := hP
  have hD : va_D A [(o, .inr (1, [.int 0, .int 0, .int 0, .null, .null, .null, .null, .null, .null, .int 0, .int 0, .int 0])), (q3, .inl (c3, 1600, .inl (fun _ => 0)))] := hD
  refine va_putF (D := (dC, dI)) (ci := 1) (v := .ref (q3)) (ty := .array .int) (C := RX1) (T := TX1) (N := 12) hx hb hts hin tyX1 tyX1_ok nmX1 hown hK hP hD hS 0 rfl rfl 3 (by decide) (hts (.fieldLink RX1 7 "FramePoolModel" "disk" "[I") (by decide +kernel)) (fun _ h9 => h9) rfl hnm rfl (by decide +kernel) rfl rfl (Nat.le_of_ble_eq_true rfl) dX1_init_10 (fun Hq lq hP hD hS => ?_)
  have hP : va_P (dC, dI) vwCl [(o, .inr (1, [.int 0, .int 0, .int 0, .ref (q3), .null, .null, .null, .null, .null, .int 0, .int 0, .int 0])), (q3, .inl (c3, 1600, .inl (fun _ => 0)))] Hq := hP
  have hD : va_D A [(o, .inr (1, [.int 0, .int 0, .int 0, .ref (q3), .null, .null, .null, .null, .null, .int 0, .int 0, .int 0])), (q3, .inl (c3, 1600, .inl (fun _ => 0)))] := hD
  refine lv_aload_n hx hb dX1_init_13 rfl (lv_at hl 0 rfl) ?_
  refine lv_sipush (v := nI 256) hx hb dX1_init_14 (by decide) ?_
  refine va_newa (atype := .int) (a0 := (256, .inl (fun _ => 0))) (N' := 256) (ty := .int) hx hb (hts (.arrayClass .int) (by decide +kernel)) rfl hK hP hD hS hA (fun _ => rfl) (nI_pos (by omega)) (nI_clamp (by omega)) (by show 256 * 4 ≤ 536870912; omega) (Nat.le_of_ble_eq_true rfl) (by show _ ≤ 1984; omega) dX1_init_17 (fun q4 c4 Hq hK hP hD hS => ?_)
  have hP : va_P (dC, dI) vwCl [(o, .inr (1, [.int 0, .int 0, .int 0, .ref (q3), .null, .null, .null, .null, .null, .int 0, .int 0, .int 0])), (q3, .inl (c3, 1600, .inl (fun _ => 0))), (q4, .inl (c4, 256, .inl (fun _ => 0)))] Hq := hP
  have hD : va_D A [(o, .inr (1, [.int 0, .int 0, .int 0, .ref (q3), .null, .null, .null, .null, .null, .int 0, .int 0, .int 0])), (q3, .inl (c3, 1600, .inl (fun _ => 0))), (q4, .inl (c4, 256, .inl (fun _ => 0)))] := hD
  refine va_putF (D := (dC, dI)) (ci := 1) (v := .ref (q4)) (ty := .array .int) (C := RX1) (T := TX1) (N := 12) hx hb hts hin tyX1 tyX1_ok nmX1 hown hK hP hD hS 0 rfl rfl 4 (by decide) (hts (.fieldLink RX1 13 "FramePoolModel" "memory" "[I") (by decide +kernel)) (fun _ h9 => h9) rfl hnm rfl (by decide +kernel) rfl rfl (Nat.le_of_ble_eq_true rfl) dX1_init_19 (fun Hq lq hP hD hS => ?_)
  have hP : va_P (dC, dI) vwCl [(o, .inr (1, [.int 0, .int 0, .int 0, .ref (q3), .ref (q4), .null, .null, .null, .null, .int 0, .int 0, .int 0])), (q3, .inl (c3, 1600, .inl (fun _ => 0))), (q4, .inl (c4, 256, .inl (fun _ => 0)))] Hq := hP
  have hD : va_D A [(o, .inr (1, [.int 0, .int 0, .int 0, .ref (q3), .ref (q4), .null, .null, .null, .null, .int 0, .int 0, .int 0])), (q3, .inl (c3, 1600, .inl (fun _ => 0))), (q4, .inl (c4, 256, .inl (fun _ => 0)))] := hD
  refine lv_aload_n hx hb dX1_init_22 rfl (lv_at hl 0 rfl) ?_
  refine lv_bipush (v := nI 32) hx hb dX1_init_23 (by decide) ?_
  refine va_newa (atype := .int) (a0 := (32, .inl (fun _ => 0))) (N' := 32) (ty := .int) hx hb (hts (.arrayClass .int) (by decide +kernel)) rfl hK hP hD hS hA (fun _ => rfl) (nI_pos (by omega)) (nI_clamp (by omega)) (by show 32 * 4 ≤ 536870912; omega) (Nat.le_of_ble_eq_true rfl) (by show _ ≤ 1984; omega) dX1_init_25 (fun q5 c5 Hq hK hP hD hS => ?_)
  have hP : va_P (dC, dI) vwCl [(o, .inr (1, [.int 0, .int 0, .int 0, .ref (q3), .ref (q4), .null, .null, .null, .null, .int 0, .int 0, .int 0])), (q3, .inl (c3, 1600, .inl (fun _ => 0))), (q4, .inl (c4, 256, .inl (fun _ => 0))), (q5, .inl (c5, 32, .inl (fun _ => 0)))] Hq := hP
  have hD : va_D A [(o, .inr (1, [.int 0, .int 0, .int 0, .ref (q3), .ref (q4), .null, .null, .null, .null, .int 0, .int 0, .int 0])), (q3, .inl (c3, 1600, .inl (fun _ => 0))), (q4, .inl (c4, 256, .inl (fun _ => 0))), (q5, .inl (c5, 32, .inl (fun _ => 0)))] := hD
  refine va_putF (D := (dC, dI)) (ci := 1) (v := .ref (q5)) (ty := .array .int) (C := RX1) (T := TX1) (N := 12) hx hb hts hin tyX1 tyX1_ok nmX1 hown hK hP hD hS 0 rfl rfl 5 (by decide) (hts (.fieldLink RX1 16 "FramePoolModel" "page" "[I") (by decide +kernel)) (fun _ h9 => h9) rfl hnm rfl (by decide +kernel) rfl rfl (Nat.le_of_ble_eq_true rfl) dX1_init_27 (fun Hq lq hP hD hS => ?_)
  have hP : va_P (dC, dI) vwCl [(o, .inr (1, [.int 0, .int 0, .int 0, .ref (q3), .ref (q4), .ref (q5), .null, .null, .null, .int 0, .int 0, .int 0])), (q3, .inl (c3, 1600, .inl (fun _ => 0))), (q4, .inl (c4, 256, .inl (fun _ => 0))), (q5, .inl (c5, 32, .inl (fun _ => 0)))] Hq := hP
  have hD : va_D A [(o, .inr (1, [.int 0, .int 0, .int 0, .ref (q3), .ref (q4), .ref (q5), .null, .null, .null, .int 0, .int 0, .int 0])), (q3, .inl (c3, 1600, .inl (fun _ => 0))), (q4, .inl (c4, 256, .inl (fun _ => 0))), (q5, .inl (c5, 32, .inl (fun _ => 0)))] := hD
  refine lv_aload_n hx hb dX1_init_30 rfl (lv_at hl 0 rfl) ?_
  refine lv_bipush (v := nI 32) hx hb dX1_init_31 (by decide) ?_
  refine va_newa (atype := .int) (a0 := (32, .inl (fun _ => 0))) (N' := 32) (ty := .int) hx hb (hts (.arrayClass .int) (by decide +kernel)) rfl hK hP hD hS hA (fun _ => rfl) (nI_pos (by omega)) (nI_clamp (by omega)) (by show 32 * 4 ≤ 536870912; omega) (Nat.le_of_ble_eq_true rfl) (by show _ ≤ 1984; omega) dX1_init_33 (fun q6 c6 Hq hK hP hD hS => ?_)
  have hP : va_P (dC, dI) vwCl [(o, .inr (1, [.int 0, .int 0, .int 0, .ref (q3), .ref (q4), .ref (q5), .null, .null, .null, .int 0, .int 0, .int 0])), (q3, .inl (c3, 1600, .inl (fun _ => 0))), (q4, .inl (c4, 256, .inl (fun _ => 0))), (q5, .inl (c5, 32, .inl (fun _ => 0))), (q6, .inl (c6, 32, .inl (fun _ => 0)))] Hq := hP
  have hD : va_D A [(o, .inr (1, [.int 0, .int 0, .int 0, .ref (q3), .ref (q4), .ref (q5), .null, .null, .null, .int 0, .int 0, .int 0])), (q3, .inl (c3, 1600, .inl (fun _ => 0))), (q4, .inl (c4, 256, .inl (fun _ => 0))), (q5, .inl (c5, 32, .inl (fun _ => 0))), (q6, .inl (c6, 32, .inl (fun _ => 0)))] := hD
  refine va_putF (D := (dC, dI)) (ci := 1) (v := .ref (q6)) (ty := .array .int) (C := RX1) (T := TX1) (N := 12) hx hb hts hin tyX1 tyX1_ok nmX1 hown hK hP hD hS 0 rfl rfl 6 (by decide) (hts (.fieldLink RX1 19 "FramePoolModel" "pins" "[I") (by decide +kernel)) (fun _ h9 => h9) rfl hnm rfl (by decide +kernel) rfl rfl (Nat.le_of_ble_eq_true rfl) dX1_init_35 (fun Hq lq hP hD hS => ?_)
  have hP : va_P (dC, dI) vwCl [(o, .inr (1, [.int 0, .int 0, .int 0, .ref (q3), .ref (q4), .ref (q5), .ref (q6), .null, .null, .int 0, .int 0, .int 0])), (q3, .inl (c3, 1600, .inl (fun _ => 0))), (q4, .inl (c4, 256, .inl (fun _ => 0))), (q5, .inl (c5, 32, .inl (fun _ => 0))), (q6, .inl (c6, 32, .inl (fun _ => 0)))] Hq := hP
  have hD : va_D A [(o, .inr (1, [.int 0, .int 0, .int 0, .ref (q3), .ref (q4), .ref (q5), .ref (q6), .null, .null, .int 0, .int 0, .int 0])), (q3, .inl (c3, 1600, .inl (fun _ => 0))), (q4, .inl (c4, 256, .inl (fun _ => 0))), (q5, .inl (c5, 32, .inl (fun _ => 0))), (q6, .inl (c6, 32, .inl (fun _ => 0)))] := hD
  refine lv_aload_n hx hb dX1_init_38 rfl (lv_at hl 0 rfl) ?_
  refine lv_bipush (v := nI 32) hx hb dX1_init_39 (by decide) ?_
  refine va_newa (atype := .boolean) (a0 := (32, .inl (fun _ => 0))) (N' := 32) (ty := .boolean) hx hb (hts (.arrayClass .boolean) (by decide +kernel)) rfl hK hP hD hS hA (fun _ => rfl) (nI_pos (by omega)) (nI_clamp (by omega)) (by show 32 * 1 ≤ 536870912; omega) (Nat.le_of_ble_eq_true rfl) (by show _ ≤ 1984; omega) dX1_init_41 (fun q7 c7 Hq hK hP hD hS => ?_)
  have hP : va_P (dC, dI) vwCl [(o, .inr (1, [.int 0, .int 0, .int 0, .ref (q3), .ref (q4), .ref (q5), .ref (q6), .null, .null, .int 0, .int 0, .int 0])), (q3, .inl (c3, 1600, .inl (fun _ => 0))), (q4, .inl (c4, 256, .inl (fun _ => 0))), (q5, .inl (c5, 32, .inl (fun _ => 0))), (q6, .inl (c6, 32, .inl (fun _ => 0))), (q7, .inl (c7, 32, .inl (fun _ => 0)))] Hq := hP
  have hD : va_D A [(o, .inr (1, [.int 0, .int 0, .int 0, .ref (q3), .ref (q4), .ref (q5), .ref (q6), .null, .null, .int 0, .int 0, .int 0])), (q3, .inl (c3, 1600, .inl (fun _ => 0))), (q4, .inl (c4, 256, .inl (fun _ => 0))), (q5, .inl (c5, 32, .inl (fun _ => 0))), (q6, .inl (c6, 32, .inl (fun _ => 0))), (q7, .inl (c7, 32, .inl (fun _ => 0)))] := hD
  refine va_putF (D := (dC, dI)) (ci := 1) (v := .ref (q7)) (ty := .array .boolean) (C := RX1) (T := TX1) (N := 12) hx hb hts hin tyX1 tyX1_ok nmX1 hown hK hP hD hS 0 rfl rfl 7 (by decide) (hts (.fieldLink RX1 22 "FramePoolModel" "dirty" "[Z") (by decide +kernel)) (fun _ h9 => h9) rfl hnm rfl (by decide +kernel) rfl rfl (Nat.le_of_ble_eq_true rfl) dX1_init_43 (fun Hq lq hP hD hS => ?_)
  have hP : va_P (dC, dI) vwCl [(o, .inr (1, [.int 0, .int 0, .int 0, .ref (q3), .ref (q4), .ref (q5), .ref (q6), .ref (q7), .null, .int 0, .int 0, .int 0])), (q3, .inl (c3, 1600, .inl (fun _ => 0))), (q4, .inl (c4, 256, .inl (fun _ => 0))), (q5, .inl (c5, 32, .inl (fun _ => 0))), (q6, .inl (c6, 32, .inl (fun _ => 0))), (q7, .inl (c7, 32, .inl (fun _ => 0)))] Hq := hP
  have hD : va_D A [(o, .inr (1, [.int 0, .int 0, .int 0, .ref (q3), .ref (q4), .ref (q5), .ref (q6), .ref (q7), .null, .int 0, .int 0, .int 0])), (q3, .inl (c3, 1600, .inl (fun _ => 0))), (q4, .inl (c4, 256, .inl (fun _ => 0))), (q5, .inl (c5, 32, .inl (fun _ => 0))), (q6, .inl (c6, 32, .inl (fun _ => 0))), (q7, .inl (c7, 32, .inl (fun _ => 0)))] := hD
  refine lv_aload_n hx hb dX1_init_46 rfl (lv_at hl 0 rfl) ?_
  refine lv_bipush (v := nI 32) hx hb dX1_init_47 (by decide) ?_
  refine va_newa (atype := .boolean) (a0 := (32, .inl (fun _ => 0))) (N' := 32) (ty := .boolean) hx hb (hts (.arrayClass .boolean) (by decide +kernel)) rfl hK hP hD hS hA (fun _ => rfl) (nI_pos (by omega)) (nI_clamp (by omega)) (by show 32 * 1 ≤ 536870912; omega) (Nat.le_of_ble_eq_true rfl) (by show _ ≤ 1984; omega) dX1_init_49 (fun q8 c8 Hq hK hP hD hS => ?_)
  have hP : va_P (dC, dI) vwCl [(o, .inr (1, [.int 0, .int 0, .int 0, .ref (q3), .ref (q4), .ref (q5), .ref (q6), .ref (q7), .null, .int 0, .int 0, .int 0])), (q3, .inl (c3, 1600, .inl (fun _ => 0))), (q4, .inl (c4, 256, .inl (fun _ => 0))), (q5, .inl (c5, 32, .inl (fun _ => 0))), (q6, .inl (c6, 32, .inl (fun _ => 0))), (q7, .inl (c7, 32, .inl (fun _ => 0))), (q8, .inl (c8, 32, .inl (fun _ => 0)))] Hq := hP
  have hD : va_D A [(o, .inr (1, [.int 0, .int 0, .int 0, .ref (q3), .ref (q4), .ref (q5), .ref (q6), .ref (q7), .null, .int 0, .int 0, .int 0])), (q3, .inl (c3, 1600, .inl (fun _ => 0))), (q4, .inl (c4, 256, .inl (fun _ => 0))), (q5, .inl (c5, 32, .inl (fun _ => 0))), (q6, .inl (c6, 32, .inl (fun _ => 0))), (q7, .inl (c7, 32, .inl (fun _ => 0))), (q8, .inl (c8, 32, .inl (fun _ => 0)))] := hD
  refine va_putF (D := (dC, dI)) (ci := 1) (v := .ref (q8)) (ty := .array .boolean) (C := RX1) (T := TX1) (N := 12) hx hb hts hin tyX1 tyX1_ok nmX1 hown hK hP hD hS 0 rfl rfl 8 (by decide) (hts (.fieldLink RX1 26 "FramePoolModel" "mark" "[Z") (by decide +kernel)) (fun _ h9 => h9) rfl hnm rfl (by decide +kernel) rfl rfl (Nat.le_of_ble_eq_true rfl) dX1_init_51 (fun Hq lq hP hD hS => ?_)
  have hP : va_P (dC, dI) vwCl [(o, .inr (1, [.int 0, .int 0, .int 0, .ref (q3), .ref (q4), .ref (q5), .ref (q6), .ref (q7), .ref (q8), .int 0, .int 0, .int 0])), (q3, .inl (c3, 1600, .inl (fun _ => 0))), (q4, .inl (c4, 256, .inl (fun _ => 0))), (q5, .inl (c5, 32, .inl (fun _ => 0))), (q6, .inl (c6, 32, .inl (fun _ => 0))), (q7, .inl (c7, 32, .inl (fun _ => 0))), (q8, .inl (c8, 32, .inl (fun _ => 0)))] Hq := hP
  have hD : va_D A [(o, .inr (1, [.int 0, .int 0, .int 0, .ref (q3), .ref (q4), .ref (q5), .ref (q6), .ref (q7), .ref (q8), .int 0, .int 0, .int 0])), (q3, .inl (c3, 1600, .inl (fun _ => 0))), (q4, .inl (c4, 256, .inl (fun _ => 0))), (q5, .inl (c5, 32, .inl (fun _ => 0))), (q6, .inl (c6, 32, .inl (fun _ => 0))), (q7, .inl (c7, 32, .inl (fun _ => 0))), (q8, .inl (c8, 32, .inl (fun _ => 0)))] := hD
  refine lv_aload_n hx hb dX1_init_54 rfl (lv_at hl 0 rfl) ?_
  refine z_clp (j := 76) (x := x) (M := 32) ?_ ?_
  · intro hj
    refine lv_iload_n hx hb dX1_init_55 rfl (lv_at hl 1 rfl) ?_
    refine lv_iconst (v := nI 1) hx hb dX1_init_56 (by decide) ?_
    refine lv_icmp_ge (tgt := 64) hx hb dX1_init_57 (by decide) (fun c1 => ?_) (fun c1 => ?_)
    · refine lv_iload_n hx hb dX1_init_64 rfl (lv_at hl 1 rfl) ?_
      refine lv_bipush (v := nI 32) hx hb dX1_init_65 (by decide) ?_
      refine lv_icmp_le (tgt := 75) hx hb dX1_init_67 (by decide) (fun c2 => ?_) (fun c2 => ?_)
      · refine lv_iload_n hx hb dX1_init_75 rfl (lv_at hl 1 rfl) ?_
        exact hj _ (clp_mid c1 c2).symm
      · refine lv_bipush (v := nI 32) hx hb dX1_init_70 (by decide) ?_
        refine lv_goto (tgt := 76) hx hb dX1_init_72 (by decide) ?_
        exact hj _ (by rw [clp_hi c1 c2])
    · refine lv_iconst (v := nI 1) hx hb dX1_init_60 (by decide) ?_
      refine lv_goto (tgt := 76) hx hb dX1_init_61 (by decide) ?_
      exact hj _ (by rw [clp_lo c1])
  refine z_top (nI (F)) (by rw [eF]) ?_
  refine va_putF (D := (dC, dI)) (ci := 1) (v := .int (nI (F))) (ty := .int) (C := RX1) (T := TX1) (N := 12) hx hb hts hin tyX1 tyX1_ok nmX1 hown hK hP hD hS 0 rfl rfl 0 (by decide) (hts (.fieldLink RX1 29 "FramePoolModel" "frames" "I") (by decide +kernel)) (fun _ h9 => h9) rfl hnm rfl (by decide +kernel) rfl rfl (Nat.le_of_ble_eq_true rfl) dX1_init_76 (fun Hq lq hP hD hS => ?_)
  have hP : va_P (dC, dI) vwCl [(o, .inr (1, [.int (nI (F)), .int 0, .int 0, .ref (q3), .ref (q4), .ref (q5), .ref (q6), .ref (q7), .ref (q8), .int 0, .int 0, .int 0])), (q3, .inl (c3, 1600, .inl (fun _ => 0))), (q4, .inl (c4, 256, .inl (fun _ => 0))), (q5, .inl (c5, 32, .inl (fun _ => 0))), (q6, .inl (c6, 32, .inl (fun _ => 0))), (q7, .inl (c7, 32, .inl (fun _ => 0))), (q8, .inl (c8, 32, .inl (fun _ => 0)))] Hq := hP
  have hD : va_D A [(o, .inr (1, [.int (nI (F)), .int 0, .int 0, .ref (q3), .ref (q4), .ref (q5), .ref (q6), .ref (q7), .ref (q8), .int 0, .int 0, .int 0])), (q3, .inl (c3, 1600, .inl (fun _ => 0))), (q4, .inl (c4, 256, .inl (fun _ => 0))), (q5, .inl (c5, 32, .inl (fun _ => 0))), (q6, .inl (c6, 32, .inl (fun _ => 0))), (q7, .inl (c7, 32, .inl (fun _ => 0))), (q8, .inl (c8, 32, .inl (fun _ => 0)))] := hD
  refine lv_aload_n hx hb dX1_init_79 rfl (lv_at hl 0 rfl) ?_
  refine z_clp (j := 103) (x := y) (M := 200) ?_ ?_
  · intro hj
    refine lv_iload_n hx hb dX1_init_80 rfl (lv_at hl 2 rfl) ?_
    refine lv_iconst (v := nI 1) hx hb dX1_init_81 (by decide) ?_
    refine lv_icmp_ge (tgt := 89) hx hb dX1_init_82 (by decide) (fun c1 => ?_) (fun c1 => ?_)
    · refine lv_iload_n hx hb dX1_init_89 rfl (lv_at hl 2 rfl) ?_
      refine lv_sipush (v := nI 200) hx hb dX1_init_90 (by decide) ?_
      refine lv_icmp_le (tgt := 102) hx hb dX1_init_93 (by decide) (fun c2 => ?_) (fun c2 => ?_)
      · refine lv_iload_n hx hb dX1_init_102 rfl (lv_at hl 2 rfl) ?_
        exact hj _ (clp_mid c1 c2).symm
      · refine lv_sipush (v := nI 200) hx hb dX1_init_96 (by decide) ?_
        refine lv_goto (tgt := 103) hx hb dX1_init_99 (by decide) ?_
        exact hj _ (by rw [clp_hi c1 c2])
    · refine lv_iconst (v := nI 1) hx hb dX1_init_85 (by decide) ?_
      refine lv_goto (tgt := 103) hx hb dX1_init_86 (by decide) ?_
      exact hj _ (by rw [clp_lo c1])
  refine z_top (nI (P)) (by rw [eP]) ?_
  refine va_putF (D := (dC, dI)) (ci := 1) (v := .int (nI (P))) (ty := .int) (C := RX1) (T := TX1) (N := 12) hx hb hts hin tyX1 tyX1_ok nmX1 hown hK hP hD hS 0 rfl rfl 1 (by decide) (hts (.fieldLink RX1 33 "FramePoolModel" "pages" "I") (by decide +kernel)) (fun _ h9 => h9) rfl hnm rfl (by decide +kernel) rfl rfl (Nat.le_of_ble_eq_true rfl) dX1_init_103 (fun Hq lq hP hD hS => ?_)
  have hP : va_P (dC, dI) vwCl [(o, .inr (1, [.int (nI (F)), .int (nI (P)), .int 0, .ref (q3), .ref (q4), .ref (q5), .ref (q6), .ref (q7), .ref (q8), .int 0, .int 0, .int 0])), (q3, .inl (c3, 1600, .inl (fun _ => 0))), (q4, .inl (c4, 256, .inl (fun _ => 0))), (q5, .inl (c5, 32, .inl (fun _ => 0))), (q6, .inl (c6, 32, .inl (fun _ => 0))), (q7, .inl (c7, 32, .inl (fun _ => 0))), (q8, .inl (c8, 32, .inl (fun _ => 0)))] Hq := hP
  have hD : va_D A [(o, .inr (1, [.int (nI (F)), .int (nI (P)), .int 0, .ref (q3), .ref (q4), .ref (q5), .ref (q6), .ref (q7), .ref (q8), .int 0, .int 0, .int 0])), (q3, .inl (c3, 1600, .inl (fun _ => 0))), (q4, .inl (c4, 256, .inl (fun _ => 0))), (q5, .inl (c5, 32, .inl (fun _ => 0))), (q6, .inl (c6, 32, .inl (fun _ => 0))), (q7, .inl (c7, 32, .inl (fun _ => 0))), (q8, .inl (c8, 32, .inl (fun _ => 0)))] := hD
  refine lv_aload_n hx hb dX1_init_106 rfl (lv_at hl 0 rfl) ?_
  refine z_clp (j := 128) (x := z) (M := 8) ?_ ?_
  · intro hj
    refine lv_iload_n hx hb dX1_init_107 rfl (lv_at hl 3 rfl) ?_
    refine lv_iconst (v := nI 1) hx hb dX1_init_108 (by decide) ?_
    refine lv_icmp_ge (tgt := 116) hx hb dX1_init_109 (by decide) (fun c1 => ?_) (fun c1 => ?_)
    · refine lv_iload_n hx hb dX1_init_116 rfl (lv_at hl 3 rfl) ?_
      refine lv_bipush (v := nI 8) hx hb dX1_init_117 (by decide) ?_
      refine lv_icmp_le (tgt := 127) hx hb dX1_init_119 (by decide) (fun c2 => ?_) (fun c2 => ?_)
      · refine lv_iload_n hx hb dX1_init_127 rfl (lv_at hl 3 rfl) ?_
        exact hj _ (clp_mid c1 c2).symm
      · refine lv_bipush (v := nI 8) hx hb dX1_init_122 (by decide) ?_
        refine lv_goto (tgt := 128) hx hb dX1_init_124 (by decide) ?_
        exact hj _ (by rw [clp_hi c1 c2])
    · refine lv_iconst (v := nI 1) hx hb dX1_init_112 (by decide) ?_
      refine lv_goto (tgt := 128) hx hb dX1_init_113 (by decide) ?_
      exact hj _ (by rw [clp_lo c1])
  refine z_top (nI (V)) (by rw [eV]) ?_
  refine va_putF (D := (dC, dI)) (ci := 1) (v := .int (nI (V))) (ty := .int) (C := RX1) (T := TX1) (N := 12) hx hb hts hin tyX1 tyX1_ok nmX1 hown hK hP hD hS 0 rfl rfl 2 (by decide) (hts (.fieldLink RX1 36 "FramePoolModel" "words" "I") (by decide +kernel)) (fun _ h9 => h9) rfl hnm rfl (by decide +kernel) rfl rfl (Nat.le_of_ble_eq_true rfl) dX1_init_128 (fun Hq lq hP hD hS => ?_)
  have hP : va_P (dC, dI) vwCl [(o, .inr (1, [.int (nI (F)), .int (nI (P)), .int (nI (V)), .ref (q3), .ref (q4), .ref (q5), .ref (q6), .ref (q7), .ref (q8), .int 0, .int 0, .int 0])), (q3, .inl (c3, 1600, .inl (fun _ => 0))), (q4, .inl (c4, 256, .inl (fun _ => 0))), (q5, .inl (c5, 32, .inl (fun _ => 0))), (q6, .inl (c6, 32, .inl (fun _ => 0))), (q7, .inl (c7, 32, .inl (fun _ => 0))), (q8, .inl (c8, 32, .inl (fun _ => 0)))] Hq := hP
  have hD : va_D A [(o, .inr (1, [.int (nI (F)), .int (nI (P)), .int (nI (V)), .ref (q3), .ref (q4), .ref (q5), .ref (q6), .ref (q7), .ref (q8), .int 0, .int 0, .int 0])), (q3, .inl (c3, 1600, .inl (fun _ => 0))), (q4, .inl (c4, 256, .inl (fun _ => 0))), (q5, .inl (c5, 32, .inl (fun _ => 0))), (q6, .inl (c6, 32, .inl (fun _ => 0))), (q7, .inl (c7, 32, .inl (fun _ => 0))), (q8, .inl (c8, 32, .inl (fun _ => 0)))] := hD
  obtain rfl : c4 = c3 := Option.some.inj ((va_nm_int (hK.2 1 _ rfl).2).symm.trans (va_nm_int (hK.2 0 _ rfl).2))
  obtain rfl : c5 = c4 := Option.some.inj ((va_nm_int (hK.2 2 _ rfl).2).symm.trans (va_nm_int (hK.2 0 _ rfl).2))
  obtain rfl : c6 = c5 := Option.some.inj ((va_nm_int (hK.2 3 _ rfl).2).symm.trans (va_nm_int (hK.2 0 _ rfl).2))
  obtain rfl : c8 = c7 := Option.some.inj ((va_nm_boolean (hK.2 5 _ rfl).2).symm.trans (va_nm_boolean (hK.2 4 _ rfl).2))
  obtain ⟨g, eg⟩ : ∃ g : GE, g = ((F, P, V, 8), (1600, 256, 32), (c6, c8), (o, q3, q4, q5, q6, q7, q8)) := ⟨_, rfl⟩
  have hg : gok g := by rw [eg]; exact ⟨F1, F2, P1, P2, V1, V2, V2, show P * 8 ≤ 1600 by omega, show F * 8 ≤ 256 by omega, F2, Nat.le_refl _, Nat.le_refl _, Nat.le_refl _⟩
  have Y : zW dC dI 1 g A s.heap s u00 Hq lq := by rw [eg]; exact ⟨hK.sub [0, 4] rfl, hP, hD, hS, hA⟩
  have Z : zC p s m (Value.ref o :: [.int x, .int y, .int z]).toArray meth c cX1_init 4 none wsX1_init RX1 := ⟨hx, hb, hml, hown, hts, hr, hlocks⟩
  have ho : o = ga0 g := by rw [eg]
  have hl0 : lv_has ls 4 [(0, .ref (ga0 g))] := by rw [← ho]; exact lv_sub hl [0] rfl
  refine lv_aload_n hx hb dX1_init_131 rfl (lv_at hl0 0 rfl) ?_
  refine z_callV (rest := []) Z Y rfl (kX1_init_ l dC dI hg (by rw [eg]) (by rw [eg]) u00) (cwV 0 hts gX1_init_X1_init_ rfl rfl rfl (by decide +kernel) ⟨Nat.le_of_ble_eq_true rfl, Nat.le_of_ble_eq_true rfl⟩) rfl hl.1 rfl (Nat.le_of_ble_eq_true rfl) dX1_init_132 ⟨Nat.le_of_ble_eq_true rfl, by show _ ≤ 1984; omega⟩ (fun u1 Hq lq hw Y => ?_)
  refine W.widen (k := 6) (n := 1984) (by decide) (by omega) ?_
  obtain ⟨hK1, hP1, hD1, hS1, -⟩ := Y
  have hpost : geF g = clp x 32 ∧ geP g = clp y 200 ∧ geW g = clp z 8 ∧ geS g = 8 ∧ gn3 g = 1600 ∧ gn5 g = 32 ∧ Rep g 0 a00 u1 := by
    refine ⟨by rw [eg]; exact eF, by rw [eg]; exact eP, by rw [eg]; exact eV, by rw [eg], by rw [eg], by rw [eg], ini_Rep (n := 32) (a := (fun _ _ => nI 0, fun _ _ => nI 0, fun _ => nI 0, fun _ => 0, fun _ => nI 0, fun _ => nI 0, 0, nI 0, nI 0)) hg hg.2.1 (by decide) (fun f _ o _ => nI_0.symm) hw⟩
  exact W.vret hx hb hr (fun t ht hW => ⟨⟨(g, u1), rfl, ⟨ho.symm, hpost⟩, by rw [ht]; exact hP1, va_K.moved hW.alike hK1, hD1⟩, hS1.F ht⟩) hS1.2.2 dX1_init_135
