/-! ===== the pool's cells: one picture for both classes ===== -/
abbrev CS : Type := (Nat → Int32) × (Nat → Int32) × (Nat → Int32) × (Nat → Int32) × (Nat → Int32) × (Nat → Int32) × Int32 × Int32 × Int32
abbrev cs3 (u : CS) : Nat → Int32 := u.1
abbrev cs4 (u : CS) : Nat → Int32 := u.2.1
abbrev cs5 (u : CS) : Nat → Int32 := u.2.2.1
abbrev cs6 (u : CS) : Nat → Int32 := u.2.2.2.1
abbrev cs7 (u : CS) : Nat → Int32 := u.2.2.2.2.1
abbrev cs8 (u : CS) : Nat → Int32 := u.2.2.2.2.2.1
abbrev csh (u : CS) : Int32 := u.2.2.2.2.2.2.1
abbrev csr (u : CS) : Int32 := u.2.2.2.2.2.2.2.1
abbrev csw (u : CS) : Int32 := u.2.2.2.2.2.2.2.2
abbrev ps3 (u : CS) (f : Nat → Int32) : CS := (f, cs4 u, cs5 u, cs6 u, cs7 u, cs8 u, csh u, csr u, csw u)
abbrev ps4 (u : CS) (f : Nat → Int32) : CS := (cs3 u, f, cs5 u, cs6 u, cs7 u, cs8 u, csh u, csr u, csw u)
abbrev ps5 (u : CS) (f : Nat → Int32) : CS := (cs3 u, cs4 u, f, cs6 u, cs7 u, cs8 u, csh u, csr u, csw u)
abbrev ps6 (u : CS) (f : Nat → Int32) : CS := (cs3 u, cs4 u, cs5 u, f, cs7 u, cs8 u, csh u, csr u, csw u)
abbrev ps7 (u : CS) (f : Nat → Int32) : CS := (cs3 u, cs4 u, cs5 u, cs6 u, f, cs8 u, csh u, csr u, csw u)
abbrev ps8 (u : CS) (f : Nat → Int32) : CS := (cs3 u, cs4 u, cs5 u, cs6 u, cs7 u, f, csh u, csr u, csw u)
abbrev psh (u : CS) (v : Int32) : CS := (cs3 u, cs4 u, cs5 u, cs6 u, cs7 u, cs8 u, v, csr u, csw u)
abbrev psr (u : CS) (v : Int32) : CS := (cs3 u, cs4 u, cs5 u, cs6 u, cs7 u, cs8 u, csh u, v, csw u)
abbrev psw (u : CS) (v : Int32) : CS := (cs3 u, cs4 u, cs5 u, cs6 u, cs7 u, cs8 u, csh u, csr u, v)
/-- frames, pages, words, stride; the rows' lengths; the array classes; the addresses -/
abbrev GE : Type := (Nat × Nat × Nat × Nat) × (Nat × Nat × Nat) × (ClassId × ClassId) × (Nat × Nat × Nat × Nat × Nat × Nat × Nat)
abbrev geF (g : GE) : Nat := g.1.1
abbrev geP (g : GE) : Nat := g.1.2.1
abbrev geW (g : GE) : Nat := g.1.2.2.1
abbrev geS (g : GE) : Nat := g.1.2.2.2
abbrev gn3 (g : GE) : Nat := g.2.1.1
abbrev gn4 (g : GE) : Nat := g.2.1.2.1
abbrev gn5 (g : GE) : Nat := g.2.1.2.2
abbrev gcI (g : GE) : ClassId := g.2.2.1.1
abbrev gcZ (g : GE) : ClassId := g.2.2.1.2
abbrev ga0 (g : GE) : Nat := g.2.2.2.1
abbrev ga3 (g : GE) : Nat := g.2.2.2.2.1
abbrev ga4 (g : GE) : Nat := g.2.2.2.2.2.1
abbrev ga5 (g : GE) : Nat := g.2.2.2.2.2.2.1
abbrev ga6 (g : GE) : Nat := g.2.2.2.2.2.2.2.1
abbrev ga7 (g : GE) : Nat := g.2.2.2.2.2.2.2.2.1
abbrev ga8 (g : GE) : Nat := g.2.2.2.2.2.2.2.2.2
abbrev zfl (g : GE) (u : CS) : List Value := [.int (nI (geF g)), .int (nI (geP g)), .int (nI (geW g)), .ref (ga3 g), .ref (ga4 g), .ref (ga5 g), .ref (ga6 g), .ref (ga7 g), .ref (ga8 g), .int (csh u), .int (csr u), .int (csw u)]
def wd (ci : Nat) (g : GE) (u : CS) : va_W := [(ga0 g, .inr (ci, zfl g u)), (ga3 g, .inl (gcI g, gn3 g, .inl (cs3 u))), (ga4 g, .inl (gcI g, gn4 g, .inl (cs4 u))), (ga5 g, .inl (gcI g, gn5 g, .inl (cs5 u))), (ga6 g, .inl (gcI g, gn5 g, .inl (cs6 u))), (ga7 g, .inl (gcZ g, gn5 g, .inl (cs7 u))), (ga8 g, .inl (gcZ g, gn5 g, .inl (cs8 u)))]
abbrev zty (g : GE) : List (ClassId × FieldType) := [(gcI g, .int), (gcZ g, .boolean)]
/-- a method's standing facts -/
def zC (p : Program) (s : State) (m : MethodId) (args : Array Value) (meth : Method) (c : Code) (cc : ByteArray) (nL : Nat) (ret : Option FieldType) (Ts : List Cond) (own : String) : Prop :=
  p.tables.exec = Jvm.exec ∧ c.code = cc ∧ c.maxLocals = nL ∧ s.vm.findClass own = some m.cls ∧ (∀ w ∈ Ts, w.before args s = true) ∧ meth.sig.returnType = ret ∧ meth.locks = false
/-- the world as it stands -/
def zW (dC : Nat → ClassId) (dI : Nat → Nat → Nat) (ci : Nat) (g : GE) (A : Nat → Prop) (H0 : Heap) (s : State) (u : CS) (H : Heap) (locs : List Loc) : Prop :=
  va_K (dC, dI) vwCl (zty g) s ∧ va_P (dC, dI) vwCl (wd ci g u) H ∧ va_D A (wd ci g u) ∧ va_S A H0 H locs ∧ (∀ q, H0.size ≤ q → A q)
def zB (dC : Nat → ClassId) (dI : Nat → Nat → Nat) (ci : Nat) (g : GE) (A : Nat → Prop) (u : CS) (t : State) : Prop := va_P (dC, dI) vwCl (wd ci g u) t.heap ∧ va_K (dC, dI) vwCl (zty g) t ∧ va_D A (wd ci g u)
def zPre (dC : Nat → ClassId) (dI : Nat → Nat → Nat) (ci : Nat) (g : GE) (u : CS) (sz : Nat) (av : List Value) : Array Value → State → Prop := va_Pc av (fun U => U.heap.size = sz ∧ va_P (dC, dI) vwCl (wd ci g u) U.heap ∧ va_K (dC, dI) vwCl (zty g) U ∧ va_D (fun _ => True) (wd ci g u))
/-- the contract of a method that answers a number -/
def zMI (l : Launch) (y : MethodName) (ws : List Cond) (rm : Room) (dC : Nat → ClassId) (dI : Nat → Nat → Nat) (ci : Nat) (g : GE) (u : CS) (av : List Value) (post : Int32 → CS → Prop) : Prop :=
  ∀ sz, Met l y ws rm (zPre dC dI ci g u sz (.ref (ga0 g) :: av)) (va_Qi post (zB dC dI ci g (va_A (wd ci g u) sz)) (va_A (wd ci g u) sz)) 0 0 (va_A (wd ci g u) sz)
/-- the contract of a method that answers nothing -/
def zMV (l : Launch) (y : MethodName) (ws : List Cond) (rm : Room) (dC : Nat → ClassId) (dI : Nat → Nat → Nat) (ci : Nat) (g : GE) (u : CS) (av : List Value) (post : CS → Prop) : Prop :=
  ∀ sz, Met l y ws rm (zPre dC dI ci g u sz (.ref (ga0 g) :: av)) (va_Qv post (zB dC dI ci g (va_A (wd ci g u) sz)) (va_A (wd ci g u) sz)) 0 0 (va_A (wd ci g u) sz)
def zQI (below : List Frame) (dC : Nat → ClassId) (dI : Nat → Nat → Nat) (ci : Nat) (g : GE) (A : Nat → Prop) (post : Int32 → CS → Prop) (args : Array Value) (s : State) : State → Prop := MQ below (va_Qi post (zB dC dI ci g A) A) args s 0 0 A
def zQV (below : List Frame) (dC : Nat → ClassId) (dI : Nat → Nat → Nat) (ci : Nat) (g : GE) (A : Nat → Prop) (post : CS → Prop) (args : Array Value) (s : State) : State → Prop := MQ below (va_Qv post (zB dC dI ci g A) A) args s 0 0 A
theorem zMI_of {l : Launch} {y : MethodName} {ws ws' : List Cond} {rm : Room} {dC : Nat → ClassId} {dI : Nat → Nat → Nat} {ci : Nat} {g : GE} {u : CS} {av : List Value} {post : Int32 → CS → Prop} {cc : ByteArray} {maxL : Nat} {ret : Option FieldType} (hy : plainName y.cls = true) (hw : ws = Cond.code y cc maxL ret :: ws') (hln : (lg_sl (.ref (ga0 g) :: av)).length ≤ maxL)
    (body : ∀ (p : Program) (e : Env) (s : State) (m : MethodId) (below : List Frame) (meth : Method) (c : Code) (A : Nat → Prop) (ls : Array Slot), zC p s m (Value.ref (ga0 g) :: av).toArray meth c cc maxL ret ws y.cls → zW dC dI ci g A s.heap s u s.heap [] → lv_has ls maxL (lv_args 0 (.ref (ga0 g) :: av)) →
      W p l e rm s m (Value.ref (ga0 g) :: av).toArray below meth c s.heap [] 0 0 (zQI below dC dI ci g A post (Value.ref (ga0 g) :: av).toArray s) (F0 m 0 ls [])) : zMI l y ws rm dC dI ci g u av post := by
  intro sz
  refine Met.ofW (cc := cc) (maxL := maxL) (ret := ret) hy hw ?_
  intro p e s m args below meth c s₁ B hml hv
  obtain ⟨rfl, hsz, hP, hK, hD0⟩ := hv
  subst hsz
  have hD := hD0.self (sz := s.heap.size)
  have hl := lv_entry (.ref (ga0 g) :: av) (n := maxL) hln
  rw [lg_entry_eq]
  exact body p e s m below meth c _ _ ⟨B.exec, B.bytes, hml, findClass_of_methodNamed B.named, atoms_spec (ws := ws) B.pre, B.returns, B.notSynchronized⟩ ⟨hK, hP, hD, va_S.rf, fun q h => Or.inr h⟩ hl
theorem zMV_of {l : Launch} {y : MethodName} {ws ws' : List Cond} {rm : Room} {dC : Nat → ClassId} {dI : Nat → Nat → Nat} {ci : Nat} {g : GE} {u : CS} {av : List Value} {post : CS → Prop} {cc : ByteArray} {maxL : Nat} {ret : Option FieldType} (hy : plainName y.cls = true) (hw : ws = Cond.code y cc maxL ret :: ws') (hln : (lg_sl (.ref (ga0 g) :: av)).length ≤ maxL)
    (body : ∀ (p : Program) (e : Env) (s : State) (m : MethodId) (below : List Frame) (meth : Method) (c : Code) (A : Nat → Prop) (ls : Array Slot), zC p s m (Value.ref (ga0 g) :: av).toArray meth c cc maxL ret ws y.cls → zW dC dI ci g A s.heap s u s.heap [] → lv_has ls maxL (lv_args 0 (.ref (ga0 g) :: av)) →
      W p l e rm s m (Value.ref (ga0 g) :: av).toArray below meth c s.heap [] 0 0 (zQV below dC dI ci g A post (Value.ref (ga0 g) :: av).toArray s) (F0 m 0 ls [])) : zMV l y ws rm dC dI ci g u av post := by
  intro sz
  refine Met.ofW (cc := cc) (maxL := maxL) (ret := ret) hy hw ?_
  intro p e s m args below meth c s₁ B hml hv
  obtain ⟨rfl, hsz, hP, hK, hD0⟩ := hv
  subst hsz
  have hD := hD0.self (sz := s.heap.size)
  have hl := lv_entry (.ref (ga0 g) :: av) (n := maxL) hln
  rw [lg_entry_eq]
  exact body p e s m below meth c _ _ ⟨B.exec, B.bytes, hml, findClass_of_methodNamed B.named, atoms_spec (ws := ws) B.pre, B.returns, B.notSynchronized⟩ ⟨hK, hP, hD, va_S.rf, fun q h => Or.inr h⟩ hl
section ZR
variable {p : Program} {l : Launch} {e : Env} {R : Room} {s : State} {m : MethodId} {args : Array Value} {below : List Frame} {meth : Method} {c : Code} {H : Heap} {locs : List Loc} {cells slots : Nat} {Q : State → Prop}
variable {cc : ByteArray} {nL : Nat} {ret : Option FieldType} {Ts : List Cond} {own : String} {pc : Nat} {ls : Array Slot} {rest : List Value} {dC : Nat → ClassId} {dI : Nat → Nat → Nat} {ci : Nat} {g : GE} {A : Nat → Prop} {H0 : Heap} {u : CS}
theorem z_ret {post : Int32 → CS → Prop} {ty : FieldType} {v : Int32} (Z : zC p s m args meth c cc nL (some ty) Ts own) (Y : zW dC dI ci g A s.heap s u H locs) (hn : narrow ty (.int v) = .int v) (hp : post v u) (hdg : decode cc pc = .ok (.ireturn, 1)) : W p l e R s m args below meth c H locs 0 0 (zQI below dC dI ci g A post args s) (F0 m pc ls [.int v]) := by
  obtain ⟨hx, hb, -, -, -, hr, hlocks⟩ := Z
  obtain ⟨hK, hP, hD, hS, -⟩ := Y
  exact W.zret (v := v) hx hb hr hn (fun t ht hW => ⟨⟨v, u, rfl, hp, by rw [ht]; exact hP, va_K.moved hW.alike hK, hD⟩, hS.F ht⟩) hS.2.2 hdg hlocks
theorem z_vret {post : CS → Prop} (Z : zC p s m args meth c cc nL none Ts own) (Y : zW dC dI ci g A s.heap s u H locs) (hp : post u) (hdg : decode cc pc = .ok (.return_, 1)) : W p l e R s m args below meth c H locs 0 0 (zQV below dC dI ci g A post args s) (F0 m pc ls []) := by
  obtain ⟨hx, hb, -, -, -, hr, hlocks⟩ := Z
  obtain ⟨hK, hP, hD, hS, -⟩ := Y
  exact W.vret hx hb hr (fun t ht hW => ⟨⟨u, rfl, hp, by rw [ht]; exact hP, va_K.moved hW.alike hK, hD⟩, hS.F ht⟩) hS.2.2 hdg hlocks
theorem z_get {C : String} {T : u_T} {index : Nat} (Z : zC p s m args meth c cc nL ret Ts own) (hin : ∀ w ∈ u_ws C T 12, w ∈ Ts) (hc : vwCl[ci]? = some (C, T, 12)) (Y : zW dC dI ci g A H0 s u H locs) (k : Nat) (hk : k < 12) (hlink : (Cond.fieldLink own index C (T k).2.1 (T k).2.2.1).before args s = true) (hC : (T k).1 = C) {v : Value} (hv : (zfl g u)[k]? = some v) (hdg : decode cc pc = .ok (.getfield index, 3))
    (kk : W p l e R s m args below meth c H locs cells slots Q (F0 m (pc + 3) ls (v :: rest))) : W p l e R s m args below meth c H locs cells slots Q (F0 m pc ls (.ref (ga0 g) :: rest)) := by
  obtain ⟨hx, hb, -, hown, hts, -, -⟩ := Z
  obtain ⟨hK, hP, hD, hS, -⟩ := Y
  exact va_get (D := (dC, dI)) (ci := ci) (v := v) (C := C) (T := T) (N := 12) hx hb hts hin hown hK hP 0 (fs := zfl g u) rfl hc k hk hlink (fun x h9 => by rw [hC] at h9; exact h9) hv hdg kk
theorem z_puth {C : String} {T : u_T} {index : Nat} {ty0 : Nat → FieldType} (Z : zC p s m args meth c cc nL ret Ts own) (hin : ∀ w ∈ u_ws C T 12, w ∈ Ts) (hty : ∀ k, k < 12 → parseFieldDescriptor (T k).2.2.1 = some (ty0 k)) (hnm : ∀ a, a < 12 → ∀ b, b < 12 → a ≠ b → (T a).2.1 ≠ (T b).2.1) (hc : vwCl[ci]? = some (C, T, 12)) (Y : zW dC dI ci g A H0 s u H locs) (hlink : (Cond.fieldLink own index C (T 9).2.1 (T 9).2.2.1).before args s = true) (hC : (T 9).1 = C) (hfin : (T 9).2.2.2 = false) (hd : parseFieldDescriptor (T 9).2.2.1 = some .int) {v : Int32} (hdg : decode cc pc = .ok (.putfield index, 3))
    (kk : ∀ (H1 : Heap) (locs1 : List Loc), zW dC dI ci g A H0 s (psh u v) H1 locs1 → W p l e R s m args below meth c H1 locs1 cells slots Q (F0 m (pc + 3) ls rest)) : W p l e R s m args below meth c H locs cells slots Q (F0 m pc ls (.int v :: .ref (ga0 g) :: rest)) := by
  obtain ⟨hx, hb, -, hown, hts, -, -⟩ := Z
  obtain ⟨hK, hP, hD, hS, hA⟩ := Y
  exact va_put (D := (dC, dI)) (ci := ci) (v := .int v) (ty := .int) (C := C) (T := T) (N := 12) hx hb hts hin ty0 hty hnm hown hK hP hD hS 0 (fs := zfl g u) rfl hc 9 (by decide) hlink (fun x h9 => by rw [hC] at h9; exact h9) hfin hd rfl rfl (Nat.le_of_ble_eq_true rfl) hdg (fun H1 locs1 hP1 hD1 hS1 => kk H1 locs1 ⟨hK, hP1, hD1, hS1, hA⟩)
theorem z_putr {C : String} {T : u_T} {index : Nat} {ty0 : Nat → FieldType} (Z : zC p s m args meth c cc nL ret Ts own) (hin : ∀ w ∈ u_ws C T 12, w ∈ Ts) (hty : ∀ k, k < 12 → parseFieldDescriptor (T k).2.2.1 = some (ty0 k)) (hnm : ∀ a, a < 12 → ∀ b, b < 12 → a ≠ b → (T a).2.1 ≠ (T b).2.1) (hc : vwCl[ci]? = some (C, T, 12)) (Y : zW dC dI ci g A H0 s u H locs) (hlink : (Cond.fieldLink own index C (T 10).2.1 (T 10).2.2.1).before args s = true) (hC : (T 10).1 = C) (hfin : (T 10).2.2.2 = false) (hd : parseFieldDescriptor (T 10).2.2.1 = some .int) {v : Int32} (hdg : decode cc pc = .ok (.putfield index, 3))
    (kk : ∀ (H1 : Heap) (locs1 : List Loc), zW dC dI ci g A H0 s (psr u v) H1 locs1 → W p l e R s m args below meth c H1 locs1 cells slots Q (F0 m (pc + 3) ls rest)) : W p l e R s m args below meth c H locs cells slots Q (F0 m pc ls (.int v :: .ref (ga0 g) :: rest)) := by
  obtain ⟨hx, hb, -, hown, hts, -, -⟩ := Z
  obtain ⟨hK, hP, hD, hS, hA⟩ := Y
  exact va_put (D := (dC, dI)) (ci := ci) (v := .int v) (ty := .int) (C := C) (T := T) (N := 12) hx hb hts hin ty0 hty hnm hown hK hP hD hS 0 (fs := zfl g u) rfl hc 10 (by decide) hlink (fun x h9 => by rw [hC] at h9; exact h9) hfin hd rfl rfl (Nat.le_of_ble_eq_true rfl) hdg (fun H1 locs1 hP1 hD1 hS1 => kk H1 locs1 ⟨hK, hP1, hD1, hS1, hA⟩)
theorem z_putw {C : String} {T : u_T} {index : Nat} {ty0 : Nat → FieldType} (Z : zC p s m args meth c cc nL ret Ts own) (hin : ∀ w ∈ u_ws C T 12, w ∈ Ts) (hty : ∀ k, k < 12 → parseFieldDescriptor (T k).2.2.1 = some (ty0 k)) (hnm : ∀ a, a < 12 → ∀ b, b < 12 → a ≠ b → (T a).2.1 ≠ (T b).2.1) (hc : vwCl[ci]? = some (C, T, 12)) (Y : zW dC dI ci g A H0 s u H locs) (hlink : (Cond.fieldLink own index C (T 11).2.1 (T 11).2.2.1).before args s = true) (hC : (T 11).1 = C) (hfin : (T 11).2.2.2 = false) (hd : parseFieldDescriptor (T 11).2.2.1 = some .int) {v : Int32} (hdg : decode cc pc = .ok (.putfield index, 3))
    (kk : ∀ (H1 : Heap) (locs1 : List Loc), zW dC dI ci g A H0 s (psw u v) H1 locs1 → W p l e R s m args below meth c H1 locs1 cells slots Q (F0 m (pc + 3) ls rest)) : W p l e R s m args below meth c H locs cells slots Q (F0 m pc ls (.int v :: .ref (ga0 g) :: rest)) := by
  obtain ⟨hx, hb, -, hown, hts, -, -⟩ := Z
  obtain ⟨hK, hP, hD, hS, hA⟩ := Y
  exact va_put (D := (dC, dI)) (ci := ci) (v := .int v) (ty := .int) (C := C) (T := T) (N := 12) hx hb hts hin ty0 hty hnm hown hK hP hD hS 0 (fs := zfl g u) rfl hc 11 (by decide) hlink (fun x h9 => by rw [hC] at h9; exact h9) hfin hd rfl rfl (Nat.le_of_ble_eq_true rfl) hdg (fun H1 locs1 hP1 hD1 hS1 => kk H1 locs1 ⟨hK, hP1, hD1, hS1, hA⟩)
theorem z_ld3 (Z : zC p s m args meth c cc nL ret Ts own) (Y : zW dC dI ci g A H0 s u H locs) {i : Int32} (k : Nat) (hi : i = nI k) (hk : k < gn3 g) (hn : gn3 g < 2 ^ 31) (hdg : decode cc pc = .ok (.iaload, 1))
    (kk : W p l e R s m args below meth c H locs cells slots Q (F0 m (pc + 1) ls (.int (cs3 u k) :: rest))) : W p l e R s m args below meth c H locs cells slots Q (F0 m pc ls (.int i :: .ref (ga3 g) :: rest)) := by
  obtain ⟨hx, hb, -, hown, hts, -, -⟩ := Z
  obtain ⟨hK, hP, hD, hS, hA⟩ := Y
  subst hi
  refine va_iald hx hb hK hP 1 0 (f := cs3 u) rfl rfl (vp_in_nI hk hn) hdg ?_
  rw [nI_clamp (by omega)]
  exact kk
theorem z_st3 (Z : zC p s m args meth c cc nL ret Ts own) (Y : zW dC dI ci g A H0 s u H locs) {i x : Int32} (k : Nat) (hi : i = nI k) (hk : k < gn3 g) (hn : gn3 g < 2 ^ 31) (hdg : decode cc pc = .ok (.iastore, 1))
    (kk : ∀ (H1 : Heap) (locs1 : List Loc), zW dC dI ci g A H0 s (ps3 u (upd (cs3 u) k x)) H1 locs1 → W p l e R s m args below meth c H1 locs1 cells slots Q (F0 m (pc + 1) ls rest)) : W p l e R s m args below meth c H locs cells slots Q (F0 m pc ls (.int x :: .int i :: .ref (ga3 g) :: rest)) := by
  obtain ⟨hx, hb, -, hown, hts, -, -⟩ := Z
  obtain ⟨hK, hP, hD, hS, hA⟩ := Y
  subst hi
  refine va_iast hx hb hK hP hD hS 1 0 (f := cs3 u) rfl rfl (vp_in_nI hk hn) hdg (fun H1 locs1 hP1 hD1 hS1 => ?_)
  rw [nI_clamp (by omega)] at hP1 hD1
  exact kk H1 locs1 ⟨hK, hP1, hD1, hS1, hA⟩
theorem z_ld4 (Z : zC p s m args meth c cc nL ret Ts own) (Y : zW dC dI ci g A H0 s u H locs) {i : Int32} (k : Nat) (hi : i = nI k) (hk : k < gn4 g) (hn : gn4 g < 2 ^ 31) (hdg : decode cc pc = .ok (.iaload, 1))
    (kk : W p l e R s m args below meth c H locs cells slots Q (F0 m (pc + 1) ls (.int (cs4 u k) :: rest))) : W p l e R s m args below meth c H locs cells slots Q (F0 m pc ls (.int i :: .ref (ga4 g) :: rest)) := by
  obtain ⟨hx, hb, -, hown, hts, -, -⟩ := Z
  obtain ⟨hK, hP, hD, hS, hA⟩ := Y
  subst hi
  refine va_iald hx hb hK hP 2 0 (f := cs4 u) rfl rfl (vp_in_nI hk hn) hdg ?_
  rw [nI_clamp (by omega)]
  exact kk
theorem z_st4 (Z : zC p s m args meth c cc nL ret Ts own) (Y : zW dC dI ci g A H0 s u H locs) {i x : Int32} (k : Nat) (hi : i = nI k) (hk : k < gn4 g) (hn : gn4 g < 2 ^ 31) (hdg : decode cc pc = .ok (.iastore, 1))
    (kk : ∀ (H1 : Heap) (locs1 : List Loc), zW dC dI ci g A H0 s (ps4 u (upd (cs4 u) k x)) H1 locs1 → W p l e R s m args below meth c H1 locs1 cells slots Q (F0 m (pc + 1) ls rest)) : W p l e R s m args below meth c H locs cells slots Q (F0 m pc ls (.int x :: .int i :: .ref (ga4 g) :: rest)) := by
  obtain ⟨hx, hb, -, hown, hts, -, -⟩ := Z
  obtain ⟨hK, hP, hD, hS, hA⟩ := Y
  subst hi
  refine va_iast hx hb hK hP hD hS 2 0 (f := cs4 u) rfl rfl (vp_in_nI hk hn) hdg (fun H1 locs1 hP1 hD1 hS1 => ?_)
  rw [nI_clamp (by omega)] at hP1 hD1
  exact kk H1 locs1 ⟨hK, hP1, hD1, hS1, hA⟩
theorem z_ld5 (Z : zC p s m args meth c cc nL ret Ts own) (Y : zW dC dI ci g A H0 s u H locs) {i : Int32} (k : Nat) (hi : i = nI k) (hk : k < gn5 g) (hn : gn5 g < 2 ^ 31) (hdg : decode cc pc = .ok (.iaload, 1))
    (kk : W p l e R s m args below meth c H locs cells slots Q (F0 m (pc + 1) ls (.int (cs5 u k) :: rest))) : W p l e R s m args below meth c H locs cells slots Q (F0 m pc ls (.int i :: .ref (ga5 g) :: rest)) := by
  obtain ⟨hx, hb, -, hown, hts, -, -⟩ := Z
  obtain ⟨hK, hP, hD, hS, hA⟩ := Y
  subst hi
  refine va_iald hx hb hK hP 3 0 (f := cs5 u) rfl rfl (vp_in_nI hk hn) hdg ?_
  rw [nI_clamp (by omega)]
  exact kk
theorem z_st5 (Z : zC p s m args meth c cc nL ret Ts own) (Y : zW dC dI ci g A H0 s u H locs) {i x : Int32} (k : Nat) (hi : i = nI k) (hk : k < gn5 g) (hn : gn5 g < 2 ^ 31) (hdg : decode cc pc = .ok (.iastore, 1))
    (kk : ∀ (H1 : Heap) (locs1 : List Loc), zW dC dI ci g A H0 s (ps5 u (upd (cs5 u) k x)) H1 locs1 → W p l e R s m args below meth c H1 locs1 cells slots Q (F0 m (pc + 1) ls rest)) : W p l e R s m args below meth c H locs cells slots Q (F0 m pc ls (.int x :: .int i :: .ref (ga5 g) :: rest)) := by
  obtain ⟨hx, hb, -, hown, hts, -, -⟩ := Z
  obtain ⟨hK, hP, hD, hS, hA⟩ := Y
  subst hi
  refine va_iast hx hb hK hP hD hS 3 0 (f := cs5 u) rfl rfl (vp_in_nI hk hn) hdg (fun H1 locs1 hP1 hD1 hS1 => ?_)
  rw [nI_clamp (by omega)] at hP1 hD1
  exact kk H1 locs1 ⟨hK, hP1, hD1, hS1, hA⟩
theorem z_ld6 (Z : zC p s m args meth c cc nL ret Ts own) (Y : zW dC dI ci g A H0 s u H locs) {i : Int32} (k : Nat) (hi : i = nI k) (hk : k < gn5 g) (hn : gn5 g < 2 ^ 31) (hdg : decode cc pc = .ok (.iaload, 1))
    (kk : W p l e R s m args below meth c H locs cells slots Q (F0 m (pc + 1) ls (.int (cs6 u k) :: rest))) : W p l e R s m args below meth c H locs cells slots Q (F0 m pc ls (.int i :: .ref (ga6 g) :: rest)) := by
  obtain ⟨hx, hb, -, hown, hts, -, -⟩ := Z
  obtain ⟨hK, hP, hD, hS, hA⟩ := Y
  subst hi
  refine va_iald hx hb hK hP 4 0 (f := cs6 u) rfl rfl (vp_in_nI hk hn) hdg ?_
  rw [nI_clamp (by omega)]
  exact kk
theorem z_st6 (Z : zC p s m args meth c cc nL ret Ts own) (Y : zW dC dI ci g A H0 s u H locs) {i x : Int32} (k : Nat) (hi : i = nI k) (hk : k < gn5 g) (hn : gn5 g < 2 ^ 31) (hdg : decode cc pc = .ok (.iastore, 1))
    (kk : ∀ (H1 : Heap) (locs1 : List Loc), zW dC dI ci g A H0 s (ps6 u (upd (cs6 u) k x)) H1 locs1 → W p l e R s m args below meth c H1 locs1 cells slots Q (F0 m (pc + 1) ls rest)) : W p l e R s m args below meth c H locs cells slots Q (F0 m pc ls (.int x :: .int i :: .ref (ga6 g) :: rest)) := by
  obtain ⟨hx, hb, -, hown, hts, -, -⟩ := Z
  obtain ⟨hK, hP, hD, hS, hA⟩ := Y
  subst hi
  refine va_iast hx hb hK hP hD hS 4 0 (f := cs6 u) rfl rfl (vp_in_nI hk hn) hdg (fun H1 locs1 hP1 hD1 hS1 => ?_)
  rw [nI_clamp (by omega)] at hP1 hD1
  exact kk H1 locs1 ⟨hK, hP1, hD1, hS1, hA⟩
theorem z_ld7 (Z : zC p s m args meth c cc nL ret Ts own) (Y : zW dC dI ci g A H0 s u H locs) {i : Int32} (k : Nat) (hi : i = nI k) (hk : k < gn5 g) (hn : gn5 g < 2 ^ 31) (hdg : decode cc pc = .ok (.baload, 1))
    (kk : W p l e R s m args below meth c H locs cells slots Q (F0 m (pc + 1) ls (.int (cs7 u k) :: rest))) : W p l e R s m args below meth c H locs cells slots Q (F0 m pc ls (.int i :: .ref (ga7 g) :: rest)) := by
  obtain ⟨hx, hb, -, hown, hts, -, -⟩ := Z
  obtain ⟨hK, hP, hD, hS, hA⟩ := Y
  subst hi
  refine va_zald hx hb hK hP 5 1 (f := cs7 u) rfl rfl (vp_in_nI hk hn) hdg ?_
  rw [nI_clamp (by omega)]
  exact kk
theorem z_st7 (Z : zC p s m args meth c cc nL ret Ts own) (Y : zW dC dI ci g A H0 s u H locs) {i x : Int32} (k : Nat) (hi : i = nI k) (hk : k < gn5 g) (hn : gn5 g < 2 ^ 31) (hx0 : vp_nar .boolean x = x) (hdg : decode cc pc = .ok (.bastore, 1))
    (kk : ∀ (H1 : Heap) (locs1 : List Loc), zW dC dI ci g A H0 s (ps7 u (upd (cs7 u) k x)) H1 locs1 → W p l e R s m args below meth c H1 locs1 cells slots Q (F0 m (pc + 1) ls rest)) : W p l e R s m args below meth c H locs cells slots Q (F0 m pc ls (.int x :: .int i :: .ref (ga7 g) :: rest)) := by
  obtain ⟨hx, hb, -, hown, hts, -, -⟩ := Z
  obtain ⟨hK, hP, hD, hS, hA⟩ := Y
  subst hi
  refine va_zast hx hb hK hP hD hS 5 1 (f := cs7 u) rfl rfl (vp_in_nI hk hn) hdg (fun H1 locs1 hP1 hD1 hS1 => ?_)
  rw [nI_clamp (by omega), hx0] at hP1 hD1
  exact kk H1 locs1 ⟨hK, hP1, hD1, hS1, hA⟩
theorem z_ld8 (Z : zC p s m args meth c cc nL ret Ts own) (Y : zW dC dI ci g A H0 s u H locs) {i : Int32} (k : Nat) (hi : i = nI k) (hk : k < gn5 g) (hn : gn5 g < 2 ^ 31) (hdg : decode cc pc = .ok (.baload, 1))
    (kk : W p l e R s m args below meth c H locs cells slots Q (F0 m (pc + 1) ls (.int (cs8 u k) :: rest))) : W p l e R s m args below meth c H locs cells slots Q (F0 m pc ls (.int i :: .ref (ga8 g) :: rest)) := by
  obtain ⟨hx, hb, -, hown, hts, -, -⟩ := Z
  obtain ⟨hK, hP, hD, hS, hA⟩ := Y
  subst hi
  refine va_zald hx hb hK hP 6 1 (f := cs8 u) rfl rfl (vp_in_nI hk hn) hdg ?_
  rw [nI_clamp (by omega)]
  exact kk
theorem z_st8 (Z : zC p s m args meth c cc nL ret Ts own) (Y : zW dC dI ci g A H0 s u H locs) {i x : Int32} (k : Nat) (hi : i = nI k) (hk : k < gn5 g) (hn : gn5 g < 2 ^ 31) (hx0 : vp_nar .boolean x = x) (hdg : decode cc pc = .ok (.bastore, 1))
    (kk : ∀ (H1 : Heap) (locs1 : List Loc), zW dC dI ci g A H0 s (ps8 u (upd (cs8 u) k x)) H1 locs1 → W p l e R s m args below meth c H1 locs1 cells slots Q (F0 m (pc + 1) ls rest)) : W p l e R s m args below meth c H locs cells slots Q (F0 m pc ls (.int x :: .int i :: .ref (ga8 g) :: rest)) := by
  obtain ⟨hx, hb, -, hown, hts, -, -⟩ := Z
  obtain ⟨hK, hP, hD, hS, hA⟩ := Y
  subst hi
  refine va_zast hx hb hK hP hD hS 6 1 (f := cs8 u) rfl rfl (vp_in_nI hk hn) hdg (fun H1 locs1 hP1 hD1 hS1 => ?_)
  rw [nI_clamp (by omega), hx0] at hP1 hD1
  exact kk H1 locs1 ⟨hK, hP1, hD1, hS1, hA⟩
/-- a number under another name -/
theorem z_top {x : Int32} (v : Int32) (h : x = v) (kk : W p l e R s m args below meth c H locs cells slots Q (F0 m pc ls (.int v :: rest))) : W p l e R s m args below meth c H locs cells slots Q (F0 m pc ls (.int x :: rest)) := by
  subst h
  exact kk
theorem zPre_blind {sz : Nat} {av : List Value} : FrameBlind (zPre dC dI ci g u sz av) := by
  intro a U g' mk q
  obtain ⟨q0, q1, qP, qK, qD⟩ := q
  exact ⟨q0, q1, qP, va_K.moved (u := U) (U := U.calling g' mk a) (Vm.Alike.refl U.vm) qK, qD⟩
theorem zW_free (Y : zW dC dI ci g A H0 s u H locs) : ∀ q, va_A (wd ci g u) H.size q → A q := by
  obtain ⟨hK, hP, hD, hS, hA⟩ := Y
  rintro q (⟨k, e, h⟩ | h)
  · exact hD.2 k (q, e) h
  · exact hA q (Nat.le_trans hS.1 h)
theorem zW_back {t : State} {u' : CS} {H1 : Heap} {locs1 : List Loc} (Y : zW dC dI ci g A H0 s u H locs) (ht : t.heap = H1) (hB : zB dC dI ci g (va_A (wd ci g u) H.size) u' t) (hS1 : va_S A H0 H1 locs1) : zW dC dI ci g A H0 s u' H1 locs1 := by
  obtain ⟨hP1, hK1, hD1⟩ := hB
  have hF := zW_free Y
  exact ⟨Y.1, by rw [← ht]; exact hP1, hD1.weaken (fun k q _ h => hF q.1 h), hS1, Y.2.2.2.2⟩
theorem z_recv {C : String} {T : u_T} (Y : zW dC dI ci g A H0 s u H locs) (hc : vwCl[ci]? = some (C, T, 12)) : ∃ cell : Cell, H[ga0 g]? = some cell ∧ cell.vm.isStatics = false ∧ s.vm.findClass C = some cell.cls :=
  va_recv (q := (C, T, 12)) Y.1 Y.2.1 (ci := ci) (q0 := 0) (fs := zfl g u) hc rfl
theorem z_preV {C : String} {T : u_T} {av : List Value} (Y : zW dC dI ci g A H0 s u H locs) (hc : vwCl[ci]? = some (C, T, 12)) : PreV s H C (ga0 g) (zPre dC dI ci g u H.size (.ref (ga0 g) :: av)) av :=
  ⟨zPre_blind, z_recv Y hc, fun U hU hW => ⟨rfl, by rw [hU], by rw [hU]; exact Y.2.1, va_K.moved hW.alike Y.1, Y.2.2.1.weaken (fun _ _ _ _ => trivial)⟩⟩
theorem z_callI {y : MethodName} {ws : List Cond} {rm : Room} {av : List Value} {post : Int32 → CS → Prop} {C : String} {T : u_T} {bytes : ByteArray} {maxL n index : Nat} {ry : Option FieldType} {st0 : List Value} (Z : zC p s m args meth c cc nL ret Ts own) (Y : zW dC dI ci g A H0 s u H locs) (hc : vwCl[ci]? = some (C, T, 12)) (hM : zMI l y ws rm dC dI ci g u av post) (cw : CallW R s args own C index y bytes maxL ry ws rm 0 0 n)
    (hn : av.length = n) (hsz : ls.size = nL) (hst : st0 = av.reverse ++ .ref (ga0 g) :: rest) (hW : (rest.map fun v => v.category).sum ≤ 8) (hdg : decode cc pc = .ok (.invokevirtual index, 3)) (hf : cells ≤ R.cells ∧ slots ≤ R.slots)
    (kk : ∀ (r : Int32) (u1 : CS) (H1 : Heap) (locs1 : List Loc), post r u1 → zW dC dI ci g A H0 s u1 H1 locs1 → W p l e R s m args below meth c H1 locs1 cells slots Q (F0 m (pc + 3) ls (.int r :: rest))) : W p l e R s m args below meth c H locs cells slots Q (F0 m pc ls st0) := by
  obtain ⟨hx, hb, hml, hown, hts, -, -⟩ := Z
  have hF := zW_free Y
  exact va_calli (va_runV (As := av) (rest := rest) (g := F0 m pc ls st0) (nL := nL) ⟨hx, hb, hml, hown, hts⟩ (hM H.size) cw (z_preV Y hc) rfl hn hsz hst (lv_room hW) hdg hf) Y.2.2.2.1 (fun q _ h => hF q h) hF (fun r u1 t H1 locs1 ht hvm hw hB hz1 hk1 hS1 => kk r u1 H1 locs1 hw (zW_back Y ht hB hS1))
theorem z_callV {y : MethodName} {ws : List Cond} {rm : Room} {av : List Value} {post : CS → Prop} {C : String} {T : u_T} {bytes : ByteArray} {maxL n index : Nat} {ry : Option FieldType} {st0 : List Value} (Z : zC p s m args meth c cc nL ret Ts own) (Y : zW dC dI ci g A H0 s u H locs) (hc : vwCl[ci]? = some (C, T, 12)) (hM : zMV l y ws rm dC dI ci g u av post) (cw : CallW R s args own C index y bytes maxL ry ws rm 0 0 n)
    (hn : av.length = n) (hsz : ls.size = nL) (hst : st0 = av.reverse ++ .ref (ga0 g) :: rest) (hW : (rest.map fun v => v.category).sum ≤ 8) (hdg : decode cc pc = .ok (.invokevirtual index, 3)) (hf : cells ≤ R.cells ∧ slots ≤ R.slots)
    (kk : ∀ (u1 : CS) (H1 : Heap) (locs1 : List Loc), post u1 → zW dC dI ci g A H0 s u1 H1 locs1 → W p l e R s m args below meth c H1 locs1 cells slots Q (F0 m (pc + 3) ls (rest))) : W p l e R s m args below meth c H locs cells slots Q (F0 m pc ls st0) := by
  obtain ⟨hx, hb, hml, hown, hts, -, -⟩ := Z
  have hF := zW_free Y
  exact va_callv (va_runV (As := av) (rest := rest) (g := F0 m pc ls st0) (nL := nL) ⟨hx, hb, hml, hown, hts⟩ (hM H.size) cw (z_preV Y hc) rfl hn hsz hst (lv_room hW) hdg hf) Y.2.2.2.1 (fun q _ h => hF q h) hF (fun u1 t H1 locs1 ht hvm hw hB hz1 hk1 hS1 => kk u1 H1 locs1 hw (zW_back Y ht hB hS1))
end ZR
