/-! ===== what the value keeps to, behind each word ===== -/
theorem Iv_empty {g : GE} {N : Nat} {a : AS} (f : Nat) (h : Iv g N a) : Iv g N (oEmpty f a) := by
  obtain ⟨h1, h2, h3, h4, h5⟩ := h
  refine ⟨h1, fun k hk => ?_, fun k k' hk hk' => ?_, fun k hk => ?_, fun k hk => ?_⟩
  · show upd (apg a) f (-1) k = -1 ∨ ∃ p, p < geP g ∧ upd (apg a) f (-1) k = nI p
    by_cases e : k = f
    · subst e; rw [pk_us]; exact Or.inl rfl
    · rw [pk_un e]; exact h2 k hk
  · show upd (apg a) f (-1) k = upd (apg a) f (-1) k' → upd (apg a) f (-1) k ≠ -1 → k = k'
    by_cases e : k = f
    · subst e; rw [pk_us]; intro _ h; exact absurd rfl h
    · rw [pk_un e]
      by_cases e' : k' = f
      · subst e'; rw [pk_us]; intro h h0; exact absurd h h0
      · rw [pk_un e']; exact h3 k k' hk hk'
  · show upd (apg a) f (-1) k = -1 → va_up (apn a) f 0 k = 0 ∧ upd (adt a) f (nI 0) k = nI 0 ∧ upd (amk a) f (nI 0) k = nI 0
    by_cases e : k = f
    · subst e; exact fun _ => ⟨va_up_self _ _ _, pk_us, pk_us⟩
    · rw [pk_un e, pk_un e, pk_un e, va_up_ne _ _ e]; exact h4 k hk
  · show va_up (apn a) f 0 k ≤ N
    by_cases e : k = f
    · subst e; rw [va_up_self]; exact Nat.zero_le _
    · rw [va_up_ne _ _ e]; exact h5 k hk
theorem Iv_store {g : GE} {N : Nat} {a : AS} (f p : Nat) (h : Iv g N a) : Iv g N (oStore f p a) := by
  obtain ⟨h1, h2, h3, h4, h5⟩ := h
  refine ⟨h1, h2, h3, fun k hk e0 => ?_, h5⟩
  obtain ⟨q1, q2, q3⟩ := h4 k hk e0
  refine ⟨q1, ?_, q3⟩
  show upd (adt a) f (nI 0) k = nI 0
  by_cases e : k = f
  · subst e; rw [pk_us]
  · rw [pk_un e]; exact q2
theorem Iv_hand {g : GE} {N : Nat} {a : AS} {k : Nat} (hk : k < geF g) (h : Iv g N a) : Iv g N (oHand k a) := ⟨hk, h.2.1, h.2.2.1, h.2.2.2.1, h.2.2.2.2⟩
theorem Iv_mark {g : GE} {N : Nat} {a : AS} {f : Nat} {v : Int32} (hv : apg a f = -1 → v = nI 0) (h : Iv g N a) : Iv g N (oMark f v a) := by
  obtain ⟨h1, h2, h3, h4, h5⟩ := h
  refine ⟨h1, h2, h3, fun k hk e0 => ?_, h5⟩
  obtain ⟨q1, q2, q3⟩ := h4 k hk e0
  refine ⟨q1, q2, ?_⟩
  show upd (amk a) f v k = nI 0
  by_cases e : k = f
  · subst e; rw [pk_us]; exact hv e0
  · rw [pk_un e]; exact q3
theorem Iv_read {g : GE} {N : Nat} {a : AS} {f p : Nat} (hp : p < geP g) (hP : geP g < 2 ^ 31) (hno : ∀ k, k < geF g → apg a k ≠ nI p) (h : Iv g N a) : Iv g N (oRead f p a) := by
  obtain ⟨h1, h2, h3, h4, h5⟩ := h
  refine ⟨h1, fun k hk => ?_, fun k k' hk hk' => ?_, fun k hk => ?_, h5⟩
  · show upd (apg a) f (nI p) k = -1 ∨ ∃ q, q < geP g ∧ upd (apg a) f (nI p) k = nI q
    by_cases e : k = f
    · subst e; rw [pk_us]; exact Or.inr ⟨p, hp, rfl⟩
    · rw [pk_un e]; exact h2 k hk
  · show upd (apg a) f (nI p) k = upd (apg a) f (nI p) k' → upd (apg a) f (nI p) k ≠ -1 → k = k'
    by_cases e : k = f
    · subst e; rw [pk_us]
      by_cases e' : k' = k
      · exact fun _ _ => e'.symm
      · rw [pk_un e']; intro h _; exact absurd h.symm (hno k' hk')
    · rw [pk_un e]
      by_cases e' : k' = f
      · subst e'; rw [pk_us]; intro h _; exact absurd h (hno k hk)
      · rw [pk_un e']; exact h3 k k' hk hk'
  · show upd (apg a) f (nI p) k = -1 → apn a k = 0 ∧ adt a k = nI 0 ∧ amk a k = nI 0
    by_cases e : k = f
    · subst e; rw [pk_us]; intro h; exact absurd h (nI_ne_m1 (by omega))
    · rw [pk_un e]; exact h4 k hk
theorem Iv_pin {g : GE} {N : Nat} {a : AS} {f : Nat} (hf : f < geF g) (he : apg a f ≠ -1) (h : Iv g N a) : Iv g (N + 1) (oPin f a) := by
  obtain ⟨h1, h2, h3, h4, h5⟩ := h
  refine ⟨h1, h2, h3, fun k hk => ?_, fun k hk => ?_⟩
  · show apg a k = -1 → va_up (apn a) f (apn a f + 1) k = 0 ∧ adt a k = nI 0 ∧ upd (amk a) f (nI 1) k = nI 0
    by_cases e : k = f
    · subst e; intro h; exact absurd h he
    · rw [va_up_ne _ _ e, pk_un e]; exact h4 k hk
  · show va_up (apn a) f (apn a f + 1) k ≤ N + 1
    have := h5 k hk
    have := h5 f hf
    by_cases e : k = f
    · subst e; rw [va_up_self]; omega
    · rw [va_up_ne _ _ e]; omega
theorem Iv_unpin {g : GE} {N : Nat} {a : AS} {f : Nat} (hf : f < geF g) (h : Iv g N a) : Iv g N (oUnpin f a) := by
  obtain ⟨h1, h2, h3, h4, h5⟩ := h
  refine ⟨h1, h2, h3, fun k hk => ?_, fun k hk => ?_⟩
  · show apg a k = -1 → va_up (apn a) f (apn a f - 1) k = 0 ∧ adt a k = nI 0 ∧ amk a k = nI 0
    intro h0
    obtain ⟨q1, q2, q3⟩ := h4 k hk h0
    refine ⟨?_, q2, q3⟩
    by_cases e : k = f
    · subst e; rw [va_up_self]; omega
    · rw [va_up_ne _ _ e]; exact q1
  · show va_up (apn a) f (apn a f - 1) k ≤ N
    have := h5 k hk
    by_cases e : k = f
    · subst e; rw [va_up_self]; omega
    · rw [va_up_ne _ _ e]; exact this
theorem Iv_row {g : GE} {N : Nat} {a : AS} {f : Nat} (r : Nat → Int32) (he : apg a f ≠ -1) (h : Iv g N a) : Iv g N (oRow f r a) := by
  obtain ⟨h1, h2, h3, h4, h5⟩ := h
  refine ⟨h1, h2, h3, fun k hk h0 => ?_, h5⟩
  obtain ⟨q1, q2, q3⟩ := h4 k hk h0
  refine ⟨q1, ?_, q3⟩
  show upd (adt a) f (nI 1) k = nI 0
  by_cases e : k = f
  · subst e; exact absurd h0 he
  · rw [pk_un e]; exact q2
theorem Iv_init {g : GE} {a : AS} (N : Nat) (hg : gok g) : Iv g N (oInit a) := ⟨hg.1, fun _ _ => Or.inl rfl, fun _ _ _ _ _ h => absurd rfl h, fun _ _ _ => ⟨rfl, rfl, rfl⟩, fun _ _ => Nat.zero_le _⟩
theorem Iv_more {g : GE} {N : Nat} {a : AS} (h : Iv g N a) : Iv g (N + 1) a := ⟨h.1, h.2.1, h.2.2.1, h.2.2.2.1, fun f hf => Nat.le_succ_of_le (h.2.2.2.2 f hf)⟩
/-! ===== what each method answers and does ===== -/
noncomputable def fnd (F : Nat) (pg : Nat → Int32) (x : Int32) : Option Nat := @dite _ (∃ f, f < F ∧ pg f = x) (Classical.propDecidable _) (fun h => some (Classical.choose h)) (fun _ => none)
theorem fnd_none {F : Nat} {pg : Nat → Int32} {x : Int32} (h : ∀ f, f < F → pg f ≠ x) : fnd F pg x = none := dif_neg (fun ⟨f, h1, h2⟩ => h f h1 h2)
theorem fnd_some {F : Nat} {pg : Nat → Int32} {x : Int32} {f : Nat} (hf : f < F) (hx : pg f = x) (hu : ∀ f', f' < F → pg f' = x → f' = f) : fnd F pg x = some f := by
  have h : ∃ f, f < F ∧ pg f = x := ⟨f, hf, hx⟩
  unfold fnd
  rw [dif_pos h]
  exact congrArg some (hu _ (Classical.choose_spec h).1 (Classical.choose_spec h).2)
noncomputable def fop (g : GE) (a : AS) (x : Int32) : Option Nat := pIf (vp_in x (geP g)) (fnd (geF g) (apg a) x) none
/-- a frame that has the page -/
theorem fop_some {g : GE} {N : Nat} {a : AS} {f p : Nat} (hg : gok g) (h : Iv g N a) (hf : f < geF g) (hp : p < geP g) (hx : apg a f = nI p) : fop g a (nI p) = some f := by
  have hP : geP g < 2 ^ 31 := by have := hg.2.2.2.1; omega
  unfold fop
  rw [pIf_t (in_nI hp hP)]
  refine fnd_some hf hx (fun f' hf' hx' => h.2.2.1 f' f hf' hf (hx'.trans hx.symm) ?_)
  rw [hx']
  exact nI_ne_m1 (by omega)
theorem fop_none {g : GE} {a : AS} {x : Int32} (h : vp_in x (geP g) → ∀ f, f < geF g → apg a f ≠ x) : fop g a x = none := by
  unfold fop
  exact pIf_p (fun z => z = none) (fun h1 => fnd_none (h h1)) (fun _ => rfl)
def cnt (pn : Nat → Nat) : Nat → Nat
  | 0 => 0
  | n + 1 => cnt pn n + (if 0 < pn n then 1 else 0)
theorem cnt_le (pn : Nat → Nat) (n : Nat) : cnt pn n ≤ n := by
  induction n with
  | zero => exact Nat.le_refl _
  | succ n ih =>
    show cnt pn n + (if 0 < pn n then 1 else 0) ≤ n + 1
    split <;> omega
theorem cnt_lt {pn : Nat → Nat} {n : Nat} (h : cnt pn n ≠ n) : ∃ f, f < n ∧ pn f = 0 := by
  induction n with
  | zero => exact absurd rfl h
  | succ n ih =>
    by_cases h0 : pn n = 0
    · exact ⟨n, by omega, h0⟩
    · have h1 : cnt pn (n + 1) = cnt pn n + 1 := by show cnt pn n + (if 0 < pn n then 1 else 0) = _; rw [if_pos (by omega)]
      obtain ⟨f, q1, q2⟩ := ih (by omega)
      exact ⟨f, by omega, q2⟩
/-- the hand looks at a frame: found or not, and what is then -/
def gw (f : Nat) (a : AS) : Bool × AS := if 0 < apn a f then (false, a) else if apg a f = -1 then (true, a) else if amk a f = 0 then (true, oEmpty f (if adt a f = 0 then a else oStore f (apg a f).toNatClampNeg a)) else (false, oMark f (nI 0) a)
def nx (g : GE) (h : Nat) : Nat := if h + 1 < geF g then h + 1 else 0
def findN (g : GE) : Nat → AS → AS × Option Nat
  | 0, a => (a, none)
  | n + 1, a => if (gw (ahd a) (oHand (nx g (ahd a)) a)).1 = true then ((gw (ahd a) (oHand (nx g (ahd a)) a)).2, some (ahd a)) else findN g n (gw (ahd a) (oHand (nx g (ahd a)) a)).2
theorem nx_lt {g : GE} (hg : gok g) (h : Nat) : nx g h < geF g := by
  have := hg.1
  unfold nx
  split <;> omega
theorem gw_Iv {g : GE} {N : Nat} {a : AS} (f : Nat) (h : Iv g N a) : Iv g N (gw f a).2 := by
  unfold gw
  split
  · exact h
  · split
    · exact h
    · split
      · split
        · exact Iv_empty f h
        · exact Iv_empty f (Iv_store f _ h)
      · exact Iv_mark (fun _ => rfl) h
theorem gw_pg {a : AS} (f k : Nat) : apg (gw f a).2 k = apg a k ∨ apg (gw f a).2 k = -1 := by
  unfold gw
  split
  · exact Or.inl rfl
  · split
    · exact Or.inl rfl
    · split
      · have key : ∀ b : AS, apg b = apg a → apg (oEmpty f b) k = apg a k ∨ apg (oEmpty f b) k = -1 := by
          intro b hb
          show upd (apg b) f (-1) k = _ ∨ upd (apg b) f (-1) k = _
          by_cases e : k = f
          · subst e; rw [pk_us]; exact Or.inr rfl
          · rw [pk_un e, hb]; exact Or.inl rfl
        split
        · exact key _ rfl
        · exact key _ rfl
      · exact Or.inl rfl
theorem findN_ok {g : GE} {N : Nat} (hg : gok g) (x : Int32) (hx : x ≠ -1) : ∀ (n : Nat) (a : AS), Iv g N a → (∀ k, k < geF g → apg a k ≠ x) → Iv g N (findN g n a).1 ∧ (∀ k, k < geF g → apg (findN g n a).1 k ≠ x) ∧ ∀ f, (findN g n a).2 = some f → f < geF g := by
  intro n
  induction n with
  | zero => intro a h1 h2; exact ⟨h1, h2, fun f h => by cases h⟩
  | succ n ih =>
    intro a h1 h2
    have k1 := gw_Iv (ahd a) (Iv_hand (nx_lt hg (ahd a)) h1)
    have k2 : ∀ k, k < geF g → apg (gw (ahd a) (oHand (nx g (ahd a)) a)).2 k ≠ x := fun k hk => by
      rcases gw_pg (a := oHand (nx g (ahd a)) a) (ahd a) k with e | e
      · rw [e]; exact h2 k hk
      · rw [e]; exact fun q => hx q.symm
    unfold findN
    split
    · exact ⟨k1, k2, fun f h => by cases h; exact h1.1⟩
    · exact ih _ k1 k2
/-- how far the hand is from a frame -/
def far (F h f : Nat) : Nat := if h ≤ f then f - h else f + F - h
theorem findN_some {g : GE} (hg : gok g) {f0 : Nat} (hf0 : f0 < geF g) : ∀ (n : Nat) (a : AS), ahd a < geF g → apn a f0 = 0 → far (geF g) (ahd a) f0 + (if amk a f0 = 0 then 0 else geF g) < n → ∃ f, (findN g n a).2 = some f := by
  intro n
  induction n with
  | zero => intro a _ _ h; omega
  | succ n ih =>
    intro a hh hp hm
    unfold findN
    split
    · exact ⟨_, rfl⟩
    · rename_i hnf
      have hF := hg.1
      have far_nx : ahd a ≠ f0 → far (geF g) (nx g (ahd a)) f0 + 1 = far (geF g) (ahd a) f0 := by
        intro hne
        unfold far nx
        split <;> split <;> split <;> omega
      have far_nx0 : ahd a = f0 → far (geF g) (nx g (ahd a)) f0 + 1 = geF g := by
        intro e
        unfold far nx
        split <;> split <;> omega
      revert hnf
      unfold gw
      split
      · rename_i h1
        intro _
        have hne : ahd a ≠ f0 := fun e => by rw [e] at h1; change 0 < apn a f0 at h1; omega
        have := far_nx hne
        exact ih _ (nx_lt hg _) hp (by show far (geF g) (nx g (ahd a)) f0 + (if amk a f0 = 0 then 0 else geF g) < n; omega)
      · split
        · intro h; exact absurd rfl h
        · split
          · intro h; exact absurd rfl h
          · rename_i h3
            intro _
            refine ih _ (nx_lt hg _) hp ?_
            show far (geF g) (nx g (ahd a)) f0 + (if upd (amk a) (ahd a) (nI 0) f0 = 0 then 0 else geF g) < n
            by_cases e : ahd a = f0
            · have := far_nx0 e
              subst e
              rw [pk_us, if_pos nI_0]
              have h3' : ¬ amk a (ahd a) = 0 := h3
              rw [if_neg h3'] at hm
              omega
            · rw [pk_un (fun q => e q.symm)]
              have := far_nx e
              omega
theorem findN_found {g : GE} {N : Nat} {a : AS} (hg : gok g) (h : Iv g N a) (hc : cnt (apn a) (geF g) ≠ geF g) : ∃ f, (findN g (2 * geF g) a).2 = some f := by
  obtain ⟨f0, h1, h2⟩ := cnt_lt hc
  refine findN_some hg h1 _ a h.1 h2 ?_
  have := h.1
  unfold far
  split <;> split <;> omega
/-- a frame is looked for -/
def spFind (g : GE) (a : AS) : AS × Option Nat := if cnt (apn a) (geF g) = geF g then (a, none) else findN g (2 * geF g) a
def onI (d : Int32) (o : Option Nat) : Int32 := match o with
  | none => d
  | some f => nI f
noncomputable def spFetch (g : GE) (a : AS) (x : Int32) : Int32 × AS := pIf (vp_in x (geP g)) (match fop g a x with
  | some f => (nI f, oPin f a)
  | none => match (spFind g a).2 with
    | some f => (nI f, oPin f (oRead f x.toNatClampNeg (spFind g a).1))
    | none => (-1, (spFind g a).1)) (-2, a)
noncomputable def spUnpin (g : GE) (a : AS) (x : Int32) : Int32 × AS := pIf (vp_in x (geF g) ∧ 0 < apn a x.toNatClampNeg) (nI (apn a x.toNatClampNeg - 1), oUnpin x.toNatClampNeg a) (-3, a)
noncomputable def spReadW (g : GE) (a : AS) (x o : Int32) : Int32 := pIf ((vp_in x (geF g) ∧ 0 < apn a x.toNatClampNeg) ∧ vp_in o (geW g)) (amm a x.toNatClampNeg o.toNatClampNeg) (nI 0)
noncomputable def spWriteW (g : GE) (a : AS) (x o w : Int32) : Int32 × AS := pIf (vp_in x (geF g) ∧ 0 < apn a x.toNatClampNeg) (pIf (vp_in o (geW g)) (nI 0, oRow x.toNatClampNeg (upd (amm a x.toNatClampNeg) o.toNatClampNeg w) a) (-4, a)) (-3, a)
noncomputable def spFlush (g : GE) (a : AS) (x : Int32) : Int32 × AS := match fop g a x with
  | some f => if adt a f = 0 then (nI 0, a) else (nI 1, oStore f (apg a f).toNatClampNeg a)
  | none => (nI 0, a)
def faN : Nat → Nat → Nat → AS → Nat × AS
  | 0, _, c, a => (c, a)
  | n + 1, k, c, a => if adt a k = 0 then faN n (k + 1) c a else faN n (k + 1) (c + 1) (oStore k (apg a k).toNatClampNeg a)
noncomputable def spDrop (g : GE) (a : AS) (x : Int32) : Int32 × AS := match fop g a x with
  | some f => if 0 < apn a f then (nI 0, a) else (nI 1, oEmpty f a)
  | none => (nI 0, a)
noncomputable def spCopy (g : GE) (a : AS) (x y : Int32) : Int32 × AS := pIf (vp_in x (geP g) ∧ vp_in y (geP g)) (match fop g a x with
  | none => (-3, a)
  | some f => if 0 < apn a f then (nI 0, oRow f (match fop g a y with
    | none => adk a y.toNatClampNeg
    | some h => amm a h) a) else (-3, a)) (-2, a)
noncomputable def spDiskW (g : GE) (a : AS) (x o : Int32) : Int32 := pIf (vp_in x (geP g) ∧ vp_in o (geW g)) (adk a x.toNatClampNeg o.toNatClampNeg) (nI 0)
noncomputable def spRes (g : GE) (a : AS) (x : Int32) : Int32 := match fop g a x with
  | some _ => nI 1
  | none => nI 0
noncomputable def spTold (g : GE) (a : AS) (x w : Int32) : Int32 := pIf (vp_in x (geF g)) (if w = nI 0 then apg a x.toNatClampNeg else if w = nI 1 then nI (apn a x.toNatClampNeg) else if w = nI 2 then (if adt a x.toNatClampNeg = 0 then nI 0 else nI 1) else if w = nI 3 then (if amk a x.toNatClampNeg = 0 then nI 0 else nI 1) else -5) (-5)
