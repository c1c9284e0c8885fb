/-! ===== the pool as a mathematical value: its words ===== -/
abbrev AS : Type := (Nat → Nat → Int32) × (Nat → Nat → Int32) × (Nat → Int32) × (Nat → Nat) × (Nat → Int32) × (Nat → Int32) × Nat × Int32 × Int32
abbrev adk (a : AS) : Nat → Nat → Int32 := a.1
abbrev amm (a : AS) : Nat → Nat → Int32 := a.2.1
abbrev apg (a : AS) : Nat → Int32 := a.2.2.1
abbrev apn (a : AS) : Nat → Nat := a.2.2.2.1
abbrev adt (a : AS) : Nat → Int32 := a.2.2.2.2.1
abbrev amk (a : AS) : Nat → Int32 := a.2.2.2.2.2.1
abbrev ahd (a : AS) : Nat := a.2.2.2.2.2.2.1
abbrev ard (a : AS) : Int32 := a.2.2.2.2.2.2.2.1
abbrev awr (a : AS) : Int32 := a.2.2.2.2.2.2.2.2
def oEmpty (f : Nat) (a : AS) : AS := (adk a, amm a, upd (apg a) f (-1), va_up (apn a) f 0, upd (adt a) f (nI 0), upd (amk a) f (nI 0), ahd a, ard a, awr a)
def oStore (f p : Nat) (a : AS) : AS := (va_up (adk a) p (amm a f), amm a, apg a, apn a, upd (adt a) f (nI 0), amk a, ahd a, ard a, awr a + nI 1)
def oHand (h : Nat) (a : AS) : AS := (adk a, amm a, apg a, apn a, adt a, amk a, h, ard a, awr a)
def oMark (f : Nat) (v : Int32) (a : AS) : AS := (adk a, amm a, apg a, apn a, adt a, upd (amk a) f v, ahd a, ard a, awr a)
def oRead (f p : Nat) (a : AS) : AS := (adk a, va_up (amm a) f (adk a p), upd (apg a) f (nI p), apn a, adt a, amk a, ahd a, ard a + nI 1, awr a)
def oPin (f : Nat) (a : AS) : AS := (adk a, amm a, apg a, va_up (apn a) f (apn a f + 1), adt a, upd (amk a) f (nI 1), ahd a, ard a, awr a)
def oUnpin (f : Nat) (a : AS) : AS := (adk a, amm a, apg a, va_up (apn a) f (apn a f - 1), adt a, amk a, ahd a, ard a, awr a)
def oRow (f : Nat) (r : Nat → Int32) (a : AS) : AS := (adk a, va_up (amm a) f r, apg a, apn a, upd (adt a) f (nI 1), amk a, ahd a, ard a, awr a)
def oInit (a : AS) : AS := (fun _ _ => nI 0, amm a, fun _ => -1, fun _ => 0, fun _ => nI 0, fun _ => nI 0, 0, nI 0, nI 0)
/-- sizes -/
def gok (g : GE) : Prop := 1 ≤ geF g ∧ geF g ≤ 32 ∧ 1 ≤ geP g ∧ geP g ≤ 200 ∧ 1 ≤ geW g ∧ geW g ≤ 8 ∧ geW g ≤ geS g ∧ geP g * geS g ≤ gn3 g ∧ geF g * geS g ≤ gn4 g ∧ geF g ≤ gn5 g ∧ gn3 g ≤ 1600 ∧ gn4 g ≤ 256 ∧ gn5 g ≤ 32
/-- the cells hold the value -/
def Rp (g : GE) (a : AS) (u : CS) : Prop := (∀ p, p < geP g → ∀ o, o < geW g → cs3 u (p * geS g + o) = adk a p o) ∧ (∀ f, f < geF g → ∀ o, o < geW g → cs4 u (f * geS g + o) = amm a f o) ∧ (∀ f, f < geF g → cs5 u f = apg a f) ∧ (∀ f, f < geF g → cs6 u f = nI (apn a f)) ∧ (∀ f, f < geF g → cs7 u f = adt a f) ∧ (∀ f, f < geF g → cs8 u f = amk a f) ∧ csh u = nI (ahd a) ∧ csr u = ard a ∧ csw u = awr a
/-- what the value keeps to -/
def Iv (g : GE) (N : Nat) (a : AS) : Prop := ahd a < geF g ∧ (∀ f, f < geF g → apg a f = -1 ∨ ∃ p, p < geP g ∧ apg a f = nI p) ∧ (∀ f f', f < geF g → f' < geF g → apg a f = apg a f' → apg a f ≠ -1 → f = f') ∧ (∀ f, f < geF g → apg a f = -1 → apn a f = 0 ∧ adt a f = nI 0 ∧ amk a f = nI 0) ∧ (∀ f, f < geF g → apn a f ≤ N)
def Rep (g : GE) (N : Nat) (a : AS) (u : CS) : Prop := gok g ∧ N < 2 ^ 20 ∧ Rp g a u ∧ Iv g N a
noncomputable def pIf {α : Type} (c : Prop) (x y : α) : α := @ite α c (Classical.propDecidable c) x y
theorem pIf_t {α : Type} {c : Prop} (h : c) (x y : α) : pIf c x y = x := if_pos h
theorem pIf_f {α : Type} {c : Prop} (h : ¬ c) (x y : α) : pIf c x y = y := if_neg h
theorem pIf_p {α : Type} (P : α → Prop) {c : Prop} {x y : α} (h1 : c → P x) (h2 : ¬ c → P y) : P (pIf c x y) := by
  by_cases h : c
  · rw [pIf_t h]; exact h1 h
  · rw [pIf_f h]; exact h2 h
/-! numbers -/
theorem nI_ne_m1 {n : Nat} (h : n < 2 ^ 31) : nI n ≠ -1 := by
  intro e
  have h1 := nI_toInt h
  rw [e] at h1
  have h2 : (-1 : Int32).toInt = -1 := by decide +kernel
  omega
theorem nI_0lt {n : Nat} (h : n < 2 ^ 31) : 0 < nI n ↔ 0 < n := by
  rw [← nI_0, nI_ltI (by decide) h]
theorem nI_le0 {n : Nat} (h : n < 2 ^ 31) : nI n ≤ 0 ↔ n = 0 := by
  rw [← nI_0, nI_leI h (by decide)]
  omega
theorem nI_eq0 {n : Nat} (h : n < 2 ^ 31) : nI n = 0 ↔ n = 0 := by
  rw [← nI_0, nI_eq h (by decide)]
theorem in_iff {x : Int32} {n : Nat} (hn : n < 2 ^ 31) : vp_in x n ↔ 0 ≤ x ∧ x < nI n := by
  rw [vp_in_iff, Int32.le_iff_toInt_le, Int32.lt_iff_toInt_lt, nI_toInt hn]
  exact Iff.rfl
theorem in_of {x : Int32} {n : Nat} (hn : n < 2 ^ 31) (h1 : 0 ≤ x) (h2 : x < nI n) : ∃ j, j < n ∧ x = nI j := vp_in_of ((in_iff hn).mpr ⟨h1, h2⟩) hn
theorem in_nI {j n : Nat} (h : j < n) (hn : n < 2 ^ 31) : vp_in (nI j) n := vp_in_nI h hn
theorem not_in_neg {x : Int32} {n : Nat} (h : x < 0) : ¬ vp_in x n := fun k => k (Or.inl h)
theorem not_in_ge {x : Int32} {n : Nat} (hn : n < 2 ^ 31) (h : nI n ≤ x) : ¬ vp_in x n := fun k => by
  have := ((in_iff hn).mp k).2
  rw [Int32.lt_iff_toInt_lt] at this
  rw [Int32.le_iff_toInt_le] at h
  omega
theorem i_lt_of {x y : Int32} (h : ¬ y ≤ x) : x < y := by
  rw [Int32.lt_iff_toInt_lt]; rw [Int32.le_iff_toInt_le] at h; omega
theorem i_le_of {x y : Int32} (h : ¬ x < y) : y ≤ x := by
  rw [Int32.le_iff_toInt_le]; rw [Int32.lt_iff_toInt_lt] at h; omega
/-! rows -/
theorem row_ne {p q o s W k : Nat} (ho : o < W) (hW : W ≤ s) (hk1 : q * s ≤ k) (hk2 : k < q * s + W) (hk : p * s + o = k) : p = q := by
  rcases Nat.lt_trichotomy p q with h | h | h
  · have : (p + 1) * s ≤ q * s := Nat.mul_le_mul_right s h
    rw [Nat.succ_mul] at this
    omega
  · exact h
  · have : (q + 1) * s ≤ p * s := Nat.mul_le_mul_right s h
    rw [Nat.succ_mul] at this
    omega
theorem row_cpy {n s W sp q : Nat} {src t : Nat → Int32} {d : Nat → Nat → Int32} {row : Nat → Int32} (hW : W ≤ s) (h : ∀ p, p < n → ∀ o, o < W → t (p * s + o) = d p o) (hr : ∀ o, o < W → src (sp + o) = row o) : ∀ p, p < n → ∀ o, o < W → va_cpy src t sp (q * s) W (p * s + o) = va_up d q row p o := by
  intro p hp o ho
  by_cases e : p = q
  · subst e
    rw [pk_cpy_in (by omega) (by omega), va_up_self]
    rw [show sp + (p * s + o - p * s) = sp + o by omega]
    exact hr o ho
  · rw [va_up_ne _ _ e, pk_cpy_out ?_]
    · exact h p hp o ho
    · by_cases h1 : p * s + o < q * s
      · exact Or.inl h1
      · refine Or.inr (Nat.le_of_not_lt fun h2 => e (row_ne ho hW (by omega) h2 rfl))
theorem row_upd {n s W q o0 : Nat} {t : Nat → Int32} {d : Nat → Nat → Int32} {v : Int32} (hW : W ≤ s) (h0 : o0 < W) (h : ∀ p, p < n → ∀ o, o < W → t (p * s + o) = d p o) : ∀ p, p < n → ∀ o, o < W → upd t (q * s + o0) v (p * s + o) = va_up d q (upd (d q) o0 v) p o := by
  intro p hp o ho
  by_cases e : p = q
  · subst e
    rw [va_up_self]
    by_cases e2 : o = o0
    · subst e2; rw [pk_us, pk_us]
    · rw [pk_un (by omega), pk_un e2]; exact h p hp o ho
  · rw [va_up_ne _ _ e, pk_un ?_]
    · exact h p hp o ho
    · intro h2
      exact e (row_ne ho hW (by omega) (by omega) h2)
theorem cpy_step {f g : Nat → Int32} {sp dp n : Nat} {v : Int32} (h : v = f (sp + n)) : upd (va_cpy f g sp dp n) (dp + n) v = va_cpy f g sp dp (n + 1) := by
  funext j
  by_cases e : j = dp + n
  · subst e
    rw [pk_us, pk_cpy_in (by omega) (by omega), h]
    congr 1
    omega
  · rw [pk_un e]
    by_cases h2 : dp ≤ j ∧ j < dp + n
    · rw [pk_cpy_in h2.1 h2.2, pk_cpy_in h2.1 (by omega)]
    · rw [pk_cpy_out (by omega), pk_cpy_out (by omega)]
theorem cpy_0 {f g : Nat → Int32} {sp dp : Nat} : va_cpy f g sp dp 0 = g := by
  funext j
  exact pk_cpy_out (by omega)
theorem ag_upd {n : Nat} {f h : Nat → Int32} {k : Nat} {v : Int32} (e : ∀ j, j < n → f j = h j) : ∀ j, j < n → upd f k v j = upd h k v j := by
  intro j hj
  by_cases e2 : j = k
  · subst e2; rw [pk_us, pk_us]
  · rw [pk_un e2, pk_un e2]; exact e j hj
theorem ag_pin {n : Nat} {f : Nat → Int32} {h : Nat → Nat} {k v : Nat} (e : ∀ j, j < n → f j = nI (h j)) : ∀ j, j < n → upd f k (nI v) j = nI (va_up h k v j) := by
  intro j hj
  by_cases e2 : j = k
  · subst e2; rw [pk_us, va_up_self]
  · rw [pk_un e2, va_up_ne _ _ e2]; exact e j hj
theorem ag_same {n : Nat} {f h : Nat → Int32} {k : Nat} {v : Int32} (e : ∀ j, j < n → f j = h j) (hv : k < n → h k = v) : ∀ j, j < n → upd f k v j = h j := by
  intro j hj
  by_cases e2 : j = k
  · subst e2; rw [pk_us]; exact (hv hj).symm
  · rw [pk_un e2]; exact e j hj
/-! the cells behind each word -/
theorem Rp_empty {g : GE} {a : AS} {u : CS} (f : Nat) (h : Rp g a u) : Rp g (oEmpty f a) (cs3 u, cs4 u, upd (cs5 u) f (-1), upd (cs6 u) f (nI 0), upd (cs7 u) f (nI 0), upd (cs8 u) f (nI 0), csh u, csr u, csw u) := by
  obtain ⟨h3, h4, h5, h6, h7, h8, h9, h10, h11⟩ := h
  exact ⟨h3, h4, ag_upd h5, ag_pin h6, ag_upd h7, ag_upd h8, h9, h10, h11⟩
theorem Rp_store {g : GE} {a : AS} {u : CS} {f : Nat} (p : Nat) (hg : gok g) (hf : f < geF g) (h : Rp g a u) : Rp g (oStore f p a) (va_cpy (cs4 u) (cs3 u) (f * geS g) (p * geS g) (geW g), cs4 u, cs5 u, cs6 u, upd (cs7 u) f (nI 0), cs8 u, csh u, csr u, csw u + nI 1) := by
  obtain ⟨h3, h4, h5, h6, h7, h8, h9, h10, h11⟩ := h
  exact ⟨row_cpy hg.2.2.2.2.2.2.1 h3 (fun o ho => h4 f hf o ho), h4, h5, h6, ag_upd h7, h8, h9, h10, by show csw u + nI 1 = awr a + nI 1; rw [h11]⟩
theorem Rp_hand {g : GE} {a : AS} {u : CS} (k : Nat) (h : Rp g a u) : Rp g (oHand k a) (psh u (nI k)) := by
  obtain ⟨h3, h4, h5, h6, h7, h8, h9, h10, h11⟩ := h
  exact ⟨h3, h4, h5, h6, h7, h8, rfl, h10, h11⟩
theorem Rp_mark {g : GE} {a : AS} {u : CS} (f : Nat) (v : Int32) (h : Rp g a u) : Rp g (oMark f v a) (ps8 u (upd (cs8 u) f v)) := by
  obtain ⟨h3, h4, h5, h6, h7, h8, h9, h10, h11⟩ := h
  exact ⟨h3, h4, h5, h6, h7, ag_upd h8, h9, h10, h11⟩
theorem Rp_read {g : GE} {a : AS} {u : CS} {p : Nat} (f : Nat) (hg : gok g) (hp : p < geP g) (h : Rp g a u) : Rp g (oRead f p a) (cs3 u, va_cpy (cs3 u) (cs4 u) (p * geS g) (f * geS g) (geW g), upd (cs5 u) f (nI p), cs6 u, cs7 u, cs8 u, csh u, csr u + nI 1, csw u) := by
  obtain ⟨h3, h4, h5, h6, h7, h8, h9, h10, h11⟩ := h
  exact ⟨h3, row_cpy hg.2.2.2.2.2.2.1 h4 (fun o ho => h3 p hp o ho), ag_upd h5, h6, h7, h8, h9, by show csr u + nI 1 = ard a + nI 1; rw [h10], h11⟩
theorem Rp_pin {g : GE} {a : AS} {u : CS} (f : Nat) (h : Rp g a u) : Rp g (oPin f a) (cs3 u, cs4 u, cs5 u, upd (cs6 u) f (nI (apn a f + 1)), cs7 u, upd (cs8 u) f (nI 1), csh u, csr u, csw u) := by
  obtain ⟨h3, h4, h5, h6, h7, h8, h9, h10, h11⟩ := h
  exact ⟨h3, h4, h5, ag_pin h6, h7, ag_upd h8, h9, h10, h11⟩
theorem Rp_unpin {g : GE} {a : AS} {u : CS} (f : Nat) (h : Rp g a u) : Rp g (oUnpin f a) (ps6 u (upd (cs6 u) f (nI (apn a f - 1)))) := by
  obtain ⟨h3, h4, h5, h6, h7, h8, h9, h10, h11⟩ := h
  exact ⟨h3, h4, h5, ag_pin h6, h7, h8, h9, h10, h11⟩
theorem Rp_word {g : GE} {a : AS} {u : CS} {o : Nat} (f : Nat) (v : Int32) (hg : gok g) (ho : o < geW g) (h : Rp g a u) : Rp g (oRow f (upd (amm a f) o v) a) (cs3 u, upd (cs4 u) (f * geS g + o) v, cs5 u, cs6 u, upd (cs7 u) f (nI 1), cs8 u, csh u, csr u, csw u) := by
  obtain ⟨h3, h4, h5, h6, h7, h8, h9, h10, h11⟩ := h
  exact ⟨h3, row_upd hg.2.2.2.2.2.2.1 ho h4, h5, h6, ag_upd h7, h8, h9, h10, h11⟩
theorem Rp_rowD {g : GE} {a : AS} {u : CS} {p : Nat} (f : Nat) (hg : gok g) (hp : p < geP g) (h : Rp g a u) : Rp g (oRow f (adk a p) a) (cs3 u, va_cpy (cs3 u) (cs4 u) (p * geS g) (f * geS g) (geW g), cs5 u, cs6 u, upd (cs7 u) f (nI 1), cs8 u, csh u, csr u, csw u) := by
  obtain ⟨h3, h4, h5, h6, h7, h8, h9, h10, h11⟩ := h
  exact ⟨h3, row_cpy hg.2.2.2.2.2.2.1 h4 (fun o ho => h3 p hp o ho), h5, h6, ag_upd h7, h8, h9, h10, h11⟩
theorem Rp_rowM {g : GE} {a : AS} {u : CS} {p : Nat} (f : Nat) (hg : gok g) (hp : p < geF g) (h : Rp g a u) : Rp g (oRow f (amm a p) a) (cs3 u, va_cpy (cs4 u) (cs4 u) (p * geS g) (f * geS g) (geW g), cs5 u, cs6 u, upd (cs7 u) f (nI 1), cs8 u, csh u, csr u, csw u) := by
  obtain ⟨h3, h4, h5, h6, h7, h8, h9, h10, h11⟩ := h
  exact ⟨h3, row_cpy hg.2.2.2.2.2.2.1 h4 (fun o ho => h4 p hp o ho), h5, h6, ag_upd h7, h8, h9, h10, h11⟩
