/-! ===== the words case by case ===== -/
abbrev bP (r : Int32) (c : Prop) : Prop := (r = nI 1 ∧ c) ∨ (r = nI 0 ∧ ¬ c)
def bI (b : Bool) : Int32 := if b = true then nI 1 else nI 0
theorem gokB {g : GE} (h : gok g) : geF g < 2 ^ 31 ∧ geP g < 2 ^ 31 ∧ geW g < 2 ^ 31 ∧ gn3 g < 2 ^ 31 ∧ gn4 g < 2 ^ 31 ∧ gn5 g < 2 ^ 31 ∧ geF g ≤ gn5 g := by
  obtain ⟨h1, h2, h3, h4, h5, h6, h7, h8, h9, h10, h11, h12, h13⟩ := h
  refine ⟨by omega, by omega, by omega, by omega, by omega, by omega, h10⟩
theorem mul_lt_of {p P s o W n : Nat} (hp : p < P) (ho : o < W) (hW : W ≤ s) (hn : P * s ≤ n) : p * s + o < n := by
  have : (p + 1) * s ≤ P * s := Nat.mul_le_mul_right s hp
  rw [Nat.succ_mul] at this
  omega
theorem mul_le_of {p P s W n : Nat} (hp : p < P) (hW : W ≤ s) (hn : P * s ≤ n) : p * s + W ≤ n := by
  have : (p + 1) * s ≤ P * s := Nat.mul_le_mul_right s hp
  rw [Nat.succ_mul] at this
  omega
theorem lt3 {g : GE} {p o K : Nat} (hg : gok g) (hp : p < geP g) (ho : o < geW g) (hK : K = p * geS g + o) : K < gn3 g := by
  subst hK
  exact mul_lt_of hp ho hg.2.2.2.2.2.2.1 hg.2.2.2.2.2.2.2.1
theorem lt4 {g : GE} {p o K : Nat} (hg : gok g) (hp : p < geF g) (ho : o < geW g) (hK : K = p * geS g + o) : K < gn4 g := by
  subst hK
  exact mul_lt_of hp ho hg.2.2.2.2.2.2.1 hg.2.2.2.2.2.2.2.2.1
theorem le3 {g : GE} {p : Nat} (hg : gok g) (hp : p < geP g) : p * geS g + geW g ≤ gn3 g := mul_le_of hp hg.2.2.2.2.2.2.1 hg.2.2.2.2.2.2.2.1
theorem le4 {g : GE} {p : Nat} (hg : gok g) (hp : p < geF g) : p * geS g + geW g ≤ gn4 g := mul_le_of hp hg.2.2.2.2.2.2.1 hg.2.2.2.2.2.2.2.2.1
theorem rd3 {g : GE} {N : Nat} {a : AS} {u : CS} {p o K : Nat} (h : Rep g N a u) (hp : p < geP g) (ho : o < geW g) (hK : K = p * geS g + o) : cs3 u K = adk a p o := by
  subst hK
  exact h.2.2.1.1 p hp o ho
theorem rd4 {g : GE} {N : Nat} {a : AS} {u : CS} {p o K : Nat} (h : Rep g N a u) (hp : p < geF g) (ho : o < geW g) (hK : K = p * geS g + o) : cs4 u K = amm a p o := by
  subst hK
  exact h.2.2.1.2.1 p hp o ho
theorem Rep_more {g : GE} {N : Nat} {a : AS} {u : CS} (hN : N + 1 < 2 ^ 20) (h : Rep g N a u) : Rep g (N + 1) a u := ⟨h.1, hN, h.2.2.1, Iv_more h.2.2.2⟩
theorem pn31 {g : GE} {N : Nat} {a : AS} {u : CS} {k : Nat} (h : Rep g N a u) (hk : k < geF g) : apn a k + 1 < 2 ^ 31 := by
  have := h.2.2.2.2.2.2.2 k hk
  have := h.2.1
  omega
theorem pn_pg {g : GE} {N : Nat} {a : AS} {k : Nat} (h : Iv g N a) (hk : k < geF g) (h0 : 0 < apn a k) : apg a k ≠ -1 := fun e => by
  have := (h.2.2.2.1 k hk e).1
  omega
theorem dt_pg {g : GE} {N : Nat} {a : AS} {k : Nat} (h : Iv g N a) (hk : k < geF g) (h0 : ¬ adt a k = 0) : ∃ p, p < geP g ∧ apg a k = nI p := by
  rcases h.2.1 k hk with e | e
  · exact absurd ((h.2.2.2.1 k hk e).2.1.trans nI_0) h0
  · exact e
/-- what a method answers that looks for a page's frame -/
def foP (g : GE) (a : AS) (x d r : Int32) : Prop := (∃ f p, f < geF g ∧ p < geP g ∧ x = nI p ∧ r = nI f ∧ apg a f = nI p ∧ fop g a x = some f) ∨ (r = d ∧ fop g a x = none)
theorem fop_no {g : GE} {a : AS} {x : Int32} (h : fop g a x = none) (hx : vp_in x (geP g)) : ∀ f, f < geF g → apg a f ≠ x := by
  intro f hf e
  unfold fop at h
  rw [pIf_t hx] at h
  unfold fnd at h
  rw [dif_pos ⟨f, hf, e⟩] at h
  cases h
theorem fop_out {g : GE} {a : AS} {x : Int32} (h : ¬ vp_in x (geP g)) : fop g a x = none := pIf_f h _ _
theorem gw_pin {a : AS} {f : Nat} (h : 0 < apn a f) : gw f a = (false, a) := if_pos h
theorem gw_emp {a : AS} {f : Nat} (h : ¬ 0 < apn a f) (h2 : apg a f = -1) : gw f a = (true, a) := by unfold gw; rw [if_neg h, if_pos h2]
theorem gw_mk {a : AS} {f : Nat} (h : ¬ 0 < apn a f) (h2 : ¬ apg a f = -1) (h3 : ¬ amk a f = 0) : gw f a = (false, oMark f (nI 0) a) := by unfold gw; rw [if_neg h, if_neg h2, if_neg h3]
theorem gw_clean {a : AS} {f : Nat} (h : ¬ 0 < apn a f) (h2 : ¬ apg a f = -1) (h3 : amk a f = 0) (h4 : adt a f = 0) : gw f a = (true, oEmpty f a) := by unfold gw; rw [if_neg h, if_neg h2, if_pos h3, if_pos h4]
theorem gw_dirty {a : AS} {f p : Nat} (hp : p < 2 ^ 31) (h : ¬ 0 < apn a f) (h2 : ¬ apg a f = -1) (h3 : amk a f = 0) (h4 : ¬ adt a f = 0) (h5 : apg a f = nI p) : gw f a = (true, oEmpty f (oStore f p a)) := by unfold gw; rw [if_neg h, if_neg h2, if_pos h3, if_neg h4, h5, nI_clamp hp]
theorem findN_t {g : GE} {n : Nat} {a : AS} (h : (gw (ahd a) (oHand (nx g (ahd a)) a)).1 = true) : findN g (n + 1) a = ((gw (ahd a) (oHand (nx g (ahd a)) a)).2, some (ahd a)) := by
  rw [findN, if_pos h]
theorem findN_f {g : GE} {n : Nat} {a : AS} (h : (gw (ahd a) (oHand (nx g (ahd a)) a)).1 = false) : findN g (n + 1) a = findN g n (gw (ahd a) (oHand (nx g (ahd a)) a)).2 := by
  rw [findN, if_neg (by rw [h]; decide)]
theorem spFind_all {g : GE} {a : AS} (h : cnt (apn a) (geF g) = geF g) : spFind g a = (a, none) := if_pos h
theorem spFind_go {g : GE} {a : AS} (h : ¬ cnt (apn a) (geF g) = geF g) : spFind g a = findN g (2 * geF g) a := if_neg h
theorem spFind_ok {g : GE} {N : Nat} {a : AS} {x : Int32} (hg : gok g) (hx : x ≠ -1) (h1 : Iv g N a) (h2 : ∀ k, k < geF g → apg a k ≠ x) : (∀ k, k < geF g → apg (spFind g a).1 k ≠ x) ∧ ∀ f, (spFind g a).2 = some f → f < geF g := by
  unfold spFind
  split
  · exact ⟨h2, fun f h => by cases h⟩
  · exact (findN_ok hg x hx (2 * geF g) a h1 h2).2
theorem spFetch_bad {g : GE} {a : AS} {x : Int32} (h : ¬ vp_in x (geP g)) : spFetch g a x = (-2, a) := pIf_f h _ _
theorem spFetch_hit {g : GE} {a : AS} {x : Int32} {f : Nat} (h : vp_in x (geP g)) (h1 : fop g a x = some f) : spFetch g a x = (nI f, oPin f a) := by unfold spFetch; rw [pIf_t h, h1]
theorem spFetch_all {g : GE} {a : AS} {x : Int32} (h : vp_in x (geP g)) (h1 : fop g a x = none) (h2 : (spFind g a).2 = none) : spFetch g a x = (-1, (spFind g a).1) := by unfold spFetch; rw [pIf_t h, h1]; dsimp only; rw [h2]
theorem spFetch_new {g : GE} {a : AS} {p f : Nat} (hp : p < 2 ^ 31) (h : vp_in (nI p) (geP g)) (h1 : fop g a (nI p) = none) (h2 : (spFind g a).2 = some f) : spFetch g a (nI p) = (nI f, oPin f (oRead f p (spFind g a).1)) := by unfold spFetch; rw [pIf_t h, h1]; dsimp only; rw [h2, nI_clamp hp]
theorem spUnpin_f {g : GE} {a : AS} {x : Int32} (h : ¬ (vp_in x (geF g) ∧ 0 < apn a x.toNatClampNeg)) : spUnpin g a x = (-3, a) := pIf_f h _ _
theorem spUnpin_t {g : GE} {a : AS} {k : Nat} (hk : k < 2 ^ 31) (h : vp_in (nI k) (geF g)) (h0 : 0 < apn a k) : spUnpin g a (nI k) = (nI (apn a k - 1), oUnpin k a) := by
  unfold spUnpin; rw [nI_clamp hk]; exact pIf_t ⟨h, h0⟩ _ _
theorem spReadW_t {g : GE} {a : AS} {k j : Nat} (hk : k < 2 ^ 31) (hj : j < 2 ^ 31) (h : vp_in (nI k) (geF g)) (h0 : 0 < apn a k) (h1 : vp_in (nI j) (geW g)) : spReadW g a (nI k) (nI j) = amm a k j := by
  unfold spReadW; rw [nI_clamp hk, nI_clamp hj]; exact pIf_t ⟨⟨h, h0⟩, h1⟩ _ _
theorem spReadW_f {g : GE} {a : AS} {x o : Int32} (h : ¬ ((vp_in x (geF g) ∧ 0 < apn a x.toNatClampNeg) ∧ vp_in o (geW g))) : spReadW g a x o = nI 0 := pIf_f h _ _
theorem spWriteW_f {g : GE} {a : AS} {x o w : Int32} (h : ¬ (vp_in x (geF g) ∧ 0 < apn a x.toNatClampNeg)) : spWriteW g a x o w = (-3, a) := pIf_f h _ _
theorem spWriteW_o {g : GE} {a : AS} {x o w : Int32} (h : vp_in x (geF g) ∧ 0 < apn a x.toNatClampNeg) (h1 : ¬ vp_in o (geW g)) : spWriteW g a x o w = (-4, a) := by unfold spWriteW; rw [pIf_t h, pIf_f h1]
theorem spWriteW_t {g : GE} {a : AS} {k j : Nat} {w : Int32} (hk : k < 2 ^ 31) (hj : j < 2 ^ 31) (h : vp_in (nI k) (geF g)) (h0 : 0 < apn a k) (h1 : vp_in (nI j) (geW g)) : spWriteW g a (nI k) (nI j) w = (nI 0, oRow k (upd (amm a k) j w) a) := by
  unfold spWriteW; rw [nI_clamp hk, nI_clamp hj, pIf_t ⟨h, h0⟩, pIf_t h1]
theorem spFlush_no {g : GE} {a : AS} {x : Int32} (h : fop g a x = none) : spFlush g a x = (nI 0, a) := by unfold spFlush; rw [h]
theorem spFlush_0 {g : GE} {a : AS} {x : Int32} {f : Nat} (h : fop g a x = some f) (h1 : adt a f = 0) : spFlush g a x = (nI 0, a) := by unfold spFlush; rw [h]; exact if_pos h1
theorem spFlush_1 {g : GE} {a : AS} {x : Int32} {f p : Nat} (hp : p < 2 ^ 31) (h : fop g a x = some f) (h1 : ¬ adt a f = 0) (h2 : apg a f = nI p) : spFlush g a x = (nI 1, oStore f p a) := by unfold spFlush; rw [h]; dsimp only; rw [if_neg h1, h2, nI_clamp hp]
theorem faN_0 {n k c : Nat} {a : AS} (h : adt a k = 0) : faN (n + 1) k c a = faN n (k + 1) c a := by rw [faN, if_pos h]
theorem faN_1 {n k c p : Nat} {a : AS} (hp : p < 2 ^ 31) (h : ¬ adt a k = 0) (h2 : apg a k = nI p) : faN (n + 1) k c a = faN n (k + 1) (c + 1) (oStore k p a) := by rw [faN, if_neg h, h2, nI_clamp hp]
theorem spDrop_no {g : GE} {a : AS} {x : Int32} (h : fop g a x = none) : spDrop g a x = (nI 0, a) := by unfold spDrop; rw [h]
theorem spDrop_0 {g : GE} {a : AS} {x : Int32} {f : Nat} (h : fop g a x = some f) (h1 : 0 < apn a f) : spDrop g a x = (nI 0, a) := by unfold spDrop; rw [h]; exact if_pos h1
theorem spDrop_1 {g : GE} {a : AS} {x : Int32} {f : Nat} (h : fop g a x = some f) (h1 : ¬ 0 < apn a f) : spDrop g a x = (nI 1, oEmpty f a) := by unfold spDrop; rw [h]; exact if_neg h1
theorem spCopy_bad {g : GE} {a : AS} {x y : Int32} (h : ¬ (vp_in x (geP g) ∧ vp_in y (geP g))) : spCopy g a x y = (-2, a) := pIf_f h _ _
theorem spCopy_no {g : GE} {a : AS} {x y : Int32} (h : vp_in x (geP g) ∧ vp_in y (geP g)) (h1 : fop g a x = none) : spCopy g a x y = (-3, a) := by unfold spCopy; rw [pIf_t h, h1]
theorem spCopy_up {g : GE} {a : AS} {x y : Int32} {f : Nat} (h : vp_in x (geP g) ∧ vp_in y (geP g)) (h1 : fop g a x = some f) (h2 : ¬ 0 < apn a f) : spCopy g a x y = (-3, a) := by unfold spCopy; rw [pIf_t h, h1]; exact if_neg h2
theorem spCopy_d {g : GE} {a : AS} {x : Int32} {q f : Nat} (hq : q < 2 ^ 31) (h : vp_in x (geP g) ∧ vp_in (nI q) (geP g)) (h1 : fop g a x = some f) (h2 : 0 < apn a f) (h3 : fop g a (nI q) = none) : spCopy g a x (nI q) = (nI 0, oRow f (adk a q) a) := by unfold spCopy; rw [pIf_t h, h1]; dsimp only; rw [if_pos h2, h3, nI_clamp hq]
theorem spCopy_m {g : GE} {a : AS} {x y : Int32} {f k : Nat} (h : vp_in x (geP g) ∧ vp_in y (geP g)) (h1 : fop g a x = some f) (h2 : 0 < apn a f) (h3 : fop g a y = some k) : spCopy g a x y = (nI 0, oRow f (amm a k) a) := by unfold spCopy; rw [pIf_t h, h1]; dsimp only; rw [if_pos h2, h3]
theorem spDiskW_t {g : GE} {a : AS} {k j : Nat} (hk : k < 2 ^ 31) (hj : j < 2 ^ 31) (h : vp_in (nI k) (geP g)) (h1 : vp_in (nI j) (geW g)) : spDiskW g a (nI k) (nI j) = adk a k j := by
  unfold spDiskW; rw [nI_clamp hk, nI_clamp hj]; exact pIf_t ⟨h, h1⟩ _ _
theorem spDiskW_f {g : GE} {a : AS} {x o : Int32} (h : ¬ (vp_in x (geP g) ∧ vp_in o (geW g))) : spDiskW g a x o = nI 0 := pIf_f h _ _
theorem spRes_1 {g : GE} {a : AS} {x : Int32} {f : Nat} (h : fop g a x = some f) : spRes g a x = nI 1 := by unfold spRes; rw [h]
theorem spRes_0 {g : GE} {a : AS} {x : Int32} (h : fop g a x = none) : spRes g a x = nI 0 := by unfold spRes; rw [h]
theorem spTold_f {g : GE} {a : AS} {x w : Int32} (h : ¬ vp_in x (geF g)) : spTold g a x w = -5 := pIf_f h _ _
theorem spTold_t {g : GE} {a : AS} {k : Nat} {w : Int32} (hk : k < 2 ^ 31) (h : vp_in (nI k) (geF g)) : spTold g a (nI k) w = (if w = nI 0 then apg a k else if w = nI 1 then nI (apn a k) else if w = nI 2 then (if adt a k = 0 then nI 0 else nI 1) else if w = nI 3 then (if amk a k = 0 then nI 0 else nI 1) else -5) := by
  unfold spTold; rw [pIf_t h, nI_clamp hk]
theorem nx_t {g : GE} {h : Nat} (q : h + 1 < geF g) : nx g h = h + 1 := if_pos q
theorem nx_f {g : GE} {h : Nat} (q : ¬ h + 1 < geF g) : nx g h = 0 := if_neg q
theorem cnt_1 {pn : Nat → Nat} {n : Nat} (h : 0 < pn n) : cnt pn (n + 1) = cnt pn n + 1 := by rw [cnt, if_pos h]
theorem cnt_0 {pn : Nat → Nat} {n : Nat} (h : ¬ 0 < pn n) : cnt pn (n + 1) = cnt pn n := by rw [cnt, if_neg h]; rfl
/-- behind init() -/
def iniP (g : GE) (n : Nat) (u u1 : CS) : Prop := cs4 u1 = cs4 u ∧ (∀ j, j < gn3 g → cs3 u1 j = nI 0) ∧ (∀ f, f < n → cs5 u1 f = -1 ∧ cs6 u1 f = nI 0 ∧ cs7 u1 f = nI 0 ∧ cs8 u1 f = nI 0) ∧ csh u1 = nI 0 ∧ csr u1 = nI 0 ∧ csw u1 = nI 0
theorem ini_Rep {g : GE} {n N : Nat} {a : AS} {u u1 : CS} (hg : gok g) (hn : geF g ≤ n) (hN : N < 2 ^ 20) (h4 : ∀ f, f < geF g → ∀ o, o < geW g → cs4 u (f * geS g + o) = amm a f o) (h : iniP g n u u1) : Rep g N (oInit a) u1 := by
  obtain ⟨q4, q3, q5, q9, q10, q11⟩ := h
  refine ⟨hg, hN, ⟨fun p hp o ho => q3 _ (lt3 hg hp ho rfl), fun f hf o ho => by rw [q4]; exact h4 f hf o ho, fun f hf => (q5 f (by omega)).1, fun f hf => (q5 f (by omega)).2.1, fun f hf => (q5 f (by omega)).2.2.1, fun f hf => (q5 f (by omega)).2.2.2, q9, q10, q11⟩, Iv_init N hg⟩
