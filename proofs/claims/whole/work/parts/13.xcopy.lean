/-! ===== FramePool: the rows are copied ===== -/
section ZCP
variable {p : Program} {l : Launch} {e : Env} {R : Room} {s : State} {m : MethodId} {args : Array Value} {below : List Frame} {meth : Method} {c : Code} {H : Heap} {locs : List Loc} {cells slots : Nat} {Q : State → Prop}
variable {cc : ByteArray} {nL : Nat} {ret : Option FieldType} {Ts : List Cond} {own : String} {pc : Nat} {ls : Array Slot} {rest : List Value} {dC : Nat → ClassId} {dI : Nat → Nat → Nat} {ci : Nat} {g : GE} {A : Nat → Prop} {H0 : Heap} {u : CS}
theorem z_cpy34 {index : Nat} (Z : zC p s m args meth c cc nL ret Ts own) (Y : zW dC dI ci g A H0 s u H locs) (hls : ls.size = nL) (hl1 : (Cond.methodLink own index arraycopyName).before args s = true) (hl2 : (Cond.native arraycopyName).before args s = true) (hl3 : (Cond.static arraycopyName).before args s = true) (hl4 : (Cond.initialized "java/lang/System").before args s = true) {sp dp n : Nat} (h4 : sp + n ≤ gn3 g) (h5 : dp + n ≤ gn4 g) (b4 : gn3 g < 2 ^ 31) (b5 : gn4 g < 2 ^ 31) (hfr : 1 ≤ R.frames) (hlo : (rest.map fun v => v.category).sum + (nativeFrameWords "java/lang/System" "arraycopy" 5 + 11) ≤ R.locals) (hdg : decode cc pc = .ok (.invokestatic index, 3))
    (kk : ∀ (H1 : Heap) (locs1 : List Loc), zW dC dI ci g A H0 s (ps4 u (va_cpy (cs3 u) (cs4 u) sp dp n)) H1 locs1 → W p l e R s m args below meth c H1 locs1 cells slots Q (F0 m (pc + 3) ls rest)) : W p l e R s m args below meth c H locs cells slots Q (F0 m pc ls (.int (nI n) :: .int (nI dp) :: .ref (ga4 g) :: .int (nI sp) :: .ref (ga3 g) :: rest)) := by
  obtain ⟨hx, hb, hml, hown, hts, -, -⟩ := Z
  obtain ⟨hK, hP, hD, hS, hA⟩ := Y
  have e1 : (nI sp).toNatClampNeg = sp := nI_clamp (by omega)
  have e2 : (nI dp).toNatClampNeg = dp := nI_clamp (by omega)
  have e3 : (nI n).toNatClampNeg = n := nI_clamp (by omega)
  refine va_copyi hx hb (hml.trans hls.symm) hown hl1 hl2 hl3 hl4 hK hP hD hS 1 2 0 0 (f := cs3 u) (g := cs4 u) rfl rfl rfl rfl rfl (nI_pos (by omega)) (nI_pos (by omega)) (nI_pos (by omega)) (by rw [e1, e3]; exact h4) (by rw [e2, e3]; exact h5) (fun i _ => rfl) hfr hlo hdg (fun H1 locs1 hP1 hD1 hS1 => ?_)
  rw [e1, e2, e3] at hP1 hD1
  exact kk H1 locs1 ⟨hK, hP1, hD1, hS1, hA⟩
theorem z_cpy43 {index : Nat} (Z : zC p s m args meth c cc nL ret Ts own) (Y : zW dC dI ci g A H0 s u H locs) (hls : ls.size = nL) (hl1 : (Cond.methodLink own index arraycopyName).before args s = true) (hl2 : (Cond.native arraycopyName).before args s = true) (hl3 : (Cond.static arraycopyName).before args s = true) (hl4 : (Cond.initialized "java/lang/System").before args s = true) {sp dp n : Nat} (h4 : sp + n ≤ gn4 g) (h5 : dp + n ≤ gn3 g) (b4 : gn4 g < 2 ^ 31) (b5 : gn3 g < 2 ^ 31) (hfr : 1 ≤ R.frames) (hlo : (rest.map fun v => v.category).sum + (nativeFrameWords "java/lang/System" "arraycopy" 5 + 11) ≤ R.locals) (hdg : decode cc pc = .ok (.invokestatic index, 3))
    (kk : ∀ (H1 : Heap) (locs1 : List Loc), zW dC dI ci g A H0 s (ps3 u (va_cpy (cs4 u) (cs3 u) sp dp n)) H1 locs1 → W p l e R s m args below meth c H1 locs1 cells slots Q (F0 m (pc + 3) ls rest)) : W p l e R s m args below meth c H locs cells slots Q (F0 m pc ls (.int (nI n) :: .int (nI dp) :: .ref (ga3 g) :: .int (nI sp) :: .ref (ga4 g) :: rest)) := by
  obtain ⟨hx, hb, hml, hown, hts, -, -⟩ := Z
  obtain ⟨hK, hP, hD, hS, hA⟩ := Y
  have e1 : (nI sp).toNatClampNeg = sp := nI_clamp (by omega)
  have e2 : (nI dp).toNatClampNeg = dp := nI_clamp (by omega)
  have e3 : (nI n).toNatClampNeg = n := nI_clamp (by omega)
  refine va_copyi hx hb (hml.trans hls.symm) hown hl1 hl2 hl3 hl4 hK hP hD hS 2 1 0 0 (f := cs4 u) (g := cs3 u) rfl rfl rfl rfl rfl (nI_pos (by omega)) (nI_pos (by omega)) (nI_pos (by omega)) (by rw [e1, e3]; exact h4) (by rw [e2, e3]; exact h5) (fun i _ => rfl) hfr hlo hdg (fun H1 locs1 hP1 hD1 hS1 => ?_)
  rw [e1, e2, e3] at hP1 hD1
  exact kk H1 locs1 ⟨hK, hP1, hD1, hS1, hA⟩
theorem z_cpy44 {index : Nat} (Z : zC p s m args meth c cc nL ret Ts own) (Y : zW dC dI ci g A H0 s u H locs) (hls : ls.size = nL) (hl1 : (Cond.methodLink own index arraycopyName).before args s = true) (hl2 : (Cond.native arraycopyName).before args s = true) (hl3 : (Cond.static arraycopyName).before args s = true) (hl4 : (Cond.initialized "java/lang/System").before args s = true) {sp dp n : Nat} (h4 : sp + n ≤ gn4 g) (h5 : dp + n ≤ gn4 g) (b4 : gn4 g < 2 ^ 31) (b5 : gn4 g < 2 ^ 31) (hfr : 1 ≤ R.frames) (hlo : (rest.map fun v => v.category).sum + (nativeFrameWords "java/lang/System" "arraycopy" 5 + 11) ≤ R.locals) (hdg : decode cc pc = .ok (.invokestatic index, 3))
    (kk : ∀ (H1 : Heap) (locs1 : List Loc), zW dC dI ci g A H0 s (ps4 u (va_cpy (cs4 u) (cs4 u) sp dp n)) H1 locs1 → W p l e R s m args below meth c H1 locs1 cells slots Q (F0 m (pc + 3) ls rest)) : W p l e R s m args below meth c H locs cells slots Q (F0 m pc ls (.int (nI n) :: .int (nI dp) :: .ref (ga4 g) :: .int (nI sp) :: .ref (ga4 g) :: rest)) := by
  obtain ⟨hx, hb, hml, hown, hts, -, -⟩ := Z
  obtain ⟨hK, hP, hD, hS, hA⟩ := Y
  have e1 : (nI sp).toNatClampNeg = sp := nI_clamp (by omega)
  have e2 : (nI dp).toNatClampNeg = dp := nI_clamp (by omega)
  have e3 : (nI n).toNatClampNeg = n := nI_clamp (by omega)
  refine va_copyi hx hb (hml.trans hls.symm) hown hl1 hl2 hl3 hl4 hK hP hD hS 2 2 0 0 (f := cs4 u) (g := cs4 u) rfl rfl rfl rfl rfl (nI_pos (by omega)) (nI_pos (by omega)) (nI_pos (by omega)) (by rw [e1, e3]; exact h4) (by rw [e2, e3]; exact h5) (fun i _ => rfl) hfr hlo hdg (fun H1 locs1 hP1 hD1 hS1 => ?_)
  rw [e1, e2, e3] at hP1 hD1
  exact kk H1 locs1 ⟨hK, hP1, hD1, hS1, hA⟩
end ZCP
