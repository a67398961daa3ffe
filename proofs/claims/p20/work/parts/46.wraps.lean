theorem rg_look {p : Program} {l : Launch} {e : Env} {R : Room} {s : State} {m : MethodId} {args : Array Value} {below : List Frame} {meth : Method} {c : Code} {D : va_G} {A : Nat → Prop} {nL : Nat} {Q : State → Prop} {M : rMem} {k n pc : Nat} {lv : List (Option Value)} {st : List Value} {cc : ByteArray} {own : String} (F : rF p l e R s m args below meth c cc nL own D A) {dflt : Int} {ps : Array (Int × Int)} {len : Nat} {x : Int32} {off : Int} {tgt : Nat} (hd : decode cc pc = .ok (.lookupswitch dflt ps, len)) (hp : (ps.toList.zip (ps.toList.drop 1)).all (fun (a, next) => a.1 < next.1) = true) (ho : Op.lookupswitch.offset ps.toList dflt x.toInt = off) (ht : (pc : Int) + off = (tgt : Int)) (kk : rG p l e R s m args below meth c D A nL Q M k n lv tgt st) : rG p l e R s m args below meth c D A nL Q M k n lv pc (.int x :: st) := fun H locs ls hS hl => lv_lookup F.1 F.2.1 hd hp ho ht (kk H locs ls hS hl)
def zFlt (P : Poem) (nL i m : Nat) : Nat := zOffM m (zFl P nL / 2 ^ zSt P i % 2 ^ min (zCa P i + zo P i) (rFoot m * zF P i)) (min (zCa P i + zo P i) (rFoot m * zF P i)) + rFoot m * zF P i - min (zCa P i + zo P i) (rFoot m * zF P i)
theorem zOffM_le (m x c : Nat) : zOffM m x c ≤ 18 := pop_le 18 _
theorem zFlt_le {P : Poem} {nW i : Nat} (hi : zLok P nW i) (nL m : Nat) : zFlt P nL i m ≤ 40 := by
  have h1 := zOffM_le m (zFl P nL / 2 ^ zSt P i % 2 ^ min (zCa P i + zo P i) (rFoot m * zF P i)) (min (zCa P i + zo P i) (rFoot m * zF P i))
  have h2 := hi.2.2.1
  have h3 : rFoot m ≤ 3 := by unfold rFoot; split <;> omega
  have h4 : rFoot m * zF P i ≤ 3 * 6 := Nat.mul_le_mul h3 h2
  unfold zFlt
  omega
theorem c_rbV (l : Launch) (D : va_G) (M : rMem) (x : Nat) (P : Poem) (nW nL : Nat) (u : Nat → Nat → Nat) (i k : Nat) (hV : cV D M x P nW nL u) (hi : i < nL) (hk : k < nL) : CMi l D yX3_rhymeBetween cX3_rhymeBetween 4 (some .int) 5 0 0 M [.ref (la u i), .ref (la u k)] (fun r M' => r = nI (zRh P i k) ∧ M' = M) := by
  have hO := cV_see hV
  obtain ⟨bk1, md1, h1⟩ := hO.2.2.2.2.2.1 i hi
  obtain ⟨bk2, md2, h2⟩ := hO.2.2.2.2.2.1 k hk
  exact c_rb l D M (la u i) _ _ _ _ (ra u i) _ _ _ _ _ _ _ _ _ _ _ _ md1 bk1 (fun j => wa u (zR P i j)) (la u k) _ _ _ _ (ra u k) _ _ _ _ _ _ _ _ _ _ _ _ md2 bk2 (fun j => wa u (zR P k j)) P nW i k (hO.2.2.2.2.2.2.1 i hi) h1 (fun j hj => hO.2.2.2.2.1 _ ((hO.1.2.2 i hi).2.2.2.2.2 j hj)) (hO.2.2.2.2.2.2.1 k hk) h2 (fun j hj => hO.2.2.2.2.1 _ ((hO.1.2.2 k hk).2.2.2.2.2 j hj)) hO.1.1 (hO.1.2.2 i hi) (hO.1.2.2 k hk)
theorem c_ftV (l : Launch) (D : va_G) (M : rMem) (x : Nat) (P : Poem) (nW nL : Nat) (u : Nat → Nat → Nat) (i k : Nat) (hV : cV D M x P nW nL u) (hi : i < nL) (hk : k < 4) : CMi l D yX1_faultsBy cX1_faultsBy 5 (some .int) 3 0 0 M [.ref (la u i), .int (nI k), .ref (gf u)] (fun r M' => r = nI (zFlt P nL i k) ∧ M' = M) := by
  have hO := cV_see hV
  obtain ⟨f, g1, g2, g3⟩ := hO.2.2.2.2.2.2.2
  have hb := zBg_le hO.1 (i + 1) hi
  have hb2 := zBg_le hO.1 nL (Nat.le_refl _)
  have h10 := hO.1.2.1
  exact c_faults l D M (la u i) _ 0 _ _ (ra u i) _ 0 _ 0 0 _ _ _ _ _ _ _ (gf u) (ga u) f P nW i k (zBg P nL) (zFl P nL) (hO.2.2.2.2.2.2.1 i hi) g1 g2 g3 hO.1.1 (hO.1.2.2 i hi) (by omega) (Nat.lt_of_lt_of_le (zFl_lt hO.1 nL (Nat.le_refl _)) (Nat.pow_le_pow_right (by decide) (by omega))) hk
theorem c_clV (l : Launch) (D : va_G) (M : rMem) (x : Nat) (P : Poem) (nW nL : Nat) (u : Nat → Nat → Nat) (i : Nat) (hV : cV D M x P nW nL u) (hi : i < nL) : CMi l D yX1_isFaultless cX1_isFaultless 1 (some .boolean) 1 0 0 M [.ref (la u i)] (fun r M' => r = nI (decide (zOff P i = 0 ∧ zLack P i = 0)).toNat ∧ M' = M) := by
  have hO := cV_see hV
  have h1 : zOff P i ≤ 18 := zOffM_le _ _ _
  have h2 := (zRm_le (hO.1.2.2 i hi)).1
  exact c_clean l D M (la u i) _ _ _ _ (ra u i) _ _ _ _ _ _ _ _ 0 0 _ _ (zOff P i) (zLack P i) (hO.2.2.2.2.2.2.1 i hi) (by omega) (by unfold zLack; omega)
theorem c_saV (l : Launch) (D : va_G) (M : rMem) (x : Nat) (P : Poem) (nW nL : Nat) (u : Nat → Nat → Nat) (i p : Nat) (hV : cV D M x P nW nL u) (hi : i < nL) (hp : p < 64) : CMi l D yX1_stressAt cX1_stressAt 2 (some .int) 1 0 0 M [.ref (la u i), .int (nI p)] (fun r M' => r = nI (zBits P i / 2 ^ p % 2) ∧ M' = M) := by
  have hO := cV_see hV
  have h2 := zBits_lt (hO.1.2.2 i hi)
  exact c_strAt l D M (la u i) _ _ _ _ (ra u i) _ _ _ _ _ _ _ 0 _ _ _ _ (zBits P i) p (hO.2.2.2.2.2.2.1 i hi) (by omega) hp
theorem c_teV (l : Launch) (D : va_G) (M : rMem) (x : Nat) (P : Poem) (nW nL : Nat) (u : Nat → Nat → Nat) (i what : Nat) (hV : cV D M x P nW nL u) (hi : i < nL) (hw : what < 12) : CMi l D yX1_tells cX1_tells 2 (some .int) 2 0 0 M [.ref (la u i), .int (nI what)] (fun r M' => r = nI (zTold P i what) ∧ M' = M) := by
  have hO := cV_see hV
  obtain ⟨bk1, md1, h1⟩ := hO.2.2.2.2.2.1 i hi
  exact c_tells l D M (la u i) _ (ra u i) md1 bk1 (fun j => wa u (zR P i j)) P i what (hO.2.2.2.2.2.2.1 i hi) h1 hw
theorem c_ulV (l : Launch) (D : va_G) (M : rMem) (x : Nat) (P : Poem) (nW nL : Nat) (u : Nat → Nat → Nat) (i w : Nat) (hV : cV D M x P nW nL u) (hi : i < nL) (hw : w < nW) : CMi l D yX1_usesOf cX1_usesOf 4 (some .int) 4 0 0 M [.ref (la u i), .ref (wa u w)] (fun r M' => r = nI (zUse P i w (zC P i)) ∧ M' = M) := by
  have hO := cV_see hV
  obtain ⟨bk1, md1, h1⟩ := hO.2.2.2.2.2.1 i hi
  have h30 := hO.1.1.1
  exact c_usesL l D M (la u i) _ _ _ _ (ra u i) _ _ _ _ _ _ _ _ _ _ _ _ md1 bk1 (fun j => wa u (zR P i j)) P i (wa u w) w (hO.2.2.2.2.2.2.1 i hi) h1 (fun j hj => hO.2.2.2.2.1 _ ((hO.1.2.2 i hi).2.2.2.2.2 j hj)) (hO.1.2.2 i hi).2.2.2.2.1 (fun j hj => Nat.lt_of_lt_of_le ((hO.1.2.2 i hi).2.2.2.2.2 j hj) h30) (hO.2.2.2.2.1 w hw) (by omega)
/-! counts, sums and the checksum -/
def zUses (P : Poem) (w : Nat) : Nat → Nat
  | 0 => 0
  | i + 1 => zUses P w i + zUse P i w (zC P i)
def zAbout (P : Poem) (nL w what : Nat) : Nat := match what with
  | 0 => zS P w
  | 1 => zT P w
  | 2 => zV P w
  | 3 => zE P w
  | 4 => zO P w
  | _ => zUses P w nL
def zCl1 (P : Poem) (what i : Nat) : Nat := match what with
  | 2 => zC P i
  | 3 => (decide (zOff P i = 0 ∧ zLack P i = 0)).toNat
  | _ => zStay P i
def zCl (P : Poem) (what : Nat) : Nat → Nat
  | 0 => 0
  | i + 1 => zCl P what i + zCl1 P what i
def zLost (P : Poem) (nL : Nat) : Nat := if 0 < nL then zOv P (nL - 1) else 0
def zCnt (P : Poem) (nW nL what : Nat) : Nat := match what with
  | 0 => nW
  | 1 => nL
  | 5 => zLost P nL
  | 6 => zAll P nL
  | _ => zCl P what nL
def zMix (s : Int64) (n : Nat) : Int64 := s * lN 31 + lN n
def zMx (s : Int64) (f : Nat → Nat) : Nat → Int64
  | 0 => s
  | k + 1 => zMix (zMx s f k) (f k)
def zMl (P : Poem) (i : Nat) (s : Int64) : Int64 := zMx (zMx (zMx s (zTold P i) 12) (zR P i) (zC P i)) (fun p => zBits P i / 2 ^ p % 2) (zStay P i)
def zMw (P : Poem) (nL : Nat) (s : Int64) : Nat → Int64
  | 0 => s
  | w + 1 => zMx (zMw P nL s w) (zAbout P nL w) 6
def zMls (P : Poem) (s : Int64) : Nat → Int64
  | 0 => s
  | i + 1 => zMl P i (zMls P s i)
def zDig (P : Poem) (nW nL : Nat) : Int64 := zMls P (zMw P nL (zMx (lN 977) (zCnt P nW nL) 7) nW) nL
theorem zUses_le {P : Poem} {nW nL : Nat} (hP : zOk P nW nL) (w : Nat) : ∀ i, i ≤ nL → zUses P w i ≤ 8 * i
  | 0, _ => Nat.le_refl _
  | i + 1, h => by
    have h1 := zUses_le hP w i (by omega)
    have h2 := zUse_le P i w (zC P i)
    have h3 := (hP.2.2 i (by omega)).2.2.2.2.1
    unfold zUses
    omega
theorem zCl1_le {P : Poem} {nW i : Nat} (hi : zLok P nW i) (what : Nat) : zCl1 P what i ≤ 18 := by
  have h1 := zStay_le hi
  have h2 := hi.2.2.2.2.1
  have h3 := Bool.toNat_le (decide (zOff P i = 0 ∧ zLack P i = 0))
  unfold zCl1
  split <;> omega
theorem zCl_le {P : Poem} {nW nL : Nat} (hP : zOk P nW nL) (what : Nat) : ∀ i, i ≤ nL → zCl P what i ≤ 18 * i
  | 0, _ => Nat.le_refl _
  | i + 1, h => by
    have h1 := zCl_le hP what i (by omega)
    have h2 := zCl1_le (hP.2.2 i (by omega)) what
    unfold zCl
    omega
theorem zOv_le {P : Poem} {nW nL : Nat} (hP : zOk P nW nL) {i : Nat} (hi : i < nL) : zOv P i ≤ 320 := by
  have h1 := zBg_le hP (i + 1) hi
  have h2 := zBg_eq P i
  have h3 : zBg P (i + 1) = zBg P i + zo P i := rfl
  have h4 := hP.2.1
  unfold zOv
  omega
theorem zCnt_le {P : Poem} {nW nL : Nat} (hP : zOk P nW nL) (what : Nat) : zCnt P nW nL what ≤ 2000 := by
  have h1 := hP.1.1
  have h2 := hP.2.1
  have h3 := zAll_le hP nL (Nat.le_refl _)
  have h4 := zCl_le hP what nL (Nat.le_refl _)
  have h5 : zLost P nL ≤ 320 := by
    unfold zLost
    split
    · exact zOv_le hP (by omega)
    · omega
  unfold zCnt
  split <;> omega
theorem zAbout_le {P : Poem} {nW nL w : Nat} (hP : zOk P nW nL) (hw : w < nW) (what : Nat) : zAbout P nL w what ≤ 100 := by
  obtain ⟨h1, h2, h3, h4, h5, h6⟩ := hP.1.2 w hw
  have h7 := zUses_le hP w nL (Nat.le_refl _)
  have h8 := hP.2.1
  have h9 : 2 ^ zS P w ≤ 2 ^ 4 := Nat.pow_le_pow_right (by decide) h2
  unfold zAbout
  split <;> omega
theorem zTold_le {P : Poem} {nW nL i : Nat} (hP : zOk P nW nL) (hi : i < nL) (what : Nat) : zTold P i what ≤ 400 := by
  have h := hP.2.2 i hi
  have h1 := zo_le hP.1 h
  have h2 := zBg_le hP i (by omega)
  have h3 := zBg_eq P i
  have h4 := zStay_le h
  have h5 := zOv_le hP hi
  have h6 : zOff P i ≤ 18 := zOffM_le _ _ _
  have h7 := (zRm_le h).1
  have h8 := zPaid_le P i
  have h9 := zTax_le h
  obtain ⟨a1, a2, a3, a4, a5, a6⟩ := h
  have h10 := hP.2.1
  have h11 : zLack P i ≤ 18 := by unfold zLack; omega
  unfold zTold
  split <;> omega
