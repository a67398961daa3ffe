/-! the poem, and what the document says of it, in natural numbers -/
abbrev Poem : Type := (Nat → Nat → Nat) × (Nat → Nat → Nat) × (Nat → Nat → Nat)
def zS (P : Poem) (w : Nat) : Nat := P.1 0 w
def zT (P : Poem) (w : Nat) : Nat := P.1 1 w
def zV (P : Poem) (w : Nat) : Nat := P.1 2 w
def zE (P : Poem) (w : Nat) : Nat := P.1 3 w
def zO (P : Poem) (w : Nat) : Nat := P.1 4 w
def zM (P : Poem) (i : Nat) : Nat := P.2.1 0 i
def zF (P : Poem) (i : Nat) : Nat := P.2.1 1 i
def zK (P : Poem) (i : Nat) : Nat := P.2.1 2 i
def zC (P : Poem) (i : Nat) : Nat := P.2.1 3 i
def zR (P : Poem) (i j : Nat) : Nat := P.2.2 i j
def zWok (P : Poem) (nW : Nat) : Prop := nW ≤ 30 ∧ ∀ w, w < nW → 1 ≤ zS P w ∧ zS P w ≤ 4 ∧ zT P w < 2 ^ zS P w ∧ zV P w < 10 ∧ zE P w < 10 ∧ zO P w < 2
def zLok (P : Poem) (nW i : Nat) : Prop := zM P i < 4 ∧ 1 ≤ zF P i ∧ zF P i ≤ 6 ∧ zK P i < 6 ∧ zC P i ≤ 8 ∧ ∀ j, j < zC P i → zR P i j < nW
def zOk (P : Poem) (nW nL : Nat) : Prop := zWok P nW ∧ nL ≤ 10 ∧ ∀ i, i < nL → zLok P nW i
def zMelt (P : Poem) (i j : Nat) : Nat := if 0 < j ∧ zE P (zR P i (j - 1)) = 0 ∧ zO P (zR P i j) = 1 then 1 else 0
/-- the own syllables of a line's first words: how many, their bits, how many melted -/
def zOL (P : Poem) (i : Nat) : Nat → Nat
  | 0 => 0
  | j + 1 => zOL P i j - zMelt P i j + zS P (zR P i j)
def zOB (P : Poem) (i : Nat) : Nat → Nat
  | 0 => 0
  | j + 1 => zOB P i j ||| zT P (zR P i j) * 2 ^ (zOL P i j - zMelt P i j)
def zOM (P : Poem) (i : Nat) : Nat → Nat
  | 0 => 0
  | j + 1 => zOM P i j + zMelt P i j
def zo (P : Poem) (i : Nat) : Nat := zOL P i (zC P i)
def zb (P : Poem) (i : Nat) : Nat := zOB P i (zC P i)
def zRm (P : Poem) (i : Nat) : Nat := rFoot (zM P i) * zF P i
/-- where a line's own syllables begin among all, the syllables of the lines ahead, where a line begins -/
def zBg (P : Poem) : Nat → Nat
  | 0 => 0
  | i + 1 => zBg P i + zo P i
def zFl (P : Poem) : Nat → Nat
  | 0 => 0
  | i + 1 => zFl P i ||| zb P i * 2 ^ zBg P i
def zSt (P : Poem) : Nat → Nat
  | 0 => 0
  | i + 1 => zSt P i + min (zBg P i - zSt P i + zo P i) (zRm P i)
def zCa (P : Poem) (i : Nat) : Nat := zBg P i - zSt P i
def zStay (P : Poem) (i : Nat) : Nat := min (zCa P i + zo P i) (zRm P i)
def zOv (P : Poem) (i : Nat) : Nat := zCa P i + zo P i - zStay P i
def zBits (P : Poem) (i : Nat) : Nat := zFl P (i + 1) / 2 ^ zSt P i % 2 ^ zStay P i
def zAsk (m : Nat) : Nat := if m = 0 then 2730 else if m = 1 then 1365 else if m = 2 then 149796 else 37449
def zOffM (m x cnt : Nat) : Nat := pop 18 ((x ^^^ zAsk m) % 2 ^ cnt)
def zOff (P : Poem) (i : Nat) : Nat := zOffM (zM P i) (zBits P i) (zStay P i)
def zLack (P : Poem) (i : Nat) : Nat := zRm P i - zStay P i
def zRhW (P : Poem) (a b : Nat) : Nat := rRhy a (zV P a) (zE P a) (rLst (zS P a) (zT P a)) b (zV P b) (zE P b) (rLst (zS P b) (zT P b))
def zRh (P : Poem) (i k : Nat) : Nat := if zC P i = 0 ∨ zC P k = 0 then 0 else zRhW P (zR P i (zC P i - 1)) (zR P k (zC P k - 1))
def zNear (P : Poem) (mk : Nat) : Nat → Option Nat
  | 0 => none
  | k + 1 => if zK P k = mk then some k else zNear P mk k
def zPaid (P : Poem) (i : Nat) : Nat := match zNear P (zK P i) i with
  | none => 0
  | some k => zRh P i k
def zTax (P : Poem) (i : Nat) : Nat := if zC P i = 0 then zF P i else 2 * pop 18 (zBits P i) + 3 * zOff P i + 5 * zLack P i - 4 * zPaid P i
def zAll (P : Poem) : Nat → Nat
  | 0 => 0
  | i + 1 => zAll P i + zTax P i
/-! bounds -/
theorem zMelt_le (P : Poem) (i j : Nat) : zMelt P i j ≤ 1 := by unfold zMelt; split <;> omega
theorem zMelt_0 (P : Poem) (i : Nat) : zMelt P i 0 = 0 := by unfold zMelt; rw [if_neg (by omega)]
theorem zOL_b {P : Poem} {nW i : Nat} (hW : zWok P nW) (hR : ∀ j, j < zC P i → zR P i j < nW) : ∀ j, j ≤ zC P i → zOL P i j ≤ 4 * j ∧ (0 < j → 1 ≤ zOL P i j) ∧ zOB P i j < 2 ^ zOL P i j ∧ zMelt P i j ≤ zOL P i j
  | 0, _ => ⟨Nat.le_refl _, fun h => absurd h (Nat.lt_irrefl _), (by decide : 0 < 1), by rw [zMelt_0]; exact Nat.le_refl _⟩
  | j + 1, hj => by
    obtain ⟨h1, h2, h3, h4⟩ := zOL_b hW hR j (by omega)
    obtain ⟨w1, w2, w3, -⟩ := hW.2 _ (hR j (by omega))
    have hm := zMelt_le P i (j + 1)
    have e : zOL P i (j + 1) = zOL P i j - zMelt P i j + zS P (zR P i j) := rfl
    have e2 : zOB P i (j + 1) = (zOB P i j ||| zT P (zR P i j) * 2 ^ (zOL P i j - zMelt P i j)) := rfl
    have hm2 := zMelt_le P i j
    refine ⟨by omega, fun _ => by omega, ?_, by omega⟩
    rw [e, e2]
    refine Nat.or_lt_two_pow (Nat.lt_of_lt_of_le h3 (Nat.pow_le_pow_right (by decide) (by omega))) ?_
    rw [Nat.add_comm, Nat.pow_add]
    exact Nat.mul_lt_mul_of_pos_right w3 (Nat.two_pow_pos _)
theorem zOL_mono {P : Poem} {nW i : Nat} (hW : zWok P nW) (hR : ∀ j, j < zC P i → zR P i j < nW) (j : Nat) (hj : j < zC P i) : zOL P i j ≤ zOL P i (j + 1) := by
  obtain ⟨w1, -⟩ := hW.2 _ (hR j hj)
  have hm2 := zMelt_le P i j
  show zOL P i j ≤ zOL P i j - zMelt P i j + zS P (zR P i j)
  omega
theorem zo_le {P : Poem} {nW i : Nat} (hW : zWok P nW) (hi : zLok P nW i) : zo P i ≤ 32 := by
  have := (zOL_b hW hi.2.2.2.2.2 (zC P i) (Nat.le_refl _)).1
  have := hi.2.2.2.2.1
  unfold zo
  omega
theorem zb_lt {P : Poem} {nW i : Nat} (hW : zWok P nW) (hi : zLok P nW i) : zb P i < 2 ^ zo P i := (zOL_b hW hi.2.2.2.2.2 (zC P i) (Nat.le_refl _)).2.2.1
theorem zRm_le {P : Poem} {nW i : Nat} (hi : zLok P nW i) : zRm P i ≤ 18 ∧ 2 ≤ zRm P i := by
  have h1 := hi.2.1
  have h2 := hi.2.2.1
  unfold zRm rFoot
  split <;> omega
theorem zSt_le (P : Poem) : ∀ i, zSt P i ≤ zBg P i
  | 0 => Nat.le_refl _
  | i + 1 => by
    have := zSt_le P i
    show zSt P i + min (zBg P i - zSt P i + zo P i) (zRm P i) ≤ zBg P i + zo P i
    omega
theorem zSt_succ (P : Poem) (i : Nat) : zSt P (i + 1) = zSt P i + zStay P i := rfl
theorem zBg_eq (P : Poem) (i : Nat) : zBg P i = zSt P i + zCa P i := by
  have := zSt_le P i
  unfold zCa
  omega
theorem zCa_succ (P : Poem) (i : Nat) : zCa P (i + 1) = zOv P i := by
  have h1 := zBg_eq P i
  have h2 : zBg P (i + 1) = zBg P i + zo P i := rfl
  have h3 := zSt_succ P i
  unfold zOv
  unfold zCa at *
  omega
theorem zBg_le {P : Poem} {nW nL : Nat} (hP : zOk P nW nL) : ∀ i, i ≤ nL → zBg P i ≤ 32 * i
  | 0, _ => Nat.le_refl _
  | i + 1, h => by
    have h1 := zBg_le hP i (by omega)
    have h2 := zo_le hP.1 (hP.2.2 i (by omega))
    show zBg P i + zo P i ≤ 32 * (i + 1)
    omega
theorem zFl_lt {P : Poem} {nW nL : Nat} (hP : zOk P nW nL) : ∀ i, i ≤ nL → zFl P i < 2 ^ zBg P i
  | 0, _ => (by decide : 0 < 1)
  | i + 1, h => by
    have h1 := zFl_lt hP i (by omega)
    have h2 := zb_lt hP.1 (hP.2.2 i (by omega))
    show (zFl P i ||| zb P i * 2 ^ zBg P i) < 2 ^ (zBg P i + zo P i)
    refine Nat.or_lt_two_pow (Nat.lt_of_lt_of_le h1 (Nat.pow_le_pow_right (by decide) (by omega))) ?_
    rw [Nat.add_comm, Nat.pow_add]
    exact Nat.mul_lt_mul_of_pos_right h2 (Nat.two_pow_pos _)
theorem zStay_le {P : Poem} {nW i : Nat} (hi : zLok P nW i) : zStay P i ≤ 18 := Nat.le_trans (Nat.min_le_right _ _) (zRm_le hi).1
theorem zBits_lt {P : Poem} {nW i : Nat} (hi : zLok P nW i) : zBits P i < 262144 :=
  Nat.lt_of_lt_of_le (Nat.mod_lt _ (Nat.two_pow_pos _)) (show 2 ^ zStay P i ≤ 2 ^ 18 from Nat.pow_le_pow_right (by decide) (zStay_le hi))
theorem zRhW_le (P : Poem) (a b : Nat) : zRhW P a b ≤ 3 := by
  unfold zRhW rRhy
  split <;> (try split) <;> (try split) <;> omega
theorem zRh_le (P : Poem) (a b : Nat) : zRh P a b ≤ 3 := by
  unfold zRh
  split
  · omega
  · exact zRhW_le P _ _
theorem zPaid_le (P : Poem) (i : Nat) : zPaid P i ≤ 3 := by
  unfold zPaid
  split
  · omega
  · exact zRh_le P _ _
theorem zTax_le {P : Poem} {nW i : Nat} (hi : zLok P nW i) : zTax P i ≤ 200 := by
  have h1 := pop_le 18 (zBits P i)
  have h2 : zOff P i ≤ 18 := pop_le 18 _
  have h3 := (zRm_le hi).1
  have h4 := hi.2.2.1
  unfold zTax zLack
  split <;> omega
theorem zAll_le {P : Poem} {nW nL : Nat} (hP : zOk P nW nL) : ∀ i, i ≤ nL → zAll P i ≤ 200 * i
  | 0, _ => Nat.le_refl _
  | i + 1, h => by
    have h1 := zAll_le hP i (by omega)
    have h2 := zTax_le (hP.2.2 i (by omega))
    show zAll P i + zTax P i ≤ 200 * (i + 1)
    omega
