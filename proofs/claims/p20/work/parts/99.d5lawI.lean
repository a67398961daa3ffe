section LAW
variable {p : Program} {l : Launch} {e : Env} {s : State} {m : MethodId} {args : Array Value} {below : List Frame} {meth : Method} {c : Code} {D : va_G} {A : Nat → Prop} {Q : State → Prop} {M : rMem} {k n : Nat}
set_option maxHeartbeats 4000000 in
set_option maxRecDepth 100000 in
theorem L_I0 (F : rF p l e room_1 s m args below meth c cL_law 26 RL D A) {tm kx : Nat} {x : Nat} {P : Poem} {nW nL : Nat} {u : Nat → Nat → Nat} (hV : cV D M x P nW nL u) (h1W : 1 ≤ nW) (h1L : 1 ≤ nL) {i : Nat} (hi : i < nL) (hk : k ≤ 610524) (hn : n ≤ 7270126) (KK : rG p l e room_1 s m args below meth c D A 26 Q M k n [some (.ref (rSb D)), some (.ref (x)), some (.int (nI tm)), none, some (.int (nI nL)), none, some (.int (nI kx)), none, none, some (.long (zDig P nW nL)), none, some (.int (nI (zCl P 2 (i + 1)))), some (.int (nI (zCl P 4 (i + 1)))), some (.int (nI (zCa P (i + 1)))), some (.int (nI i)), none, none, none, none, none, none, none, none, none, none, none] 1026 []) : rG p l e room_1 s m args below meth c D A 26 Q M k n [some (.ref (rSb D)), some (.ref (x)), some (.int (nI tm)), none, some (.int (nI nL)), none, some (.int (nI kx)), none, none, some (.long (zDig P nW nL)), none, some (.int (nI (zCl P 2 i))), some (.int (nI (zCl P 4 i))), some (.int (nI (zCa P i))), some (.int (nI i)), some (.int (nI (zM P i))), some (.int (nI (zRm P i))), some (.int (nI (zStay P i))), some (.int (nI (zOff P i))), some (.int (nI 0)), some (.int (nI 0)), none, none, none, none, none] 657 [.int (nI 0)] := by
  have hO19 := cV_see hV
  have hlk := hO19.1.2.2 i hi
  have h18 := zStay_le hlk
  have hm4 := hlk.1
  have h12 : zM P i < 2 → zStay P i ≤ 12 := fun h => by (have h1 : zStay P i ≤ zRm P i := Nat.min_le_right _ _); (have h2 := hlk.2.2.1); unfold zRm rFoot at h1; rw [if_pos h] at h1; omega
  refine rg_istore F (pc := 657) (lv' := [some (.ref (rSb D)), some (.ref (x)), some (.int (nI tm)), none, some (.int (nI nL)), none, some (.int (nI kx)), none, none, some (.long (zDig P nW nL)), none, some (.int (nI (zCl P 2 i))), some (.int (nI (zCl P 4 i))), some (.int (nI (zCa P i))), some (.int (nI i)), some (.int (nI (zM P i))), some (.int (nI (zRm P i))), some (.int (nI (zStay P i))), some (.int (nI (zOff P i))), some (.int (nI 0)), some (.int (nI 0)), some (.int (nI 0)), none, none, none, none]) dL_law_657 (Nat.le_of_ble_eq_true rfl) rfl ?_
  refine rg_iconst F (pc := 659) (v := nI 0) dL_law_659 (by decide) ?_
  refine rg_istore F (pc := 660) (lv' := [some (.ref (rSb D)), some (.ref (x)), some (.int (nI tm)), none, some (.int (nI nL)), none, some (.int (nI kx)), none, none, some (.long (zDig P nW nL)), none, some (.int (nI (zCl P 2 i))), some (.int (nI (zCl P 4 i))), some (.int (nI (zCa P i))), some (.int (nI i)), some (.int (nI (zM P i))), some (.int (nI (zRm P i))), some (.int (nI (zStay P i))), some (.int (nI (zOff P i))), some (.int (nI 0)), some (.int (nI 0)), some (.int (nI 0)), some (.int (nI 0)), none, none, none]) dL_law_660 (Nat.le_of_ble_eq_true rfl) rfl ?_
  refine rg_iload F (pc := 662) dL_law_662 rfl ?_
  refine rg_iload F (pc := 664) dL_law_664 rfl ?_
  refine rg_ncmp_ge F (pc := 666) (tgt := 798) dL_law_666 (by decide) (by omega) (by omega) (fun c666 => ?_) (fun c666 => ?_)
  · refine rg_sub (lv' := [some (.ref (rSb D)), some (.ref (x)), some (.int (nI tm)), none, some (.int (nI nL)), none, some (.int (nI kx)), none, none, some (.long (zDig P nW nL)), none, some (.int (nI (zCl P 2 i))), some (.int (nI (zCl P 4 i))), some (.int (nI (zCa P i))), some (.int (nI i)), none, some (.int (nI (zRm P i))), some (.int (nI (zStay P i))), some (.int (nI (zOff P i))), some (.int (nI 0)), some (.int (nI 0)), some (.int (nI 0)), none, none, none, none]) (by repeat' constructor) ?_
    exact L_T0 F hV h1W h1L hi (Nat.zero_le _) hk hn KK
  · refine rg_iload F (pc := 669) dL_law_669 rfl ?_
    refine rg_nif_eq F (pc := 671) (tgt := 798) dL_law_671 (by decide) (by omega) (fun c671 => ?_) (fun c671 => by exfalso; omega)
    refine rg_sub (lv' := [some (.ref (rSb D)), some (.ref (x)), some (.int (nI tm)), none, some (.int (nI nL)), none, some (.int (nI kx)), none, none, some (.long (zDig P nW nL)), none, some (.int (nI (zCl P 2 i))), some (.int (nI (zCl P 4 i))), some (.int (nI (zCa P i))), some (.int (nI i)), none, some (.int (nI (zRm P i))), some (.int (nI (zStay P i))), some (.int (nI (zOff P i))), some (.int (nI 0)), some (.int (nI 0)), some (.int (nI 0)), none, none, none, none]) (by repeat' constructor) ?_
    exact L_T0 F hV h1W h1L hi (Nat.zero_le _) hk hn KK
set_option maxHeartbeats 4000000 in
set_option maxRecDepth 100000 in
theorem L_I1 (F : rF p l e room_1 s m args below meth c cL_law 26 RL D A) {tm kx : Nat} {x : Nat} {P : Poem} {nW nL : Nat} {u : Nat → Nat → Nat} (hV : cV D M x P nW nL u) (h1W : 1 ≤ nW) (h1L : 1 ≤ nL) {i : Nat} (hi : i < nL) (hk : k ≤ 610524) (hn : n ≤ 7270126) (KK : rG p l e room_1 s m args below meth c D A 26 Q M k n [some (.ref (rSb D)), some (.ref (x)), some (.int (nI tm)), none, some (.int (nI nL)), none, some (.int (nI kx)), none, none, some (.long (zDig P nW nL)), none, some (.int (nI (zCl P 2 (i + 1)))), some (.int (nI (zCl P 4 (i + 1)))), some (.int (nI (zCa P (i + 1)))), some (.int (nI i)), none, none, none, none, none, none, none, none, none, none, none] 1026 []) : rG p l e room_1 s m args below meth c D A 26 Q M k n [some (.ref (rSb D)), some (.ref (x)), some (.int (nI tm)), none, some (.int (nI nL)), none, some (.int (nI kx)), none, none, some (.long (zDig P nW nL)), none, some (.int (nI (zCl P 2 i))), some (.int (nI (zCl P 4 i))), some (.int (nI (zCa P i))), some (.int (nI i)), some (.int (nI (zM P i))), some (.int (nI (zRm P i))), some (.int (nI (zStay P i))), some (.int (nI (zOff P i))), some (.int (nI 0)), some (.int (nI 0)), none, none, none, none, none] 657 [.int (nI 1)] := by
  have hO20 := cV_see hV
  have hlk := hO20.1.2.2 i hi
  have h18 := zStay_le hlk
  have hm4 := hlk.1
  have h12 : zM P i < 2 → zStay P i ≤ 12 := fun h => by (have h1 : zStay P i ≤ zRm P i := Nat.min_le_right _ _); (have h2 := hlk.2.2.1); unfold zRm rFoot at h1; rw [if_pos h] at h1; omega
  refine rg_istore F (pc := 657) (lv' := [some (.ref (rSb D)), some (.ref (x)), some (.int (nI tm)), none, some (.int (nI nL)), none, some (.int (nI kx)), none, none, some (.long (zDig P nW nL)), none, some (.int (nI (zCl P 2 i))), some (.int (nI (zCl P 4 i))), some (.int (nI (zCa P i))), some (.int (nI i)), some (.int (nI (zM P i))), some (.int (nI (zRm P i))), some (.int (nI (zStay P i))), some (.int (nI (zOff P i))), some (.int (nI 0)), some (.int (nI 0)), some (.int (nI 1)), none, none, none, none]) dL_law_657 (Nat.le_of_ble_eq_true rfl) rfl ?_
  refine rg_iconst F (pc := 659) (v := nI 0) dL_law_659 (by decide) ?_
  refine rg_istore F (pc := 660) (lv' := [some (.ref (rSb D)), some (.ref (x)), some (.int (nI tm)), none, some (.int (nI nL)), none, some (.int (nI kx)), none, none, some (.long (zDig P nW nL)), none, some (.int (nI (zCl P 2 i))), some (.int (nI (zCl P 4 i))), some (.int (nI (zCa P i))), some (.int (nI i)), some (.int (nI (zM P i))), some (.int (nI (zRm P i))), some (.int (nI (zStay P i))), some (.int (nI (zOff P i))), some (.int (nI 0)), some (.int (nI 0)), some (.int (nI 1)), some (.int (nI 0)), none, none, none]) dL_law_660 (Nat.le_of_ble_eq_true rfl) rfl ?_
  refine rg_eq (lv2 := [some (.ref (rSb D)), some (.ref (x)), some (.int (nI tm)), none, some (.int (nI nL)), none, some (.int (nI kx)), none, none, some (.long (zDig P nW nL)), none, some (.int (nI (zCl P 2 i))), some (.int (nI (zCl P 4 i))), some (.int (nI (zCa P i))), some (.int (nI i)), some (.int (nI (zM P i))), some (.int (nI (zRm P i))), some (.int (nI (zStay P i))), some (.int (nI (zOff P i))), some (.int (nI (pop 0 (zBits P i)))), some (.int (nI (pop 0 (zBits P i ^^^ zAsk (zM P i))))), some (.int (nI 1)), some (.int (nI 0)), none, none, none]) (st2 := []) (pc2 := 662) rfl rfl rfl ?_
  suffices L0 : ∀ (d9 : Nat) (q : Nat), zStay P i - q < d9 → (q ≤ zStay P i) → rG p l e room_1 s m args below meth c D A 26 Q M k n [some (.ref (rSb D)), some (.ref (x)), some (.int (nI tm)), none, some (.int (nI nL)), none, some (.int (nI kx)), none, none, some (.long (zDig P nW nL)), none, some (.int (nI (zCl P 2 i))), some (.int (nI (zCl P 4 i))), some (.int (nI (zCa P i))), some (.int (nI i)), some (.int (nI (zM P i))), some (.int (nI (zRm P i))), some (.int (nI (zStay P i))), some (.int (nI (zOff P i))), some (.int (nI (pop q (zBits P i)))), some (.int (nI (pop q (zBits P i ^^^ zAsk (zM P i))))), some (.int (nI 1)), some (.int (nI q)), none, none, none] 662 [] from L0 _ 0 (Nat.lt_succ_self _) (Nat.zero_le _)
  intro d9
  induction d9 with
  | zero => intro q hd9; exact absurd hd9 (Nat.not_lt_zero _)
  | succ d9 ih =>
    intro q hd9 hq
    have hp1 := pop_le q (zBits P i)
    have hp2 := pop_le q (zBits P i ^^^ zAsk (zM P i))
    refine rg_iload F (pc := 662) dL_law_662 rfl ?_
    refine rg_iload F (pc := 664) dL_law_664 rfl ?_
    refine rg_ncmp_ge F (pc := 666) (tgt := 798) dL_law_666 (by decide) (by omega) (by omega) (fun c666 => ?_) (fun c666 => ?_)
    · have e9 : q = zStay P i := by omega
      refine rg_sub (lv' := [some (.ref (rSb D)), some (.ref (x)), some (.int (nI tm)), none, some (.int (nI nL)), none, some (.int (nI kx)), none, none, some (.long (zDig P nW nL)), none, some (.int (nI (zCl P 2 i))), some (.int (nI (zCl P 4 i))), some (.int (nI (zCa P i))), some (.int (nI i)), none, some (.int (nI (zRm P i))), some (.int (nI (zStay P i))), some (.int (nI (zOff P i))), some (.int (nI (pop q (zBits P i)))), some (.int (nI (pop q (zBits P i ^^^ zAsk (zM P i))))), some (.int (nI 1)), none, none, none, none]) (by repeat' constructor) ?_
      refine rg_eq (lv2 := [some (.ref (rSb D)), some (.ref (x)), some (.int (nI tm)), none, some (.int (nI nL)), none, some (.int (nI kx)), none, none, some (.long (zDig P nW nL)), none, some (.int (nI (zCl P 2 i))), some (.int (nI (zCl P 4 i))), some (.int (nI (zCa P i))), some (.int (nI i)), none, some (.int (nI (zRm P i))), some (.int (nI (zStay P i))), some (.int (nI (zOff P i))), some (.int (nI (pop 18 (zBits P i)))), some (.int (nI (zOff P i))), some (.int (nI 1)), none, none, none, none]) (st2 := []) (pc2 := 798) (by rw [e9, zBits_pop hlk, zOff_pop hlk]) rfl rfl ?_
      exact L_T1 F hV h1W h1L hi hk hn KK
    · refine rg_iload F (pc := 669) dL_law_669 rfl ?_
      refine rg_nif_eq F (pc := 671) (tgt := 798) dL_law_671 (by decide) (by omega) (fun c671 => by exfalso; omega) (fun c671 => ?_)
      refine rg_aload_n F (pc := 674) dL_law_674 rfl ?_
      refine rg_iload F (pc := 675) dL_law_675 rfl ?_
      refine rg_iload F (pc := 677) dL_law_677 rfl ?_
      refine rg_callVi F (pc := 679) (As := [.int (nI i), .int (nI q)]) (rest := []) (ci := 4) (c_stress l D _ x P nW nL u i q hV hi (by omega)) q437 vq_X3_stress rfl hO20.2.1 rfl rfl (Nat.le_of_ble_eq_true rfl) (Nat.le_of_ble_eq_true rfl) (Nat.le_of_ble_eq_true rfl) ⟨by show _ ≤ 610524; omega, by show _ ≤ 7270126; omega⟩ dL_law_679 (fun r9 M9 hp => ?_)
      refine rg_widen (k2 := k) (n2 := n) (by omega) (by omega) ?_
      obtain ⟨bt, hbt, hb2⟩ : ∃ bt, bt = zBits P i / 2 ^ q % 2 ∧ bt < 2 := ⟨_, rfl, Nat.mod_lt _ (by decide)⟩
      obtain ⟨at9, hat, ha2⟩ : ∃ at9, at9 = zAsk (zM P i) / 2 ^ q % 2 ∧ at9 < 2 := ⟨_, rfl, Nat.mod_lt _ (by decide)⟩
      refine rg_top (v2 := .int (nI bt)) (by rw [hp.1, hbt]) ?_
      refine rg_mem (M2 := M) hp.2 ?_
      refine rg_istore F (pc := 682) (lv' := [some (.ref (rSb D)), some (.ref (x)), some (.int (nI tm)), none, some (.int (nI nL)), none, some (.int (nI kx)), none, none, some (.long (zDig P nW nL)), none, some (.int (nI (zCl P 2 i))), some (.int (nI (zCl P 4 i))), some (.int (nI (zCa P i))), some (.int (nI i)), some (.int (nI (zM P i))), some (.int (nI (zRm P i))), some (.int (nI (zStay P i))), some (.int (nI (zOff P i))), some (.int (nI (pop q (zBits P i)))), some (.int (nI (pop q (zBits P i ^^^ zAsk (zM P i))))), some (.int (nI 1)), some (.int (nI q)), some (.int (nI bt)), none, none]) dL_law_682 (Nat.le_of_ble_eq_true rfl) rfl ?_
      have K753 : rG p l e room_1 s m args below meth c D A 26 Q M k n [some (.ref (rSb D)), some (.ref (x)), some (.int (nI tm)), none, some (.int (nI nL)), none, some (.int (nI kx)), none, none, some (.long (zDig P nW nL)), none, some (.int (nI (zCl P 2 i))), some (.int (nI (zCl P 4 i))), some (.int (nI (zCa P i))), some (.int (nI i)), some (.int (nI (zM P i))), some (.int (nI (zRm P i))), some (.int (nI (zStay P i))), some (.int (nI (zOff P i))), some (.int (nI (pop q (zBits P i)))), some (.int (nI (pop q (zBits P i ^^^ zAsk (zM P i))))), some (.int (nI 1)), some (.int (nI q)), some (.int (nI bt)), none, none] 753 [.int (nI at9)] := by
        refine rg_istore F (pc := 753) (lv' := [some (.ref (rSb D)), some (.ref (x)), some (.int (nI tm)), none, some (.int (nI nL)), none, some (.int (nI kx)), none, none, some (.long (zDig P nW nL)), none, some (.int (nI (zCl P 2 i))), some (.int (nI (zCl P 4 i))), some (.int (nI (zCa P i))), some (.int (nI i)), some (.int (nI (zM P i))), some (.int (nI (zRm P i))), some (.int (nI (zStay P i))), some (.int (nI (zOff P i))), some (.int (nI (pop q (zBits P i)))), some (.int (nI (pop q (zBits P i ^^^ zAsk (zM P i))))), some (.int (nI 1)), some (.int (nI q)), some (.int (nI bt)), none, some (.int (nI at9))]) dL_law_753 (Nat.le_of_ble_eq_true rfl) rfl ?_
        refine rg_iload F (pc := 755) dL_law_755 rfl ?_
        refine rg_nif_eq F (pc := 757) (tgt := 768) dL_law_757 (by decide) (by omega) (fun c757 => ?_) (fun c757 => ?_)
        · refine rg_iload F (pc := 768) dL_law_768 rfl ?_
          refine rg_iload F (pc := 770) dL_law_770 rfl ?_
          refine rg_iadd F (pc := 772) (v := nI (pop (q + 1) (zBits P i))) dL_law_772 ((nI_add _ _).trans (by rw [hbt]; rfl)) ?_
          refine rg_istore F (pc := 773) (lv' := [some (.ref (rSb D)), some (.ref (x)), some (.int (nI tm)), none, some (.int (nI nL)), none, some (.int (nI kx)), none, none, some (.long (zDig P nW nL)), none, some (.int (nI (zCl P 2 i))), some (.int (nI (zCl P 4 i))), some (.int (nI (zCa P i))), some (.int (nI i)), some (.int (nI (zM P i))), some (.int (nI (zRm P i))), some (.int (nI (zStay P i))), some (.int (nI (zOff P i))), some (.int (nI (pop (q + 1) (zBits P i)))), some (.int (nI (pop q (zBits P i ^^^ zAsk (zM P i))))), some (.int (nI 1)), some (.int (nI q)), some (.int (nI bt)), none, some (.int (nI at9))]) dL_law_773 (Nat.le_of_ble_eq_true rfl) rfl ?_
          refine rg_iload F (pc := 775) dL_law_775 rfl ?_
          refine rg_iload F (pc := 777) dL_law_777 rfl ?_
          refine rg_iload F (pc := 779) dL_law_779 rfl ?_
          refine rg_ncmp_ne F (pc := 781) (tgt := 788) dL_law_781 (by decide) (by omega) (by omega) (fun c781 => ?_) (fun c781 => ?_)
          · refine rg_iconst F (pc := 788) (v := nI 1) dL_law_788 (by decide) ?_
            refine rg_iadd F (pc := 789) (v := nI (pop (q + 1) (zBits P i ^^^ zAsk (zM P i)))) dL_law_789 ((nI_add _ _).trans (by rw [xq_ne (show ¬ zBits P i / 2 ^ q % 2 = zAsk (zM P i) / 2 ^ q % 2 by rw [← hbt, ← hat]; exact c781)])) ?_
            refine rg_istore F (pc := 790) (lv' := [some (.ref (rSb D)), some (.ref (x)), some (.int (nI tm)), none, some (.int (nI nL)), none, some (.int (nI kx)), none, none, some (.long (zDig P nW nL)), none, some (.int (nI (zCl P 2 i))), some (.int (nI (zCl P 4 i))), some (.int (nI (zCa P i))), some (.int (nI i)), some (.int (nI (zM P i))), some (.int (nI (zRm P i))), some (.int (nI (zStay P i))), some (.int (nI (zOff P i))), some (.int (nI (pop (q + 1) (zBits P i)))), some (.int (nI (pop (q + 1) (zBits P i ^^^ zAsk (zM P i))))), some (.int (nI 1)), some (.int (nI q)), some (.int (nI bt)), none, some (.int (nI at9))]) dL_law_790 (Nat.le_of_ble_eq_true rfl) rfl ?_
            refine rg_sub (lv' := [some (.ref (rSb D)), some (.ref (x)), some (.int (nI tm)), none, some (.int (nI nL)), none, some (.int (nI kx)), none, none, some (.long (zDig P nW nL)), none, some (.int (nI (zCl P 2 i))), some (.int (nI (zCl P 4 i))), some (.int (nI (zCa P i))), some (.int (nI i)), some (.int (nI (zM P i))), some (.int (nI (zRm P i))), some (.int (nI (zStay P i))), some (.int (nI (zOff P i))), some (.int (nI (pop (q + 1) (zBits P i)))), some (.int (nI (pop (q + 1) (zBits P i ^^^ zAsk (zM P i))))), some (.int (nI 1)), some (.int (nI q)), none, none, none]) (by repeat' constructor) ?_
            refine rg_iinc F (pc := 792) (v := nI (q + 1)) (lv' := [some (.ref (rSb D)), some (.ref (x)), some (.int (nI tm)), none, some (.int (nI nL)), none, some (.int (nI kx)), none, none, some (.long (zDig P nW nL)), none, some (.int (nI (zCl P 2 i))), some (.int (nI (zCl P 4 i))), some (.int (nI (zCa P i))), some (.int (nI i)), some (.int (nI (zM P i))), some (.int (nI (zRm P i))), some (.int (nI (zStay P i))), some (.int (nI (zOff P i))), some (.int (nI (pop (q + 1) (zBits P i)))), some (.int (nI (pop (q + 1) (zBits P i ^^^ zAsk (zM P i))))), some (.int (nI 1)), some (.int (nI (q + 1))), none, none, none]) dL_law_792 rfl (nI_add _ 1) (Nat.le_of_ble_eq_true rfl) rfl ?_
            refine rg_goto F (pc := 795) (tgt := 662) dL_law_795 (by decide) ?_
            exact ih (q + 1) (by omega) (by omega)
          · refine rg_iconst F (pc := 784) (v := nI 0) dL_law_784 (by decide) ?_
            refine rg_goto F (pc := 785) (tgt := 789) dL_law_785 (by decide) ?_
            refine rg_iadd F (pc := 789) (v := nI (pop (q + 1) (zBits P i ^^^ zAsk (zM P i)))) dL_law_789 ((nI_add _ _).trans (by rw [xq_eq (show zBits P i / 2 ^ q % 2 = zAsk (zM P i) / 2 ^ q % 2 by rw [← hbt, ← hat]; exact c781)])) ?_
            refine rg_istore F (pc := 790) (lv' := [some (.ref (rSb D)), some (.ref (x)), some (.int (nI tm)), none, some (.int (nI nL)), none, some (.int (nI kx)), none, none, some (.long (zDig P nW nL)), none, some (.int (nI (zCl P 2 i))), some (.int (nI (zCl P 4 i))), some (.int (nI (zCa P i))), some (.int (nI i)), some (.int (nI (zM P i))), some (.int (nI (zRm P i))), some (.int (nI (zStay P i))), some (.int (nI (zOff P i))), some (.int (nI (pop (q + 1) (zBits P i)))), some (.int (nI (pop (q + 1) (zBits P i ^^^ zAsk (zM P i))))), some (.int (nI 1)), some (.int (nI q)), some (.int (nI bt)), none, some (.int (nI at9))]) dL_law_790 (Nat.le_of_ble_eq_true rfl) rfl ?_
            refine rg_sub (lv' := [some (.ref (rSb D)), some (.ref (x)), some (.int (nI tm)), none, some (.int (nI nL)), none, some (.int (nI kx)), none, none, some (.long (zDig P nW nL)), none, some (.int (nI (zCl P 2 i))), some (.int (nI (zCl P 4 i))), some (.int (nI (zCa P i))), some (.int (nI i)), some (.int (nI (zM P i))), some (.int (nI (zRm P i))), some (.int (nI (zStay P i))), some (.int (nI (zOff P i))), some (.int (nI (pop (q + 1) (zBits P i)))), some (.int (nI (pop (q + 1) (zBits P i ^^^ zAsk (zM P i))))), some (.int (nI 1)), some (.int (nI q)), none, none, none]) (by repeat' constructor) ?_
            refine rg_iinc F (pc := 792) (v := nI (q + 1)) (lv' := [some (.ref (rSb D)), some (.ref (x)), some (.int (nI tm)), none, some (.int (nI nL)), none, some (.int (nI kx)), none, none, some (.long (zDig P nW nL)), none, some (.int (nI (zCl P 2 i))), some (.int (nI (zCl P 4 i))), some (.int (nI (zCa P i))), some (.int (nI i)), some (.int (nI (zM P i))), some (.int (nI (zRm P i))), some (.int (nI (zStay P i))), some (.int (nI (zOff P i))), some (.int (nI (pop (q + 1) (zBits P i)))), some (.int (nI (pop (q + 1) (zBits P i ^^^ zAsk (zM P i))))), some (.int (nI 1)), some (.int (nI (q + 1))), none, none, none]) dL_law_792 rfl (nI_add _ 1) (Nat.le_of_ble_eq_true rfl) rfl ?_
            refine rg_goto F (pc := 795) (tgt := 662) dL_law_795 (by decide) ?_
            exact ih (q + 1) (by omega) (by omega)
        · refine rg_iload F (pc := 760) dL_law_760 rfl ?_
          refine rg_iconst F (pc := 762) (v := nI 1) dL_law_762 (by decide) ?_
          refine rg_ncmp_eq F (pc := 763) (tgt := 768) dL_law_763 (by decide) (by omega) (by omega) (fun c763 => ?_) (fun c763 => by exfalso; omega)
          refine rg_iload F (pc := 768) dL_law_768 rfl ?_
          refine rg_iload F (pc := 770) dL_law_770 rfl ?_
          refine rg_iadd F (pc := 772) (v := nI (pop (q + 1) (zBits P i))) dL_law_772 ((nI_add _ _).trans (by rw [hbt]; rfl)) ?_
          refine rg_istore F (pc := 773) (lv' := [some (.ref (rSb D)), some (.ref (x)), some (.int (nI tm)), none, some (.int (nI nL)), none, some (.int (nI kx)), none, none, some (.long (zDig P nW nL)), none, some (.int (nI (zCl P 2 i))), some (.int (nI (zCl P 4 i))), some (.int (nI (zCa P i))), some (.int (nI i)), some (.int (nI (zM P i))), some (.int (nI (zRm P i))), some (.int (nI (zStay P i))), some (.int (nI (zOff P i))), some (.int (nI (pop (q + 1) (zBits P i)))), some (.int (nI (pop q (zBits P i ^^^ zAsk (zM P i))))), some (.int (nI 1)), some (.int (nI q)), some (.int (nI bt)), none, some (.int (nI at9))]) dL_law_773 (Nat.le_of_ble_eq_true rfl) rfl ?_
          refine rg_iload F (pc := 775) dL_law_775 rfl ?_
          refine rg_iload F (pc := 777) dL_law_777 rfl ?_
          refine rg_iload F (pc := 779) dL_law_779 rfl ?_
          refine rg_ncmp_ne F (pc := 781) (tgt := 788) dL_law_781 (by decide) (by omega) (by omega) (fun c781 => ?_) (fun c781 => ?_)
          · refine rg_iconst F (pc := 788) (v := nI 1) dL_law_788 (by decide) ?_
            refine rg_iadd F (pc := 789) (v := nI (pop (q + 1) (zBits P i ^^^ zAsk (zM P i)))) dL_law_789 ((nI_add _ _).trans (by rw [xq_ne (show ¬ zBits P i / 2 ^ q % 2 = zAsk (zM P i) / 2 ^ q % 2 by rw [← hbt, ← hat]; exact c781)])) ?_
            refine rg_istore F (pc := 790) (lv' := [some (.ref (rSb D)), some (.ref (x)), some (.int (nI tm)), none, some (.int (nI nL)), none, some (.int (nI kx)), none, none, some (.long (zDig P nW nL)), none, some (.int (nI (zCl P 2 i))), some (.int (nI (zCl P 4 i))), some (.int (nI (zCa P i))), some (.int (nI i)), some (.int (nI (zM P i))), some (.int (nI (zRm P i))), some (.int (nI (zStay P i))), some (.int (nI (zOff P i))), some (.int (nI (pop (q + 1) (zBits P i)))), some (.int (nI (pop (q + 1) (zBits P i ^^^ zAsk (zM P i))))), some (.int (nI 1)), some (.int (nI q)), some (.int (nI bt)), none, some (.int (nI at9))]) dL_law_790 (Nat.le_of_ble_eq_true rfl) rfl ?_
            refine rg_sub (lv' := [some (.ref (rSb D)), some (.ref (x)), some (.int (nI tm)), none, some (.int (nI nL)), none, some (.int (nI kx)), none, none, some (.long (zDig P nW nL)), none, some (.int (nI (zCl P 2 i))), some (.int (nI (zCl P 4 i))), some (.int (nI (zCa P i))), some (.int (nI i)), some (.int (nI (zM P i))), some (.int (nI (zRm P i))), some (.int (nI (zStay P i))), some (.int (nI (zOff P i))), some (.int (nI (pop (q + 1) (zBits P i)))), some (.int (nI (pop (q + 1) (zBits P i ^^^ zAsk (zM P i))))), some (.int (nI 1)), some (.int (nI q)), none, none, none]) (by repeat' constructor) ?_
            refine rg_iinc F (pc := 792) (v := nI (q + 1)) (lv' := [some (.ref (rSb D)), some (.ref (x)), some (.int (nI tm)), none, some (.int (nI nL)), none, some (.int (nI kx)), none, none, some (.long (zDig P nW nL)), none, some (.int (nI (zCl P 2 i))), some (.int (nI (zCl P 4 i))), some (.int (nI (zCa P i))), some (.int (nI i)), some (.int (nI (zM P i))), some (.int (nI (zRm P i))), some (.int (nI (zStay P i))), some (.int (nI (zOff P i))), some (.int (nI (pop (q + 1) (zBits P i)))), some (.int (nI (pop (q + 1) (zBits P i ^^^ zAsk (zM P i))))), some (.int (nI 1)), some (.int (nI (q + 1))), none, none, none]) dL_law_792 rfl (nI_add _ 1) (Nat.le_of_ble_eq_true rfl) rfl ?_
            refine rg_goto F (pc := 795) (tgt := 662) dL_law_795 (by decide) ?_
            exact ih (q + 1) (by omega) (by omega)
          · refine rg_iconst F (pc := 784) (v := nI 0) dL_law_784 (by decide) ?_
            refine rg_goto F (pc := 785) (tgt := 789) dL_law_785 (by decide) ?_
            refine rg_iadd F (pc := 789) (v := nI (pop (q + 1) (zBits P i ^^^ zAsk (zM P i)))) dL_law_789 ((nI_add _ _).trans (by rw [xq_eq (show zBits P i / 2 ^ q % 2 = zAsk (zM P i) / 2 ^ q % 2 by rw [← hbt, ← hat]; exact c781)])) ?_
            refine rg_istore F (pc := 790) (lv' := [some (.ref (rSb D)), some (.ref (x)), some (.int (nI tm)), none, some (.int (nI nL)), none, some (.int (nI kx)), none, none, some (.long (zDig P nW nL)), none, some (.int (nI (zCl P 2 i))), some (.int (nI (zCl P 4 i))), some (.int (nI (zCa P i))), some (.int (nI i)), some (.int (nI (zM P i))), some (.int (nI (zRm P i))), some (.int (nI (zStay P i))), some (.int (nI (zOff P i))), some (.int (nI (pop (q + 1) (zBits P i)))), some (.int (nI (pop (q + 1) (zBits P i ^^^ zAsk (zM P i))))), some (.int (nI 1)), some (.int (nI q)), some (.int (nI bt)), none, some (.int (nI at9))]) dL_law_790 (Nat.le_of_ble_eq_true rfl) rfl ?_
            refine rg_sub (lv' := [some (.ref (rSb D)), some (.ref (x)), some (.int (nI tm)), none, some (.int (nI nL)), none, some (.int (nI kx)), none, none, some (.long (zDig P nW nL)), none, some (.int (nI (zCl P 2 i))), some (.int (nI (zCl P 4 i))), some (.int (nI (zCa P i))), some (.int (nI i)), some (.int (nI (zM P i))), some (.int (nI (zRm P i))), some (.int (nI (zStay P i))), some (.int (nI (zOff P i))), some (.int (nI (pop (q + 1) (zBits P i)))), some (.int (nI (pop (q + 1) (zBits P i ^^^ zAsk (zM P i))))), some (.int (nI 1)), some (.int (nI q)), none, none, none]) (by repeat' constructor) ?_
            refine rg_iinc F (pc := 792) (v := nI (q + 1)) (lv' := [some (.ref (rSb D)), some (.ref (x)), some (.int (nI tm)), none, some (.int (nI nL)), none, some (.int (nI kx)), none, none, some (.long (zDig P nW nL)), none, some (.int (nI (zCl P 2 i))), some (.int (nI (zCl P 4 i))), some (.int (nI (zCa P i))), some (.int (nI i)), some (.int (nI (zM P i))), some (.int (nI (zRm P i))), some (.int (nI (zStay P i))), some (.int (nI (zOff P i))), some (.int (nI (pop (q + 1) (zBits P i)))), some (.int (nI (pop (q + 1) (zBits P i ^^^ zAsk (zM P i))))), some (.int (nI 1)), some (.int (nI (q + 1))), none, none, none]) dL_law_792 rfl (nI_add _ 1) (Nat.le_of_ble_eq_true rfl) rfl ?_
            refine rg_goto F (pc := 795) (tgt := 662) dL_law_795 (by decide) ?_
            exact ih (q + 1) (by omega) (by omega)
      refine rg_iload F (pc := 684) dL_law_684 rfl ?_
      refine rg_iconst F (pc := 686) (v := nI 2) dL_law_686 (by decide) ?_
      refine rg_ncmp_ge F (pc := 687) (tgt := 697) dL_law_687 (by decide) (by omega) (by omega) (fun c687 => ?_) (fun c687 => ?_)
      · refine rg_iload F (pc := 697) dL_law_697 rfl ?_
        refine rg_iconst F (pc := 699) (v := nI 3) dL_law_699 (by decide) ?_
        refine rg_irem F (pc := 700) (v := nI (q % 3)) dL_law_700 (by decide) (pk_rem (by omega) (by omega) (by omega)) ?_
        refine rg_istore F (pc := 701) (lv' := [some (.ref (rSb D)), some (.ref (x)), some (.int (nI tm)), none, some (.int (nI nL)), none, some (.int (nI kx)), none, none, some (.long (zDig P nW nL)), none, some (.int (nI (zCl P 2 i))), some (.int (nI (zCl P 4 i))), some (.int (nI (zCa P i))), some (.int (nI i)), some (.int (nI (zM P i))), some (.int (nI (zRm P i))), some (.int (nI (zStay P i))), some (.int (nI (zOff P i))), some (.int (nI (pop q (zBits P i)))), some (.int (nI (pop q (zBits P i ^^^ zAsk (zM P i))))), some (.int (nI 1)), some (.int (nI q)), some (.int (nI bt)), some (.int (nI (q % 3))), none]) dL_law_701 (Nat.le_of_ble_eq_true rfl) rfl ?_
        refine rg_iload F (pc := 703) dL_law_703 rfl ?_
        refine rg_nif_ne F (pc := 705) (tgt := 714) dL_law_705 (by decide) (by omega) (fun c705 => ?_) (fun c705 => ?_)
        · refine rg_iload F (pc := 714) dL_law_714 rfl ?_
          refine rg_iconst F (pc := 716) (v := nI 1) dL_law_716 (by decide) ?_
          refine rg_ncmp_ne F (pc := 717) (tgt := 725) dL_law_717 (by decide) (by omega) (by omega) (fun c717 => ?_) (fun c717 => ?_)
          · refine rg_iload F (pc := 725) dL_law_725 rfl ?_
            refine rg_iconst F (pc := 727) (v := nI 2) dL_law_727 (by decide) ?_
            refine rg_ncmp_ne F (pc := 728) (tgt := 737) dL_law_728 (by decide) (by omega) (by omega) (fun c728 => ?_) (fun c728 => ?_)
            · refine rg_iload F (pc := 737) dL_law_737 rfl ?_
              refine rg_iconst F (pc := 739) (v := nI 3) dL_law_739 (by decide) ?_
              refine rg_ncmp_ne F (pc := 740) (tgt := 752) dL_law_740 (by decide) (by omega) (by omega) (fun c740 => ?_) (fun c740 => ?_)
              · refine rg_iconst F (pc := 752) (v := nI 0) dL_law_752 (by decide) ?_
                refine rg_top (v2 := .int (nI at9)) (by rw [hat, zAsk_q _ hm4 _ (by omega) (fun h => by have h9 := h12 h; omega)]; first | (exfalso; omega) | rw [if_pos (by omega)] | rw [if_neg (by omega)]) ?_
                refine rg_sub (lv' := [some (.ref (rSb D)), some (.ref (x)), some (.int (nI tm)), none, some (.int (nI nL)), none, some (.int (nI kx)), none, none, some (.long (zDig P nW nL)), none, some (.int (nI (zCl P 2 i))), some (.int (nI (zCl P 4 i))), some (.int (nI (zCa P i))), some (.int (nI i)), some (.int (nI (zM P i))), some (.int (nI (zRm P i))), some (.int (nI (zStay P i))), some (.int (nI (zOff P i))), some (.int (nI (pop q (zBits P i)))), some (.int (nI (pop q (zBits P i ^^^ zAsk (zM P i))))), some (.int (nI 1)), some (.int (nI q)), some (.int (nI bt)), none, none]) (by repeat' constructor) ?_
                exact K753
              · refine rg_iload F (pc := 743) dL_law_743 rfl ?_
                refine rg_nif_ne F (pc := 745) (tgt := 752) dL_law_745 (by decide) (by omega) (fun c745 => ?_) (fun c745 => ?_)
                · refine rg_iconst F (pc := 752) (v := nI 0) dL_law_752 (by decide) ?_
                  refine rg_top (v2 := .int (nI at9)) (by rw [hat, zAsk_q _ hm4 _ (by omega) (fun h => by have h9 := h12 h; omega)]; first | (exfalso; omega) | rw [if_pos (by omega)] | rw [if_neg (by omega)]) ?_
                  refine rg_sub (lv' := [some (.ref (rSb D)), some (.ref (x)), some (.int (nI tm)), none, some (.int (nI nL)), none, some (.int (nI kx)), none, none, some (.long (zDig P nW nL)), none, some (.int (nI (zCl P 2 i))), some (.int (nI (zCl P 4 i))), some (.int (nI (zCa P i))), some (.int (nI i)), some (.int (nI (zM P i))), some (.int (nI (zRm P i))), some (.int (nI (zStay P i))), some (.int (nI (zOff P i))), some (.int (nI (pop q (zBits P i)))), some (.int (nI (pop q (zBits P i ^^^ zAsk (zM P i))))), some (.int (nI 1)), some (.int (nI q)), some (.int (nI bt)), none, none]) (by repeat' constructor) ?_
                  exact K753
                · refine rg_iconst F (pc := 748) (v := nI 1) dL_law_748 (by decide) ?_
                  refine rg_goto F (pc := 749) (tgt := 753) dL_law_749 (by decide) ?_
                  refine rg_top (v2 := .int (nI at9)) (by rw [hat, zAsk_q _ hm4 _ (by omega) (fun h => by have h9 := h12 h; omega)]; first | (exfalso; omega) | rw [if_pos (by omega)] | rw [if_neg (by omega)]) ?_
                  refine rg_sub (lv' := [some (.ref (rSb D)), some (.ref (x)), some (.int (nI tm)), none, some (.int (nI nL)), none, some (.int (nI kx)), none, none, some (.long (zDig P nW nL)), none, some (.int (nI (zCl P 2 i))), some (.int (nI (zCl P 4 i))), some (.int (nI (zCa P i))), some (.int (nI i)), some (.int (nI (zM P i))), some (.int (nI (zRm P i))), some (.int (nI (zStay P i))), some (.int (nI (zOff P i))), some (.int (nI (pop q (zBits P i)))), some (.int (nI (pop q (zBits P i ^^^ zAsk (zM P i))))), some (.int (nI 1)), some (.int (nI q)), some (.int (nI bt)), none, none]) (by repeat' constructor) ?_
                  exact K753
            · refine rg_iload F (pc := 731) dL_law_731 rfl ?_
              refine rg_iconst F (pc := 733) (v := nI 2) dL_law_733 (by decide) ?_
              refine rg_ncmp_eq F (pc := 734) (tgt := 748) dL_law_734 (by decide) (by omega) (by omega) (fun c734 => ?_) (fun c734 => ?_)
              · refine rg_iconst F (pc := 748) (v := nI 1) dL_law_748 (by decide) ?_
                refine rg_goto F (pc := 749) (tgt := 753) dL_law_749 (by decide) ?_
                refine rg_top (v2 := .int (nI at9)) (by rw [hat, zAsk_q _ hm4 _ (by omega) (fun h => by have h9 := h12 h; omega)]; first | (exfalso; omega) | rw [if_pos (by omega)] | rw [if_neg (by omega)]) ?_
                refine rg_sub (lv' := [some (.ref (rSb D)), some (.ref (x)), some (.int (nI tm)), none, some (.int (nI nL)), none, some (.int (nI kx)), none, none, some (.long (zDig P nW nL)), none, some (.int (nI (zCl P 2 i))), some (.int (nI (zCl P 4 i))), some (.int (nI (zCa P i))), some (.int (nI i)), some (.int (nI (zM P i))), some (.int (nI (zRm P i))), some (.int (nI (zStay P i))), some (.int (nI (zOff P i))), some (.int (nI (pop q (zBits P i)))), some (.int (nI (pop q (zBits P i ^^^ zAsk (zM P i))))), some (.int (nI 1)), some (.int (nI q)), some (.int (nI bt)), none, none]) (by repeat' constructor) ?_
                exact K753
              · refine rg_iload F (pc := 737) dL_law_737 rfl ?_
                refine rg_iconst F (pc := 739) (v := nI 3) dL_law_739 (by decide) ?_
                refine rg_ncmp_ne F (pc := 740) (tgt := 752) dL_law_740 (by decide) (by omega) (by omega) (fun c740 => ?_) (fun c740 => ?_)
                · refine rg_iconst F (pc := 752) (v := nI 0) dL_law_752 (by decide) ?_
                  refine rg_top (v2 := .int (nI at9)) (by rw [hat, zAsk_q _ hm4 _ (by omega) (fun h => by have h9 := h12 h; omega)]; first | (exfalso; omega) | rw [if_pos (by omega)] | rw [if_neg (by omega)]) ?_
                  refine rg_sub (lv' := [some (.ref (rSb D)), some (.ref (x)), some (.int (nI tm)), none, some (.int (nI nL)), none, some (.int (nI kx)), none, none, some (.long (zDig P nW nL)), none, some (.int (nI (zCl P 2 i))), some (.int (nI (zCl P 4 i))), some (.int (nI (zCa P i))), some (.int (nI i)), some (.int (nI (zM P i))), some (.int (nI (zRm P i))), some (.int (nI (zStay P i))), some (.int (nI (zOff P i))), some (.int (nI (pop q (zBits P i)))), some (.int (nI (pop q (zBits P i ^^^ zAsk (zM P i))))), some (.int (nI 1)), some (.int (nI q)), some (.int (nI bt)), none, none]) (by repeat' constructor) ?_
                  exact K753
                · refine rg_iload F (pc := 743) dL_law_743 rfl ?_
                  refine rg_nif_ne F (pc := 745) (tgt := 752) dL_law_745 (by decide) (by omega) (fun c745 => ?_) (fun c745 => ?_)
                  · refine rg_iconst F (pc := 752) (v := nI 0) dL_law_752 (by decide) ?_
                    refine rg_top (v2 := .int (nI at9)) (by rw [hat, zAsk_q _ hm4 _ (by omega) (fun h => by have h9 := h12 h; omega)]; first | (exfalso; omega) | rw [if_pos (by omega)] | rw [if_neg (by omega)]) ?_
                    refine rg_sub (lv' := [some (.ref (rSb D)), some (.ref (x)), some (.int (nI tm)), none, some (.int (nI nL)), none, some (.int (nI kx)), none, none, some (.long (zDig P nW nL)), none, some (.int (nI (zCl P 2 i))), some (.int (nI (zCl P 4 i))), some (.int (nI (zCa P i))), some (.int (nI i)), some (.int (nI (zM P i))), some (.int (nI (zRm P i))), some (.int (nI (zStay P i))), some (.int (nI (zOff P i))), some (.int (nI (pop q (zBits P i)))), some (.int (nI (pop q (zBits P i ^^^ zAsk (zM P i))))), some (.int (nI 1)), some (.int (nI q)), some (.int (nI bt)), none, none]) (by repeat' constructor) ?_
                    exact K753
                  · refine rg_iconst F (pc := 748) (v := nI 1) dL_law_748 (by decide) ?_
                    refine rg_goto F (pc := 749) (tgt := 753) dL_law_749 (by decide) ?_
                    refine rg_top (v2 := .int (nI at9)) (by rw [hat, zAsk_q _ hm4 _ (by omega) (fun h => by have h9 := h12 h; omega)]; first | (exfalso; omega) | rw [if_pos (by omega)] | rw [if_neg (by omega)]) ?_
                    refine rg_sub (lv' := [some (.ref (rSb D)), some (.ref (x)), some (.int (nI tm)), none, some (.int (nI nL)), none, some (.int (nI kx)), none, none, some (.long (zDig P nW nL)), none, some (.int (nI (zCl P 2 i))), some (.int (nI (zCl P 4 i))), some (.int (nI (zCa P i))), some (.int (nI i)), some (.int (nI (zM P i))), some (.int (nI (zRm P i))), some (.int (nI (zStay P i))), some (.int (nI (zOff P i))), some (.int (nI (pop q (zBits P i)))), some (.int (nI (pop q (zBits P i ^^^ zAsk (zM P i))))), some (.int (nI 1)), some (.int (nI q)), some (.int (nI bt)), none, none]) (by repeat' constructor) ?_
                    exact K753
          · refine rg_iload F (pc := 720) dL_law_720 rfl ?_
            refine rg_nif_eq F (pc := 722) (tgt := 748) dL_law_722 (by decide) (by omega) (fun c722 => ?_) (fun c722 => ?_)
            · refine rg_iconst F (pc := 748) (v := nI 1) dL_law_748 (by decide) ?_
              refine rg_goto F (pc := 749) (tgt := 753) dL_law_749 (by decide) ?_
              refine rg_top (v2 := .int (nI at9)) (by rw [hat, zAsk_q _ hm4 _ (by omega) (fun h => by have h9 := h12 h; omega)]; first | (exfalso; omega) | rw [if_pos (by omega)] | rw [if_neg (by omega)]) ?_
              refine rg_sub (lv' := [some (.ref (rSb D)), some (.ref (x)), some (.int (nI tm)), none, some (.int (nI nL)), none, some (.int (nI kx)), none, none, some (.long (zDig P nW nL)), none, some (.int (nI (zCl P 2 i))), some (.int (nI (zCl P 4 i))), some (.int (nI (zCa P i))), some (.int (nI i)), some (.int (nI (zM P i))), some (.int (nI (zRm P i))), some (.int (nI (zStay P i))), some (.int (nI (zOff P i))), some (.int (nI (pop q (zBits P i)))), some (.int (nI (pop q (zBits P i ^^^ zAsk (zM P i))))), some (.int (nI 1)), some (.int (nI q)), some (.int (nI bt)), none, none]) (by repeat' constructor) ?_
              exact K753
            · refine rg_iload F (pc := 725) dL_law_725 rfl ?_
              refine rg_iconst F (pc := 727) (v := nI 2) dL_law_727 (by decide) ?_
              refine rg_ncmp_ne F (pc := 728) (tgt := 737) dL_law_728 (by decide) (by omega) (by omega) (fun c728 => ?_) (fun c728 => ?_)
              · refine rg_iload F (pc := 737) dL_law_737 rfl ?_
                refine rg_iconst F (pc := 739) (v := nI 3) dL_law_739 (by decide) ?_
                refine rg_ncmp_ne F (pc := 740) (tgt := 752) dL_law_740 (by decide) (by omega) (by omega) (fun c740 => ?_) (fun c740 => ?_)
                · refine rg_iconst F (pc := 752) (v := nI 0) dL_law_752 (by decide) ?_
                  refine rg_top (v2 := .int (nI at9)) (by rw [hat, zAsk_q _ hm4 _ (by omega) (fun h => by have h9 := h12 h; omega)]; first | (exfalso; omega) | rw [if_pos (by omega)] | rw [if_neg (by omega)]) ?_
                  refine rg_sub (lv' := [some (.ref (rSb D)), some (.ref (x)), some (.int (nI tm)), none, some (.int (nI nL)), none, some (.int (nI kx)), none, none, some (.long (zDig P nW nL)), none, some (.int (nI (zCl P 2 i))), some (.int (nI (zCl P 4 i))), some (.int (nI (zCa P i))), some (.int (nI i)), some (.int (nI (zM P i))), some (.int (nI (zRm P i))), some (.int (nI (zStay P i))), some (.int (nI (zOff P i))), some (.int (nI (pop q (zBits P i)))), some (.int (nI (pop q (zBits P i ^^^ zAsk (zM P i))))), some (.int (nI 1)), some (.int (nI q)), some (.int (nI bt)), none, none]) (by repeat' constructor) ?_
                  exact K753
                · refine rg_iload F (pc := 743) dL_law_743 rfl ?_
                  refine rg_nif_ne F (pc := 745) (tgt := 752) dL_law_745 (by decide) (by omega) (fun c745 => ?_) (fun c745 => ?_)
                  · refine rg_iconst F (pc := 752) (v := nI 0) dL_law_752 (by decide) ?_
                    refine rg_top (v2 := .int (nI at9)) (by rw [hat, zAsk_q _ hm4 _ (by omega) (fun h => by have h9 := h12 h; omega)]; first | (exfalso; omega) | rw [if_pos (by omega)] | rw [if_neg (by omega)]) ?_
                    refine rg_sub (lv' := [some (.ref (rSb D)), some (.ref (x)), some (.int (nI tm)), none, some (.int (nI nL)), none, some (.int (nI kx)), none, none, some (.long (zDig P nW nL)), none, some (.int (nI (zCl P 2 i))), some (.int (nI (zCl P 4 i))), some (.int (nI (zCa P i))), some (.int (nI i)), some (.int (nI (zM P i))), some (.int (nI (zRm P i))), some (.int (nI (zStay P i))), some (.int (nI (zOff P i))), some (.int (nI (pop q (zBits P i)))), some (.int (nI (pop q (zBits P i ^^^ zAsk (zM P i))))), some (.int (nI 1)), some (.int (nI q)), some (.int (nI bt)), none, none]) (by repeat' constructor) ?_
                    exact K753
                  · refine rg_iconst F (pc := 748) (v := nI 1) dL_law_748 (by decide) ?_
                    refine rg_goto F (pc := 749) (tgt := 753) dL_law_749 (by decide) ?_
                    refine rg_top (v2 := .int (nI at9)) (by rw [hat, zAsk_q _ hm4 _ (by omega) (fun h => by have h9 := h12 h; omega)]; first | (exfalso; omega) | rw [if_pos (by omega)] | rw [if_neg (by omega)]) ?_
                    refine rg_sub (lv' := [some (.ref (rSb D)), some (.ref (x)), some (.int (nI tm)), none, some (.int (nI nL)), none, some (.int (nI kx)), none, none, some (.long (zDig P nW nL)), none, some (.int (nI (zCl P 2 i))), some (.int (nI (zCl P 4 i))), some (.int (nI (zCa P i))), some (.int (nI i)), some (.int (nI (zM P i))), some (.int (nI (zRm P i))), some (.int (nI (zStay P i))), some (.int (nI (zOff P i))), some (.int (nI (pop q (zBits P i)))), some (.int (nI (pop q (zBits P i ^^^ zAsk (zM P i))))), some (.int (nI 1)), some (.int (nI q)), some (.int (nI bt)), none, none]) (by repeat' constructor) ?_
                    exact K753
              · refine rg_iload F (pc := 731) dL_law_731 rfl ?_
                refine rg_iconst F (pc := 733) (v := nI 2) dL_law_733 (by decide) ?_
                refine rg_ncmp_eq F (pc := 734) (tgt := 748) dL_law_734 (by decide) (by omega) (by omega) (fun c734 => ?_) (fun c734 => ?_)
                · refine rg_iconst F (pc := 748) (v := nI 1) dL_law_748 (by decide) ?_
                  refine rg_goto F (pc := 749) (tgt := 753) dL_law_749 (by decide) ?_
                  refine rg_top (v2 := .int (nI at9)) (by rw [hat, zAsk_q _ hm4 _ (by omega) (fun h => by have h9 := h12 h; omega)]; first | (exfalso; omega) | rw [if_pos (by omega)] | rw [if_neg (by omega)]) ?_
                  refine rg_sub (lv' := [some (.ref (rSb D)), some (.ref (x)), some (.int (nI tm)), none, some (.int (nI nL)), none, some (.int (nI kx)), none, none, some (.long (zDig P nW nL)), none, some (.int (nI (zCl P 2 i))), some (.int (nI (zCl P 4 i))), some (.int (nI (zCa P i))), some (.int (nI i)), some (.int (nI (zM P i))), some (.int (nI (zRm P i))), some (.int (nI (zStay P i))), some (.int (nI (zOff P i))), some (.int (nI (pop q (zBits P i)))), some (.int (nI (pop q (zBits P i ^^^ zAsk (zM P i))))), some (.int (nI 1)), some (.int (nI q)), some (.int (nI bt)), none, none]) (by repeat' constructor) ?_
                  exact K753
                · refine rg_iload F (pc := 737) dL_law_737 rfl ?_
                  refine rg_iconst F (pc := 739) (v := nI 3) dL_law_739 (by decide) ?_
                  refine rg_ncmp_ne F (pc := 740) (tgt := 752) dL_law_740 (by decide) (by omega) (by omega) (fun c740 => ?_) (fun c740 => ?_)
                  · refine rg_iconst F (pc := 752) (v := nI 0) dL_law_752 (by decide) ?_
                    refine rg_top (v2 := .int (nI at9)) (by rw [hat, zAsk_q _ hm4 _ (by omega) (fun h => by have h9 := h12 h; omega)]; first | (exfalso; omega) | rw [if_pos (by omega)] | rw [if_neg (by omega)]) ?_
                    refine rg_sub (lv' := [some (.ref (rSb D)), some (.ref (x)), some (.int (nI tm)), none, some (.int (nI nL)), none, some (.int (nI kx)), none, none, some (.long (zDig P nW nL)), none, some (.int (nI (zCl P 2 i))), some (.int (nI (zCl P 4 i))), some (.int (nI (zCa P i))), some (.int (nI i)), some (.int (nI (zM P i))), some (.int (nI (zRm P i))), some (.int (nI (zStay P i))), some (.int (nI (zOff P i))), some (.int (nI (pop q (zBits P i)))), some (.int (nI (pop q (zBits P i ^^^ zAsk (zM P i))))), some (.int (nI 1)), some (.int (nI q)), some (.int (nI bt)), none, none]) (by repeat' constructor) ?_
                    exact K753
                  · refine rg_iload F (pc := 743) dL_law_743 rfl ?_
                    refine rg_nif_ne F (pc := 745) (tgt := 752) dL_law_745 (by decide) (by omega) (fun c745 => ?_) (fun c745 => ?_)
                    · refine rg_iconst F (pc := 752) (v := nI 0) dL_law_752 (by decide) ?_
                      refine rg_top (v2 := .int (nI at9)) (by rw [hat, zAsk_q _ hm4 _ (by omega) (fun h => by have h9 := h12 h; omega)]; first | (exfalso; omega) | rw [if_pos (by omega)] | rw [if_neg (by omega)]) ?_
                      refine rg_sub (lv' := [some (.ref (rSb D)), some (.ref (x)), some (.int (nI tm)), none, some (.int (nI nL)), none, some (.int (nI kx)), none, none, some (.long (zDig P nW nL)), none, some (.int (nI (zCl P 2 i))), some (.int (nI (zCl P 4 i))), some (.int (nI (zCa P i))), some (.int (nI i)), some (.int (nI (zM P i))), some (.int (nI (zRm P i))), some (.int (nI (zStay P i))), some (.int (nI (zOff P i))), some (.int (nI (pop q (zBits P i)))), some (.int (nI (pop q (zBits P i ^^^ zAsk (zM P i))))), some (.int (nI 1)), some (.int (nI q)), some (.int (nI bt)), none, none]) (by repeat' constructor) ?_
                      exact K753
                    · refine rg_iconst F (pc := 748) (v := nI 1) dL_law_748 (by decide) ?_
                      refine rg_goto F (pc := 749) (tgt := 753) dL_law_749 (by decide) ?_
                      refine rg_top (v2 := .int (nI at9)) (by rw [hat, zAsk_q _ hm4 _ (by omega) (fun h => by have h9 := h12 h; omega)]; first | (exfalso; omega) | rw [if_pos (by omega)] | rw [if_neg (by omega)]) ?_
                      refine rg_sub (lv' := [some (.ref (rSb D)), some (.ref (x)), some (.int (nI tm)), none, some (.int (nI nL)), none, some (.int (nI kx)), none, none, some (.long (zDig P nW nL)), none, some (.int (nI (zCl P 2 i))), some (.int (nI (zCl P 4 i))), some (.int (nI (zCa P i))), some (.int (nI i)), some (.int (nI (zM P i))), some (.int (nI (zRm P i))), some (.int (nI (zStay P i))), some (.int (nI (zOff P i))), some (.int (nI (pop q (zBits P i)))), some (.int (nI (pop q (zBits P i ^^^ zAsk (zM P i))))), some (.int (nI 1)), some (.int (nI q)), some (.int (nI bt)), none, none]) (by repeat' constructor) ?_
                      exact K753
        · refine rg_iload F (pc := 708) dL_law_708 rfl ?_
          refine rg_iconst F (pc := 710) (v := nI 1) dL_law_710 (by decide) ?_
          refine rg_ncmp_eq F (pc := 711) (tgt := 748) dL_law_711 (by decide) (by omega) (by omega) (fun c711 => ?_) (fun c711 => ?_)
          · refine rg_iconst F (pc := 748) (v := nI 1) dL_law_748 (by decide) ?_
            refine rg_goto F (pc := 749) (tgt := 753) dL_law_749 (by decide) ?_
            refine rg_top (v2 := .int (nI at9)) (by rw [hat, zAsk_q _ hm4 _ (by omega) (fun h => by have h9 := h12 h; omega)]; first | (exfalso; omega) | rw [if_pos (by omega)] | rw [if_neg (by omega)]) ?_
            refine rg_sub (lv' := [some (.ref (rSb D)), some (.ref (x)), some (.int (nI tm)), none, some (.int (nI nL)), none, some (.int (nI kx)), none, none, some (.long (zDig P nW nL)), none, some (.int (nI (zCl P 2 i))), some (.int (nI (zCl P 4 i))), some (.int (nI (zCa P i))), some (.int (nI i)), some (.int (nI (zM P i))), some (.int (nI (zRm P i))), some (.int (nI (zStay P i))), some (.int (nI (zOff P i))), some (.int (nI (pop q (zBits P i)))), some (.int (nI (pop q (zBits P i ^^^ zAsk (zM P i))))), some (.int (nI 1)), some (.int (nI q)), some (.int (nI bt)), none, none]) (by repeat' constructor) ?_
            exact K753
          · refine rg_iload F (pc := 714) dL_law_714 rfl ?_
            refine rg_iconst F (pc := 716) (v := nI 1) dL_law_716 (by decide) ?_
            refine rg_ncmp_ne F (pc := 717) (tgt := 725) dL_law_717 (by decide) (by omega) (by omega) (fun c717 => ?_) (fun c717 => ?_)
            · refine rg_iload F (pc := 725) dL_law_725 rfl ?_
              refine rg_iconst F (pc := 727) (v := nI 2) dL_law_727 (by decide) ?_
              refine rg_ncmp_ne F (pc := 728) (tgt := 737) dL_law_728 (by decide) (by omega) (by omega) (fun c728 => ?_) (fun c728 => ?_)
              · refine rg_iload F (pc := 737) dL_law_737 rfl ?_
                refine rg_iconst F (pc := 739) (v := nI 3) dL_law_739 (by decide) ?_
                refine rg_ncmp_ne F (pc := 740) (tgt := 752) dL_law_740 (by decide) (by omega) (by omega) (fun c740 => ?_) (fun c740 => ?_)
                · refine rg_iconst F (pc := 752) (v := nI 0) dL_law_752 (by decide) ?_
                  refine rg_top (v2 := .int (nI at9)) (by rw [hat, zAsk_q _ hm4 _ (by omega) (fun h => by have h9 := h12 h; omega)]; first | (exfalso; omega) | rw [if_pos (by omega)] | rw [if_neg (by omega)]) ?_
                  refine rg_sub (lv' := [some (.ref (rSb D)), some (.ref (x)), some (.int (nI tm)), none, some (.int (nI nL)), none, some (.int (nI kx)), none, none, some (.long (zDig P nW nL)), none, some (.int (nI (zCl P 2 i))), some (.int (nI (zCl P 4 i))), some (.int (nI (zCa P i))), some (.int (nI i)), some (.int (nI (zM P i))), some (.int (nI (zRm P i))), some (.int (nI (zStay P i))), some (.int (nI (zOff P i))), some (.int (nI (pop q (zBits P i)))), some (.int (nI (pop q (zBits P i ^^^ zAsk (zM P i))))), some (.int (nI 1)), some (.int (nI q)), some (.int (nI bt)), none, none]) (by repeat' constructor) ?_
                  exact K753
                · refine rg_iload F (pc := 743) dL_law_743 rfl ?_
                  refine rg_nif_ne F (pc := 745) (tgt := 752) dL_law_745 (by decide) (by omega) (fun c745 => ?_) (fun c745 => ?_)
                  · refine rg_iconst F (pc := 752) (v := nI 0) dL_law_752 (by decide) ?_
                    refine rg_top (v2 := .int (nI at9)) (by rw [hat, zAsk_q _ hm4 _ (by omega) (fun h => by have h9 := h12 h; omega)]; first | (exfalso; omega) | rw [if_pos (by omega)] | rw [if_neg (by omega)]) ?_
                    refine rg_sub (lv' := [some (.ref (rSb D)), some (.ref (x)), some (.int (nI tm)), none, some (.int (nI nL)), none, some (.int (nI kx)), none, none, some (.long (zDig P nW nL)), none, some (.int (nI (zCl P 2 i))), some (.int (nI (zCl P 4 i))), some (.int (nI (zCa P i))), some (.int (nI i)), some (.int (nI (zM P i))), some (.int (nI (zRm P i))), some (.int (nI (zStay P i))), some (.int (nI (zOff P i))), some (.int (nI (pop q (zBits P i)))), some (.int (nI (pop q (zBits P i ^^^ zAsk (zM P i))))), some (.int (nI 1)), some (.int (nI q)), some (.int (nI bt)), none, none]) (by repeat' constructor) ?_
                    exact K753
                  · refine rg_iconst F (pc := 748) (v := nI 1) dL_law_748 (by decide) ?_
                    refine rg_goto F (pc := 749) (tgt := 753) dL_law_749 (by decide) ?_
                    refine rg_top (v2 := .int (nI at9)) (by rw [hat, zAsk_q _ hm4 _ (by omega) (fun h => by have h9 := h12 h; omega)]; first | (exfalso; omega) | rw [if_pos (by omega)] | rw [if_neg (by omega)]) ?_
                    refine rg_sub (lv' := [some (.ref (rSb D)), some (.ref (x)), some (.int (nI tm)), none, some (.int (nI nL)), none, some (.int (nI kx)), none, none, some (.long (zDig P nW nL)), none, some (.int (nI (zCl P 2 i))), some (.int (nI (zCl P 4 i))), some (.int (nI (zCa P i))), some (.int (nI i)), some (.int (nI (zM P i))), some (.int (nI (zRm P i))), some (.int (nI (zStay P i))), some (.int (nI (zOff P i))), some (.int (nI (pop q (zBits P i)))), some (.int (nI (pop q (zBits P i ^^^ zAsk (zM P i))))), some (.int (nI 1)), some (.int (nI q)), some (.int (nI bt)), none, none]) (by repeat' constructor) ?_
                    exact K753
              · refine rg_iload F (pc := 731) dL_law_731 rfl ?_
                refine rg_iconst F (pc := 733) (v := nI 2) dL_law_733 (by decide) ?_
                refine rg_ncmp_eq F (pc := 734) (tgt := 748) dL_law_734 (by decide) (by omega) (by omega) (fun c734 => ?_) (fun c734 => ?_)
                · refine rg_iconst F (pc := 748) (v := nI 1) dL_law_748 (by decide) ?_
                  refine rg_goto F (pc := 749) (tgt := 753) dL_law_749 (by decide) ?_
                  refine rg_top (v2 := .int (nI at9)) (by rw [hat, zAsk_q _ hm4 _ (by omega) (fun h => by have h9 := h12 h; omega)]; first | (exfalso; omega) | rw [if_pos (by omega)] | rw [if_neg (by omega)]) ?_
                  refine rg_sub (lv' := [some (.ref (rSb D)), some (.ref (x)), some (.int (nI tm)), none, some (.int (nI nL)), none, some (.int (nI kx)), none, none, some (.long (zDig P nW nL)), none, some (.int (nI (zCl P 2 i))), some (.int (nI (zCl P 4 i))), some (.int (nI (zCa P i))), some (.int (nI i)), some (.int (nI (zM P i))), some (.int (nI (zRm P i))), some (.int (nI (zStay P i))), some (.int (nI (zOff P i))), some (.int (nI (pop q (zBits P i)))), some (.int (nI (pop q (zBits P i ^^^ zAsk (zM P i))))), some (.int (nI 1)), some (.int (nI q)), some (.int (nI bt)), none, none]) (by repeat' constructor) ?_
                  exact K753
                · refine rg_iload F (pc := 737) dL_law_737 rfl ?_
                  refine rg_iconst F (pc := 739) (v := nI 3) dL_law_739 (by decide) ?_
                  refine rg_ncmp_ne F (pc := 740) (tgt := 752) dL_law_740 (by decide) (by omega) (by omega) (fun c740 => ?_) (fun c740 => ?_)
                  · refine rg_iconst F (pc := 752) (v := nI 0) dL_law_752 (by decide) ?_
                    refine rg_top (v2 := .int (nI at9)) (by rw [hat, zAsk_q _ hm4 _ (by omega) (fun h => by have h9 := h12 h; omega)]; first | (exfalso; omega) | rw [if_pos (by omega)] | rw [if_neg (by omega)]) ?_
                    refine rg_sub (lv' := [some (.ref (rSb D)), some (.ref (x)), some (.int (nI tm)), none, some (.int (nI nL)), none, some (.int (nI kx)), none, none, some (.long (zDig P nW nL)), none, some (.int (nI (zCl P 2 i))), some (.int (nI (zCl P 4 i))), some (.int (nI (zCa P i))), some (.int (nI i)), some (.int (nI (zM P i))), some (.int (nI (zRm P i))), some (.int (nI (zStay P i))), some (.int (nI (zOff P i))), some (.int (nI (pop q (zBits P i)))), some (.int (nI (pop q (zBits P i ^^^ zAsk (zM P i))))), some (.int (nI 1)), some (.int (nI q)), some (.int (nI bt)), none, none]) (by repeat' constructor) ?_
                    exact K753
                  · refine rg_iload F (pc := 743) dL_law_743 rfl ?_
                    refine rg_nif_ne F (pc := 745) (tgt := 752) dL_law_745 (by decide) (by omega) (fun c745 => ?_) (fun c745 => ?_)
                    · refine rg_iconst F (pc := 752) (v := nI 0) dL_law_752 (by decide) ?_
                      refine rg_top (v2 := .int (nI at9)) (by rw [hat, zAsk_q _ hm4 _ (by omega) (fun h => by have h9 := h12 h; omega)]; first | (exfalso; omega) | rw [if_pos (by omega)] | rw [if_neg (by omega)]) ?_
                      refine rg_sub (lv' := [some (.ref (rSb D)), some (.ref (x)), some (.int (nI tm)), none, some (.int (nI nL)), none, some (.int (nI kx)), none, none, some (.long (zDig P nW nL)), none, some (.int (nI (zCl P 2 i))), some (.int (nI (zCl P 4 i))), some (.int (nI (zCa P i))), some (.int (nI i)), some (.int (nI (zM P i))), some (.int (nI (zRm P i))), some (.int (nI (zStay P i))), some (.int (nI (zOff P i))), some (.int (nI (pop q (zBits P i)))), some (.int (nI (pop q (zBits P i ^^^ zAsk (zM P i))))), some (.int (nI 1)), some (.int (nI q)), some (.int (nI bt)), none, none]) (by repeat' constructor) ?_
                      exact K753
                    · refine rg_iconst F (pc := 748) (v := nI 1) dL_law_748 (by decide) ?_
                      refine rg_goto F (pc := 749) (tgt := 753) dL_law_749 (by decide) ?_
                      refine rg_top (v2 := .int (nI at9)) (by rw [hat, zAsk_q _ hm4 _ (by omega) (fun h => by have h9 := h12 h; omega)]; first | (exfalso; omega) | rw [if_pos (by omega)] | rw [if_neg (by omega)]) ?_
                      refine rg_sub (lv' := [some (.ref (rSb D)), some (.ref (x)), some (.int (nI tm)), none, some (.int (nI nL)), none, some (.int (nI kx)), none, none, some (.long (zDig P nW nL)), none, some (.int (nI (zCl P 2 i))), some (.int (nI (zCl P 4 i))), some (.int (nI (zCa P i))), some (.int (nI i)), some (.int (nI (zM P i))), some (.int (nI (zRm P i))), some (.int (nI (zStay P i))), some (.int (nI (zOff P i))), some (.int (nI (pop q (zBits P i)))), some (.int (nI (pop q (zBits P i ^^^ zAsk (zM P i))))), some (.int (nI 1)), some (.int (nI q)), some (.int (nI bt)), none, none]) (by repeat' constructor) ?_
                      exact K753
            · refine rg_iload F (pc := 720) dL_law_720 rfl ?_
              refine rg_nif_eq F (pc := 722) (tgt := 748) dL_law_722 (by decide) (by omega) (fun c722 => ?_) (fun c722 => ?_)
              · refine rg_iconst F (pc := 748) (v := nI 1) dL_law_748 (by decide) ?_
                refine rg_goto F (pc := 749) (tgt := 753) dL_law_749 (by decide) ?_
                refine rg_top (v2 := .int (nI at9)) (by rw [hat, zAsk_q _ hm4 _ (by omega) (fun h => by have h9 := h12 h; omega)]; first | (exfalso; omega) | rw [if_pos (by omega)] | rw [if_neg (by omega)]) ?_
                refine rg_sub (lv' := [some (.ref (rSb D)), some (.ref (x)), some (.int (nI tm)), none, some (.int (nI nL)), none, some (.int (nI kx)), none, none, some (.long (zDig P nW nL)), none, some (.int (nI (zCl P 2 i))), some (.int (nI (zCl P 4 i))), some (.int (nI (zCa P i))), some (.int (nI i)), some (.int (nI (zM P i))), some (.int (nI (zRm P i))), some (.int (nI (zStay P i))), some (.int (nI (zOff P i))), some (.int (nI (pop q (zBits P i)))), some (.int (nI (pop q (zBits P i ^^^ zAsk (zM P i))))), some (.int (nI 1)), some (.int (nI q)), some (.int (nI bt)), none, none]) (by repeat' constructor) ?_
                exact K753
              · refine rg_iload F (pc := 725) dL_law_725 rfl ?_
                refine rg_iconst F (pc := 727) (v := nI 2) dL_law_727 (by decide) ?_
                refine rg_ncmp_ne F (pc := 728) (tgt := 737) dL_law_728 (by decide) (by omega) (by omega) (fun c728 => ?_) (fun c728 => ?_)
                · refine rg_iload F (pc := 737) dL_law_737 rfl ?_
                  refine rg_iconst F (pc := 739) (v := nI 3) dL_law_739 (by decide) ?_
                  refine rg_ncmp_ne F (pc := 740) (tgt := 752) dL_law_740 (by decide) (by omega) (by omega) (fun c740 => ?_) (fun c740 => ?_)
                  · refine rg_iconst F (pc := 752) (v := nI 0) dL_law_752 (by decide) ?_
                    refine rg_top (v2 := .int (nI at9)) (by rw [hat, zAsk_q _ hm4 _ (by omega) (fun h => by have h9 := h12 h; omega)]; first | (exfalso; omega) | rw [if_pos (by omega)] | rw [if_neg (by omega)]) ?_
                    refine rg_sub (lv' := [some (.ref (rSb D)), some (.ref (x)), some (.int (nI tm)), none, some (.int (nI nL)), none, some (.int (nI kx)), none, none, some (.long (zDig P nW nL)), none, some (.int (nI (zCl P 2 i))), some (.int (nI (zCl P 4 i))), some (.int (nI (zCa P i))), some (.int (nI i)), some (.int (nI (zM P i))), some (.int (nI (zRm P i))), some (.int (nI (zStay P i))), some (.int (nI (zOff P i))), some (.int (nI (pop q (zBits P i)))), some (.int (nI (pop q (zBits P i ^^^ zAsk (zM P i))))), some (.int (nI 1)), some (.int (nI q)), some (.int (nI bt)), none, none]) (by repeat' constructor) ?_
                    exact K753
                  · refine rg_iload F (pc := 743) dL_law_743 rfl ?_
                    refine rg_nif_ne F (pc := 745) (tgt := 752) dL_law_745 (by decide) (by omega) (fun c745 => ?_) (fun c745 => ?_)
                    · refine rg_iconst F (pc := 752) (v := nI 0) dL_law_752 (by decide) ?_
                      refine rg_top (v2 := .int (nI at9)) (by rw [hat, zAsk_q _ hm4 _ (by omega) (fun h => by have h9 := h12 h; omega)]; first | (exfalso; omega) | rw [if_pos (by omega)] | rw [if_neg (by omega)]) ?_
                      refine rg_sub (lv' := [some (.ref (rSb D)), some (.ref (x)), some (.int (nI tm)), none, some (.int (nI nL)), none, some (.int (nI kx)), none, none, some (.long (zDig P nW nL)), none, some (.int (nI (zCl P 2 i))), some (.int (nI (zCl P 4 i))), some (.int (nI (zCa P i))), some (.int (nI i)), some (.int (nI (zM P i))), some (.int (nI (zRm P i))), some (.int (nI (zStay P i))), some (.int (nI (zOff P i))), some (.int (nI (pop q (zBits P i)))), some (.int (nI (pop q (zBits P i ^^^ zAsk (zM P i))))), some (.int (nI 1)), some (.int (nI q)), some (.int (nI bt)), none, none]) (by repeat' constructor) ?_
                      exact K753
                    · refine rg_iconst F (pc := 748) (v := nI 1) dL_law_748 (by decide) ?_
                      refine rg_goto F (pc := 749) (tgt := 753) dL_law_749 (by decide) ?_
                      refine rg_top (v2 := .int (nI at9)) (by rw [hat, zAsk_q _ hm4 _ (by omega) (fun h => by have h9 := h12 h; omega)]; first | (exfalso; omega) | rw [if_pos (by omega)] | rw [if_neg (by omega)]) ?_
                      refine rg_sub (lv' := [some (.ref (rSb D)), some (.ref (x)), some (.int (nI tm)), none, some (.int (nI nL)), none, some (.int (nI kx)), none, none, some (.long (zDig P nW nL)), none, some (.int (nI (zCl P 2 i))), some (.int (nI (zCl P 4 i))), some (.int (nI (zCa P i))), some (.int (nI i)), some (.int (nI (zM P i))), some (.int (nI (zRm P i))), some (.int (nI (zStay P i))), some (.int (nI (zOff P i))), some (.int (nI (pop q (zBits P i)))), some (.int (nI (pop q (zBits P i ^^^ zAsk (zM P i))))), some (.int (nI 1)), some (.int (nI q)), some (.int (nI bt)), none, none]) (by repeat' constructor) ?_
                      exact K753
                · refine rg_iload F (pc := 731) dL_law_731 rfl ?_
                  refine rg_iconst F (pc := 733) (v := nI 2) dL_law_733 (by decide) ?_
                  refine rg_ncmp_eq F (pc := 734) (tgt := 748) dL_law_734 (by decide) (by omega) (by omega) (fun c734 => ?_) (fun c734 => ?_)
                  · refine rg_iconst F (pc := 748) (v := nI 1) dL_law_748 (by decide) ?_
                    refine rg_goto F (pc := 749) (tgt := 753) dL_law_749 (by decide) ?_
                    refine rg_top (v2 := .int (nI at9)) (by rw [hat, zAsk_q _ hm4 _ (by omega) (fun h => by have h9 := h12 h; omega)]; first | (exfalso; omega) | rw [if_pos (by omega)] | rw [if_neg (by omega)]) ?_
                    refine rg_sub (lv' := [some (.ref (rSb D)), some (.ref (x)), some (.int (nI tm)), none, some (.int (nI nL)), none, some (.int (nI kx)), none, none, some (.long (zDig P nW nL)), none, some (.int (nI (zCl P 2 i))), some (.int (nI (zCl P 4 i))), some (.int (nI (zCa P i))), some (.int (nI i)), some (.int (nI (zM P i))), some (.int (nI (zRm P i))), some (.int (nI (zStay P i))), some (.int (nI (zOff P i))), some (.int (nI (pop q (zBits P i)))), some (.int (nI (pop q (zBits P i ^^^ zAsk (zM P i))))), some (.int (nI 1)), some (.int (nI q)), some (.int (nI bt)), none, none]) (by repeat' constructor) ?_
                    exact K753
                  · refine rg_iload F (pc := 737) dL_law_737 rfl ?_
                    refine rg_iconst F (pc := 739) (v := nI 3) dL_law_739 (by decide) ?_
                    refine rg_ncmp_ne F (pc := 740) (tgt := 752) dL_law_740 (by decide) (by omega) (by omega) (fun c740 => ?_) (fun c740 => ?_)
                    · refine rg_iconst F (pc := 752) (v := nI 0) dL_law_752 (by decide) ?_
                      refine rg_top (v2 := .int (nI at9)) (by rw [hat, zAsk_q _ hm4 _ (by omega) (fun h => by have h9 := h12 h; omega)]; first | (exfalso; omega) | rw [if_pos (by omega)] | rw [if_neg (by omega)]) ?_
                      refine rg_sub (lv' := [some (.ref (rSb D)), some (.ref (x)), some (.int (nI tm)), none, some (.int (nI nL)), none, some (.int (nI kx)), none, none, some (.long (zDig P nW nL)), none, some (.int (nI (zCl P 2 i))), some (.int (nI (zCl P 4 i))), some (.int (nI (zCa P i))), some (.int (nI i)), some (.int (nI (zM P i))), some (.int (nI (zRm P i))), some (.int (nI (zStay P i))), some (.int (nI (zOff P i))), some (.int (nI (pop q (zBits P i)))), some (.int (nI (pop q (zBits P i ^^^ zAsk (zM P i))))), some (.int (nI 1)), some (.int (nI q)), some (.int (nI bt)), none, none]) (by repeat' constructor) ?_
                      exact K753
                    · refine rg_iload F (pc := 743) dL_law_743 rfl ?_
                      refine rg_nif_ne F (pc := 745) (tgt := 752) dL_law_745 (by decide) (by omega) (fun c745 => ?_) (fun c745 => ?_)
                      · refine rg_iconst F (pc := 752) (v := nI 0) dL_law_752 (by decide) ?_
                        refine rg_top (v2 := .int (nI at9)) (by rw [hat, zAsk_q _ hm4 _ (by omega) (fun h => by have h9 := h12 h; omega)]; first | (exfalso; omega) | rw [if_pos (by omega)] | rw [if_neg (by omega)]) ?_
                        refine rg_sub (lv' := [some (.ref (rSb D)), some (.ref (x)), some (.int (nI tm)), none, some (.int (nI nL)), none, some (.int (nI kx)), none, none, some (.long (zDig P nW nL)), none, some (.int (nI (zCl P 2 i))), some (.int (nI (zCl P 4 i))), some (.int (nI (zCa P i))), some (.int (nI i)), some (.int (nI (zM P i))), some (.int (nI (zRm P i))), some (.int (nI (zStay P i))), some (.int (nI (zOff P i))), some (.int (nI (pop q (zBits P i)))), some (.int (nI (pop q (zBits P i ^^^ zAsk (zM P i))))), some (.int (nI 1)), some (.int (nI q)), some (.int (nI bt)), none, none]) (by repeat' constructor) ?_
                        exact K753
                      · refine rg_iconst F (pc := 748) (v := nI 1) dL_law_748 (by decide) ?_
                        refine rg_goto F (pc := 749) (tgt := 753) dL_law_749 (by decide) ?_
                        refine rg_top (v2 := .int (nI at9)) (by rw [hat, zAsk_q _ hm4 _ (by omega) (fun h => by have h9 := h12 h; omega)]; first | (exfalso; omega) | rw [if_pos (by omega)] | rw [if_neg (by omega)]) ?_
                        refine rg_sub (lv' := [some (.ref (rSb D)), some (.ref (x)), some (.int (nI tm)), none, some (.int (nI nL)), none, some (.int (nI kx)), none, none, some (.long (zDig P nW nL)), none, some (.int (nI (zCl P 2 i))), some (.int (nI (zCl P 4 i))), some (.int (nI (zCa P i))), some (.int (nI i)), some (.int (nI (zM P i))), some (.int (nI (zRm P i))), some (.int (nI (zStay P i))), some (.int (nI (zOff P i))), some (.int (nI (pop q (zBits P i)))), some (.int (nI (pop q (zBits P i ^^^ zAsk (zM P i))))), some (.int (nI 1)), some (.int (nI q)), some (.int (nI bt)), none, none]) (by repeat' constructor) ?_
                        exact K753
      · refine rg_iload F (pc := 690) dL_law_690 rfl ?_
        refine rg_iconst F (pc := 692) (v := nI 2) dL_law_692 (by decide) ?_
        refine rg_irem F (pc := 693) (v := nI (q % 2)) dL_law_693 (by decide) (pk_rem (by omega) (by omega) (by omega)) ?_
        refine rg_goto F (pc := 694) (tgt := 701) dL_law_694 (by decide) ?_
        refine rg_istore F (pc := 701) (lv' := [some (.ref (rSb D)), some (.ref (x)), some (.int (nI tm)), none, some (.int (nI nL)), none, some (.int (nI kx)), none, none, some (.long (zDig P nW nL)), none, some (.int (nI (zCl P 2 i))), some (.int (nI (zCl P 4 i))), some (.int (nI (zCa P i))), some (.int (nI i)), some (.int (nI (zM P i))), some (.int (nI (zRm P i))), some (.int (nI (zStay P i))), some (.int (nI (zOff P i))), some (.int (nI (pop q (zBits P i)))), some (.int (nI (pop q (zBits P i ^^^ zAsk (zM P i))))), some (.int (nI 1)), some (.int (nI q)), some (.int (nI bt)), some (.int (nI (q % 2))), none]) dL_law_701 (Nat.le_of_ble_eq_true rfl) rfl ?_
        refine rg_iload F (pc := 703) dL_law_703 rfl ?_
        refine rg_nif_ne F (pc := 705) (tgt := 714) dL_law_705 (by decide) (by omega) (fun c705 => ?_) (fun c705 => ?_)
        · refine rg_iload F (pc := 714) dL_law_714 rfl ?_
          refine rg_iconst F (pc := 716) (v := nI 1) dL_law_716 (by decide) ?_
          refine rg_ncmp_ne F (pc := 717) (tgt := 725) dL_law_717 (by decide) (by omega) (by omega) (fun c717 => ?_) (fun c717 => ?_)
          · refine rg_iload F (pc := 725) dL_law_725 rfl ?_
            refine rg_iconst F (pc := 727) (v := nI 2) dL_law_727 (by decide) ?_
            refine rg_ncmp_ne F (pc := 728) (tgt := 737) dL_law_728 (by decide) (by omega) (by omega) (fun c728 => ?_) (fun c728 => ?_)
            · refine rg_iload F (pc := 737) dL_law_737 rfl ?_
              refine rg_iconst F (pc := 739) (v := nI 3) dL_law_739 (by decide) ?_
              refine rg_ncmp_ne F (pc := 740) (tgt := 752) dL_law_740 (by decide) (by omega) (by omega) (fun c740 => ?_) (fun c740 => ?_)
              · refine rg_iconst F (pc := 752) (v := nI 0) dL_law_752 (by decide) ?_
                refine rg_top (v2 := .int (nI at9)) (by rw [hat, zAsk_q _ hm4 _ (by omega) (fun h => by have h9 := h12 h; omega)]; first | (exfalso; omega) | rw [if_pos (by omega)] | rw [if_neg (by omega)]) ?_
                refine rg_sub (lv' := [some (.ref (rSb D)), some (.ref (x)), some (.int (nI tm)), none, some (.int (nI nL)), none, some (.int (nI kx)), none, none, some (.long (zDig P nW nL)), none, some (.int (nI (zCl P 2 i))), some (.int (nI (zCl P 4 i))), some (.int (nI (zCa P i))), some (.int (nI i)), some (.int (nI (zM P i))), some (.int (nI (zRm P i))), some (.int (nI (zStay P i))), some (.int (nI (zOff P i))), some (.int (nI (pop q (zBits P i)))), some (.int (nI (pop q (zBits P i ^^^ zAsk (zM P i))))), some (.int (nI 1)), some (.int (nI q)), some (.int (nI bt)), none, none]) (by repeat' constructor) ?_
                exact K753
              · refine rg_iload F (pc := 743) dL_law_743 rfl ?_
                refine rg_nif_ne F (pc := 745) (tgt := 752) dL_law_745 (by decide) (by omega) (fun c745 => ?_) (fun c745 => ?_)
                · refine rg_iconst F (pc := 752) (v := nI 0) dL_law_752 (by decide) ?_
                  refine rg_top (v2 := .int (nI at9)) (by rw [hat, zAsk_q _ hm4 _ (by omega) (fun h => by have h9 := h12 h; omega)]; first | (exfalso; omega) | rw [if_pos (by omega)] | rw [if_neg (by omega)]) ?_
                  refine rg_sub (lv' := [some (.ref (rSb D)), some (.ref (x)), some (.int (nI tm)), none, some (.int (nI nL)), none, some (.int (nI kx)), none, none, some (.long (zDig P nW nL)), none, some (.int (nI (zCl P 2 i))), some (.int (nI (zCl P 4 i))), some (.int (nI (zCa P i))), some (.int (nI i)), some (.int (nI (zM P i))), some (.int (nI (zRm P i))), some (.int (nI (zStay P i))), some (.int (nI (zOff P i))), some (.int (nI (pop q (zBits P i)))), some (.int (nI (pop q (zBits P i ^^^ zAsk (zM P i))))), some (.int (nI 1)), some (.int (nI q)), some (.int (nI bt)), none, none]) (by repeat' constructor) ?_
                  exact K753
                · refine rg_iconst F (pc := 748) (v := nI 1) dL_law_748 (by decide) ?_
                  refine rg_goto F (pc := 749) (tgt := 753) dL_law_749 (by decide) ?_
                  refine rg_top (v2 := .int (nI at9)) (by rw [hat, zAsk_q _ hm4 _ (by omega) (fun h => by have h9 := h12 h; omega)]; first | (exfalso; omega) | rw [if_pos (by omega)] | rw [if_neg (by omega)]) ?_
                  refine rg_sub (lv' := [some (.ref (rSb D)), some (.ref (x)), some (.int (nI tm)), none, some (.int (nI nL)), none, some (.int (nI kx)), none, none, some (.long (zDig P nW nL)), none, some (.int (nI (zCl P 2 i))), some (.int (nI (zCl P 4 i))), some (.int (nI (zCa P i))), some (.int (nI i)), some (.int (nI (zM P i))), some (.int (nI (zRm P i))), some (.int (nI (zStay P i))), some (.int (nI (zOff P i))), some (.int (nI (pop q (zBits P i)))), some (.int (nI (pop q (zBits P i ^^^ zAsk (zM P i))))), some (.int (nI 1)), some (.int (nI q)), some (.int (nI bt)), none, none]) (by repeat' constructor) ?_
                  exact K753
            · refine rg_iload F (pc := 731) dL_law_731 rfl ?_
              refine rg_iconst F (pc := 733) (v := nI 2) dL_law_733 (by decide) ?_
              refine rg_ncmp_eq F (pc := 734) (tgt := 748) dL_law_734 (by decide) (by omega) (by omega) (fun c734 => ?_) (fun c734 => ?_)
              · refine rg_iconst F (pc := 748) (v := nI 1) dL_law_748 (by decide) ?_
                refine rg_goto F (pc := 749) (tgt := 753) dL_law_749 (by decide) ?_
                refine rg_top (v2 := .int (nI at9)) (by rw [hat, zAsk_q _ hm4 _ (by omega) (fun h => by have h9 := h12 h; omega)]; first | (exfalso; omega) | rw [if_pos (by omega)] | rw [if_neg (by omega)]) ?_
                refine rg_sub (lv' := [some (.ref (rSb D)), some (.ref (x)), some (.int (nI tm)), none, some (.int (nI nL)), none, some (.int (nI kx)), none, none, some (.long (zDig P nW nL)), none, some (.int (nI (zCl P 2 i))), some (.int (nI (zCl P 4 i))), some (.int (nI (zCa P i))), some (.int (nI i)), some (.int (nI (zM P i))), some (.int (nI (zRm P i))), some (.int (nI (zStay P i))), some (.int (nI (zOff P i))), some (.int (nI (pop q (zBits P i)))), some (.int (nI (pop q (zBits P i ^^^ zAsk (zM P i))))), some (.int (nI 1)), some (.int (nI q)), some (.int (nI bt)), none, none]) (by repeat' constructor) ?_
                exact K753
              · refine rg_iload F (pc := 737) dL_law_737 rfl ?_
                refine rg_iconst F (pc := 739) (v := nI 3) dL_law_739 (by decide) ?_
                refine rg_ncmp_ne F (pc := 740) (tgt := 752) dL_law_740 (by decide) (by omega) (by omega) (fun c740 => ?_) (fun c740 => ?_)
                · refine rg_iconst F (pc := 752) (v := nI 0) dL_law_752 (by decide) ?_
                  refine rg_top (v2 := .int (nI at9)) (by rw [hat, zAsk_q _ hm4 _ (by omega) (fun h => by have h9 := h12 h; omega)]; first | (exfalso; omega) | rw [if_pos (by omega)] | rw [if_neg (by omega)]) ?_
                  refine rg_sub (lv' := [some (.ref (rSb D)), some (.ref (x)), some (.int (nI tm)), none, some (.int (nI nL)), none, some (.int (nI kx)), none, none, some (.long (zDig P nW nL)), none, some (.int (nI (zCl P 2 i))), some (.int (nI (zCl P 4 i))), some (.int (nI (zCa P i))), some (.int (nI i)), some (.int (nI (zM P i))), some (.int (nI (zRm P i))), some (.int (nI (zStay P i))), some (.int (nI (zOff P i))), some (.int (nI (pop q (zBits P i)))), some (.int (nI (pop q (zBits P i ^^^ zAsk (zM P i))))), some (.int (nI 1)), some (.int (nI q)), some (.int (nI bt)), none, none]) (by repeat' constructor) ?_
                  exact K753
                · refine rg_iload F (pc := 743) dL_law_743 rfl ?_
                  refine rg_nif_ne F (pc := 745) (tgt := 752) dL_law_745 (by decide) (by omega) (fun c745 => ?_) (fun c745 => ?_)
                  · refine rg_iconst F (pc := 752) (v := nI 0) dL_law_752 (by decide) ?_
                    refine rg_top (v2 := .int (nI at9)) (by rw [hat, zAsk_q _ hm4 _ (by omega) (fun h => by have h9 := h12 h; omega)]; first | (exfalso; omega) | rw [if_pos (by omega)] | rw [if_neg (by omega)]) ?_
                    refine rg_sub (lv' := [some (.ref (rSb D)), some (.ref (x)), some (.int (nI tm)), none, some (.int (nI nL)), none, some (.int (nI kx)), none, none, some (.long (zDig P nW nL)), none, some (.int (nI (zCl P 2 i))), some (.int (nI (zCl P 4 i))), some (.int (nI (zCa P i))), some (.int (nI i)), some (.int (nI (zM P i))), some (.int (nI (zRm P i))), some (.int (nI (zStay P i))), some (.int (nI (zOff P i))), some (.int (nI (pop q (zBits P i)))), some (.int (nI (pop q (zBits P i ^^^ zAsk (zM P i))))), some (.int (nI 1)), some (.int (nI q)), some (.int (nI bt)), none, none]) (by repeat' constructor) ?_
                    exact K753
                  · refine rg_iconst F (pc := 748) (v := nI 1) dL_law_748 (by decide) ?_
                    refine rg_goto F (pc := 749) (tgt := 753) dL_law_749 (by decide) ?_
                    refine rg_top (v2 := .int (nI at9)) (by rw [hat, zAsk_q _ hm4 _ (by omega) (fun h => by have h9 := h12 h; omega)]; first | (exfalso; omega) | rw [if_pos (by omega)] | rw [if_neg (by omega)]) ?_
                    refine rg_sub (lv' := [some (.ref (rSb D)), some (.ref (x)), some (.int (nI tm)), none, some (.int (nI nL)), none, some (.int (nI kx)), none, none, some (.long (zDig P nW nL)), none, some (.int (nI (zCl P 2 i))), some (.int (nI (zCl P 4 i))), some (.int (nI (zCa P i))), some (.int (nI i)), some (.int (nI (zM P i))), some (.int (nI (zRm P i))), some (.int (nI (zStay P i))), some (.int (nI (zOff P i))), some (.int (nI (pop q (zBits P i)))), some (.int (nI (pop q (zBits P i ^^^ zAsk (zM P i))))), some (.int (nI 1)), some (.int (nI q)), some (.int (nI bt)), none, none]) (by repeat' constructor) ?_
                    exact K753
          · refine rg_iload F (pc := 720) dL_law_720 rfl ?_
            refine rg_nif_eq F (pc := 722) (tgt := 748) dL_law_722 (by decide) (by omega) (fun c722 => ?_) (fun c722 => ?_)
            · refine rg_iconst F (pc := 748) (v := nI 1) dL_law_748 (by decide) ?_
              refine rg_goto F (pc := 749) (tgt := 753) dL_law_749 (by decide) ?_
              refine rg_top (v2 := .int (nI at9)) (by rw [hat, zAsk_q _ hm4 _ (by omega) (fun h => by have h9 := h12 h; omega)]; first | (exfalso; omega) | rw [if_pos (by omega)] | rw [if_neg (by omega)]) ?_
              refine rg_sub (lv' := [some (.ref (rSb D)), some (.ref (x)), some (.int (nI tm)), none, some (.int (nI nL)), none, some (.int (nI kx)), none, none, some (.long (zDig P nW nL)), none, some (.int (nI (zCl P 2 i))), some (.int (nI (zCl P 4 i))), some (.int (nI (zCa P i))), some (.int (nI i)), some (.int (nI (zM P i))), some (.int (nI (zRm P i))), some (.int (nI (zStay P i))), some (.int (nI (zOff P i))), some (.int (nI (pop q (zBits P i)))), some (.int (nI (pop q (zBits P i ^^^ zAsk (zM P i))))), some (.int (nI 1)), some (.int (nI q)), some (.int (nI bt)), none, none]) (by repeat' constructor) ?_
              exact K753
            · refine rg_iload F (pc := 725) dL_law_725 rfl ?_
              refine rg_iconst F (pc := 727) (v := nI 2) dL_law_727 (by decide) ?_
              refine rg_ncmp_ne F (pc := 728) (tgt := 737) dL_law_728 (by decide) (by omega) (by omega) (fun c728 => ?_) (fun c728 => ?_)
              · refine rg_iload F (pc := 737) dL_law_737 rfl ?_
                refine rg_iconst F (pc := 739) (v := nI 3) dL_law_739 (by decide) ?_
                refine rg_ncmp_ne F (pc := 740) (tgt := 752) dL_law_740 (by decide) (by omega) (by omega) (fun c740 => ?_) (fun c740 => ?_)
                · refine rg_iconst F (pc := 752) (v := nI 0) dL_law_752 (by decide) ?_
                  refine rg_top (v2 := .int (nI at9)) (by rw [hat, zAsk_q _ hm4 _ (by omega) (fun h => by have h9 := h12 h; omega)]; first | (exfalso; omega) | rw [if_pos (by omega)] | rw [if_neg (by omega)]) ?_
                  refine rg_sub (lv' := [some (.ref (rSb D)), some (.ref (x)), some (.int (nI tm)), none, some (.int (nI nL)), none, some (.int (nI kx)), none, none, some (.long (zDig P nW nL)), none, some (.int (nI (zCl P 2 i))), some (.int (nI (zCl P 4 i))), some (.int (nI (zCa P i))), some (.int (nI i)), some (.int (nI (zM P i))), some (.int (nI (zRm P i))), some (.int (nI (zStay P i))), some (.int (nI (zOff P i))), some (.int (nI (pop q (zBits P i)))), some (.int (nI (pop q (zBits P i ^^^ zAsk (zM P i))))), some (.int (nI 1)), some (.int (nI q)), some (.int (nI bt)), none, none]) (by repeat' constructor) ?_
                  exact K753
                · refine rg_iload F (pc := 743) dL_law_743 rfl ?_
                  refine rg_nif_ne F (pc := 745) (tgt := 752) dL_law_745 (by decide) (by omega) (fun c745 => ?_) (fun c745 => ?_)
                  · refine rg_iconst F (pc := 752) (v := nI 0) dL_law_752 (by decide) ?_
                    refine rg_top (v2 := .int (nI at9)) (by rw [hat, zAsk_q _ hm4 _ (by omega) (fun h => by have h9 := h12 h; omega)]; first | (exfalso; omega) | rw [if_pos (by omega)] | rw [if_neg (by omega)]) ?_
                    refine rg_sub (lv' := [some (.ref (rSb D)), some (.ref (x)), some (.int (nI tm)), none, some (.int (nI nL)), none, some (.int (nI kx)), none, none, some (.long (zDig P nW nL)), none, some (.int (nI (zCl P 2 i))), some (.int (nI (zCl P 4 i))), some (.int (nI (zCa P i))), some (.int (nI i)), some (.int (nI (zM P i))), some (.int (nI (zRm P i))), some (.int (nI (zStay P i))), some (.int (nI (zOff P i))), some (.int (nI (pop q (zBits P i)))), some (.int (nI (pop q (zBits P i ^^^ zAsk (zM P i))))), some (.int (nI 1)), some (.int (nI q)), some (.int (nI bt)), none, none]) (by repeat' constructor) ?_
                    exact K753
                  · refine rg_iconst F (pc := 748) (v := nI 1) dL_law_748 (by decide) ?_
                    refine rg_goto F (pc := 749) (tgt := 753) dL_law_749 (by decide) ?_
                    refine rg_top (v2 := .int (nI at9)) (by rw [hat, zAsk_q _ hm4 _ (by omega) (fun h => by have h9 := h12 h; omega)]; first | (exfalso; omega) | rw [if_pos (by omega)] | rw [if_neg (by omega)]) ?_
                    refine rg_sub (lv' := [some (.ref (rSb D)), some (.ref (x)), some (.int (nI tm)), none, some (.int (nI nL)), none, some (.int (nI kx)), none, none, some (.long (zDig P nW nL)), none, some (.int (nI (zCl P 2 i))), some (.int (nI (zCl P 4 i))), some (.int (nI (zCa P i))), some (.int (nI i)), some (.int (nI (zM P i))), some (.int (nI (zRm P i))), some (.int (nI (zStay P i))), some (.int (nI (zOff P i))), some (.int (nI (pop q (zBits P i)))), some (.int (nI (pop q (zBits P i ^^^ zAsk (zM P i))))), some (.int (nI 1)), some (.int (nI q)), some (.int (nI bt)), none, none]) (by repeat' constructor) ?_
                    exact K753
              · refine rg_iload F (pc := 731) dL_law_731 rfl ?_
                refine rg_iconst F (pc := 733) (v := nI 2) dL_law_733 (by decide) ?_
                refine rg_ncmp_eq F (pc := 734) (tgt := 748) dL_law_734 (by decide) (by omega) (by omega) (fun c734 => ?_) (fun c734 => ?_)
                · refine rg_iconst F (pc := 748) (v := nI 1) dL_law_748 (by decide) ?_
                  refine rg_goto F (pc := 749) (tgt := 753) dL_law_749 (by decide) ?_
                  refine rg_top (v2 := .int (nI at9)) (by rw [hat, zAsk_q _ hm4 _ (by omega) (fun h => by have h9 := h12 h; omega)]; first | (exfalso; omega) | rw [if_pos (by omega)] | rw [if_neg (by omega)]) ?_
                  refine rg_sub (lv' := [some (.ref (rSb D)), some (.ref (x)), some (.int (nI tm)), none, some (.int (nI nL)), none, some (.int (nI kx)), none, none, some (.long (zDig P nW nL)), none, some (.int (nI (zCl P 2 i))), some (.int (nI (zCl P 4 i))), some (.int (nI (zCa P i))), some (.int (nI i)), some (.int (nI (zM P i))), some (.int (nI (zRm P i))), some (.int (nI (zStay P i))), some (.int (nI (zOff P i))), some (.int (nI (pop q (zBits P i)))), some (.int (nI (pop q (zBits P i ^^^ zAsk (zM P i))))), some (.int (nI 1)), some (.int (nI q)), some (.int (nI bt)), none, none]) (by repeat' constructor) ?_
                  exact K753
                · refine rg_iload F (pc := 737) dL_law_737 rfl ?_
                  refine rg_iconst F (pc := 739) (v := nI 3) dL_law_739 (by decide) ?_
                  refine rg_ncmp_ne F (pc := 740) (tgt := 752) dL_law_740 (by decide) (by omega) (by omega) (fun c740 => ?_) (fun c740 => ?_)
                  · refine rg_iconst F (pc := 752) (v := nI 0) dL_law_752 (by decide) ?_
                    refine rg_top (v2 := .int (nI at9)) (by rw [hat, zAsk_q _ hm4 _ (by omega) (fun h => by have h9 := h12 h; omega)]; first | (exfalso; omega) | rw [if_pos (by omega)] | rw [if_neg (by omega)]) ?_
                    refine rg_sub (lv' := [some (.ref (rSb D)), some (.ref (x)), some (.int (nI tm)), none, some (.int (nI nL)), none, some (.int (nI kx)), none, none, some (.long (zDig P nW nL)), none, some (.int (nI (zCl P 2 i))), some (.int (nI (zCl P 4 i))), some (.int (nI (zCa P i))), some (.int (nI i)), some (.int (nI (zM P i))), some (.int (nI (zRm P i))), some (.int (nI (zStay P i))), some (.int (nI (zOff P i))), some (.int (nI (pop q (zBits P i)))), some (.int (nI (pop q (zBits P i ^^^ zAsk (zM P i))))), some (.int (nI 1)), some (.int (nI q)), some (.int (nI bt)), none, none]) (by repeat' constructor) ?_
                    exact K753
                  · refine rg_iload F (pc := 743) dL_law_743 rfl ?_
                    refine rg_nif_ne F (pc := 745) (tgt := 752) dL_law_745 (by decide) (by omega) (fun c745 => ?_) (fun c745 => ?_)
                    · refine rg_iconst F (pc := 752) (v := nI 0) dL_law_752 (by decide) ?_
                      refine rg_top (v2 := .int (nI at9)) (by rw [hat, zAsk_q _ hm4 _ (by omega) (fun h => by have h9 := h12 h; omega)]; first | (exfalso; omega) | rw [if_pos (by omega)] | rw [if_neg (by omega)]) ?_
                      refine rg_sub (lv' := [some (.ref (rSb D)), some (.ref (x)), some (.int (nI tm)), none, some (.int (nI nL)), none, some (.int (nI kx)), none, none, some (.long (zDig P nW nL)), none, some (.int (nI (zCl P 2 i))), some (.int (nI (zCl P 4 i))), some (.int (nI (zCa P i))), some (.int (nI i)), some (.int (nI (zM P i))), some (.int (nI (zRm P i))), some (.int (nI (zStay P i))), some (.int (nI (zOff P i))), some (.int (nI (pop q (zBits P i)))), some (.int (nI (pop q (zBits P i ^^^ zAsk (zM P i))))), some (.int (nI 1)), some (.int (nI q)), some (.int (nI bt)), none, none]) (by repeat' constructor) ?_
                      exact K753
                    · refine rg_iconst F (pc := 748) (v := nI 1) dL_law_748 (by decide) ?_
                      refine rg_goto F (pc := 749) (tgt := 753) dL_law_749 (by decide) ?_
                      refine rg_top (v2 := .int (nI at9)) (by rw [hat, zAsk_q _ hm4 _ (by omega) (fun h => by have h9 := h12 h; omega)]; first | (exfalso; omega) | rw [if_pos (by omega)] | rw [if_neg (by omega)]) ?_
                      refine rg_sub (lv' := [some (.ref (rSb D)), some (.ref (x)), some (.int (nI tm)), none, some (.int (nI nL)), none, some (.int (nI kx)), none, none, some (.long (zDig P nW nL)), none, some (.int (nI (zCl P 2 i))), some (.int (nI (zCl P 4 i))), some (.int (nI (zCa P i))), some (.int (nI i)), some (.int (nI (zM P i))), some (.int (nI (zRm P i))), some (.int (nI (zStay P i))), some (.int (nI (zOff P i))), some (.int (nI (pop q (zBits P i)))), some (.int (nI (pop q (zBits P i ^^^ zAsk (zM P i))))), some (.int (nI 1)), some (.int (nI q)), some (.int (nI bt)), none, none]) (by repeat' constructor) ?_
                      exact K753
        · refine rg_iload F (pc := 708) dL_law_708 rfl ?_
          refine rg_iconst F (pc := 710) (v := nI 1) dL_law_710 (by decide) ?_
          refine rg_ncmp_eq F (pc := 711) (tgt := 748) dL_law_711 (by decide) (by omega) (by omega) (fun c711 => ?_) (fun c711 => ?_)
          · refine rg_iconst F (pc := 748) (v := nI 1) dL_law_748 (by decide) ?_
            refine rg_goto F (pc := 749) (tgt := 753) dL_law_749 (by decide) ?_
            refine rg_top (v2 := .int (nI at9)) (by rw [hat, zAsk_q _ hm4 _ (by omega) (fun h => by have h9 := h12 h; omega)]; first | (exfalso; omega) | rw [if_pos (by omega)] | rw [if_neg (by omega)]) ?_
            refine rg_sub (lv' := [some (.ref (rSb D)), some (.ref (x)), some (.int (nI tm)), none, some (.int (nI nL)), none, some (.int (nI kx)), none, none, some (.long (zDig P nW nL)), none, some (.int (nI (zCl P 2 i))), some (.int (nI (zCl P 4 i))), some (.int (nI (zCa P i))), some (.int (nI i)), some (.int (nI (zM P i))), some (.int (nI (zRm P i))), some (.int (nI (zStay P i))), some (.int (nI (zOff P i))), some (.int (nI (pop q (zBits P i)))), some (.int (nI (pop q (zBits P i ^^^ zAsk (zM P i))))), some (.int (nI 1)), some (.int (nI q)), some (.int (nI bt)), none, none]) (by repeat' constructor) ?_
            exact K753
          · refine rg_iload F (pc := 714) dL_law_714 rfl ?_
            refine rg_iconst F (pc := 716) (v := nI 1) dL_law_716 (by decide) ?_
            refine rg_ncmp_ne F (pc := 717) (tgt := 725) dL_law_717 (by decide) (by omega) (by omega) (fun c717 => ?_) (fun c717 => ?_)
            · refine rg_iload F (pc := 725) dL_law_725 rfl ?_
              refine rg_iconst F (pc := 727) (v := nI 2) dL_law_727 (by decide) ?_
              refine rg_ncmp_ne F (pc := 728) (tgt := 737) dL_law_728 (by decide) (by omega) (by omega) (fun c728 => ?_) (fun c728 => ?_)
              · refine rg_iload F (pc := 737) dL_law_737 rfl ?_
                refine rg_iconst F (pc := 739) (v := nI 3) dL_law_739 (by decide) ?_
                refine rg_ncmp_ne F (pc := 740) (tgt := 752) dL_law_740 (by decide) (by omega) (by omega) (fun c740 => ?_) (fun c740 => ?_)
                · refine rg_iconst F (pc := 752) (v := nI 0) dL_law_752 (by decide) ?_
                  refine rg_top (v2 := .int (nI at9)) (by rw [hat, zAsk_q _ hm4 _ (by omega) (fun h => by have h9 := h12 h; omega)]; first | (exfalso; omega) | rw [if_pos (by omega)] | rw [if_neg (by omega)]) ?_
                  refine rg_sub (lv' := [some (.ref (rSb D)), some (.ref (x)), some (.int (nI tm)), none, some (.int (nI nL)), none, some (.int (nI kx)), none, none, some (.long (zDig P nW nL)), none, some (.int (nI (zCl P 2 i))), some (.int (nI (zCl P 4 i))), some (.int (nI (zCa P i))), some (.int (nI i)), some (.int (nI (zM P i))), some (.int (nI (zRm P i))), some (.int (nI (zStay P i))), some (.int (nI (zOff P i))), some (.int (nI (pop q (zBits P i)))), some (.int (nI (pop q (zBits P i ^^^ zAsk (zM P i))))), some (.int (nI 1)), some (.int (nI q)), some (.int (nI bt)), none, none]) (by repeat' constructor) ?_
                  exact K753
                · refine rg_iload F (pc := 743) dL_law_743 rfl ?_
                  refine rg_nif_ne F (pc := 745) (tgt := 752) dL_law_745 (by decide) (by omega) (fun c745 => ?_) (fun c745 => ?_)
                  · refine rg_iconst F (pc := 752) (v := nI 0) dL_law_752 (by decide) ?_
                    refine rg_top (v2 := .int (nI at9)) (by rw [hat, zAsk_q _ hm4 _ (by omega) (fun h => by have h9 := h12 h; omega)]; first | (exfalso; omega) | rw [if_pos (by omega)] | rw [if_neg (by omega)]) ?_
                    refine rg_sub (lv' := [some (.ref (rSb D)), some (.ref (x)), some (.int (nI tm)), none, some (.int (nI nL)), none, some (.int (nI kx)), none, none, some (.long (zDig P nW nL)), none, some (.int (nI (zCl P 2 i))), some (.int (nI (zCl P 4 i))), some (.int (nI (zCa P i))), some (.int (nI i)), some (.int (nI (zM P i))), some (.int (nI (zRm P i))), some (.int (nI (zStay P i))), some (.int (nI (zOff P i))), some (.int (nI (pop q (zBits P i)))), some (.int (nI (pop q (zBits P i ^^^ zAsk (zM P i))))), some (.int (nI 1)), some (.int (nI q)), some (.int (nI bt)), none, none]) (by repeat' constructor) ?_
                    exact K753
                  · refine rg_iconst F (pc := 748) (v := nI 1) dL_law_748 (by decide) ?_
                    refine rg_goto F (pc := 749) (tgt := 753) dL_law_749 (by decide) ?_
                    refine rg_top (v2 := .int (nI at9)) (by rw [hat, zAsk_q _ hm4 _ (by omega) (fun h => by have h9 := h12 h; omega)]; first | (exfalso; omega) | rw [if_pos (by omega)] | rw [if_neg (by omega)]) ?_
                    refine rg_sub (lv' := [some (.ref (rSb D)), some (.ref (x)), some (.int (nI tm)), none, some (.int (nI nL)), none, some (.int (nI kx)), none, none, some (.long (zDig P nW nL)), none, some (.int (nI (zCl P 2 i))), some (.int (nI (zCl P 4 i))), some (.int (nI (zCa P i))), some (.int (nI i)), some (.int (nI (zM P i))), some (.int (nI (zRm P i))), some (.int (nI (zStay P i))), some (.int (nI (zOff P i))), some (.int (nI (pop q (zBits P i)))), some (.int (nI (pop q (zBits P i ^^^ zAsk (zM P i))))), some (.int (nI 1)), some (.int (nI q)), some (.int (nI bt)), none, none]) (by repeat' constructor) ?_
                    exact K753
              · refine rg_iload F (pc := 731) dL_law_731 rfl ?_
                refine rg_iconst F (pc := 733) (v := nI 2) dL_law_733 (by decide) ?_
                refine rg_ncmp_eq F (pc := 734) (tgt := 748) dL_law_734 (by decide) (by omega) (by omega) (fun c734 => ?_) (fun c734 => ?_)
                · refine rg_iconst F (pc := 748) (v := nI 1) dL_law_748 (by decide) ?_
                  refine rg_goto F (pc := 749) (tgt := 753) dL_law_749 (by decide) ?_
                  refine rg_top (v2 := .int (nI at9)) (by rw [hat, zAsk_q _ hm4 _ (by omega) (fun h => by have h9 := h12 h; omega)]; first | (exfalso; omega) | rw [if_pos (by omega)] | rw [if_neg (by omega)]) ?_
                  refine rg_sub (lv' := [some (.ref (rSb D)), some (.ref (x)), some (.int (nI tm)), none, some (.int (nI nL)), none, some (.int (nI kx)), none, none, some (.long (zDig P nW nL)), none, some (.int (nI (zCl P 2 i))), some (.int (nI (zCl P 4 i))), some (.int (nI (zCa P i))), some (.int (nI i)), some (.int (nI (zM P i))), some (.int (nI (zRm P i))), some (.int (nI (zStay P i))), some (.int (nI (zOff P i))), some (.int (nI (pop q (zBits P i)))), some (.int (nI (pop q (zBits P i ^^^ zAsk (zM P i))))), some (.int (nI 1)), some (.int (nI q)), some (.int (nI bt)), none, none]) (by repeat' constructor) ?_
                  exact K753
                · refine rg_iload F (pc := 737) dL_law_737 rfl ?_
                  refine rg_iconst F (pc := 739) (v := nI 3) dL_law_739 (by decide) ?_
                  refine rg_ncmp_ne F (pc := 740) (tgt := 752) dL_law_740 (by decide) (by omega) (by omega) (fun c740 => ?_) (fun c740 => ?_)
                  · refine rg_iconst F (pc := 752) (v := nI 0) dL_law_752 (by decide) ?_
                    refine rg_top (v2 := .int (nI at9)) (by rw [hat, zAsk_q _ hm4 _ (by omega) (fun h => by have h9 := h12 h; omega)]; first | (exfalso; omega) | rw [if_pos (by omega)] | rw [if_neg (by omega)]) ?_
                    refine rg_sub (lv' := [some (.ref (rSb D)), some (.ref (x)), some (.int (nI tm)), none, some (.int (nI nL)), none, some (.int (nI kx)), none, none, some (.long (zDig P nW nL)), none, some (.int (nI (zCl P 2 i))), some (.int (nI (zCl P 4 i))), some (.int (nI (zCa P i))), some (.int (nI i)), some (.int (nI (zM P i))), some (.int (nI (zRm P i))), some (.int (nI (zStay P i))), some (.int (nI (zOff P i))), some (.int (nI (pop q (zBits P i)))), some (.int (nI (pop q (zBits P i ^^^ zAsk (zM P i))))), some (.int (nI 1)), some (.int (nI q)), some (.int (nI bt)), none, none]) (by repeat' constructor) ?_
                    exact K753
                  · refine rg_iload F (pc := 743) dL_law_743 rfl ?_
                    refine rg_nif_ne F (pc := 745) (tgt := 752) dL_law_745 (by decide) (by omega) (fun c745 => ?_) (fun c745 => ?_)
                    · refine rg_iconst F (pc := 752) (v := nI 0) dL_law_752 (by decide) ?_
                      refine rg_top (v2 := .int (nI at9)) (by rw [hat, zAsk_q _ hm4 _ (by omega) (fun h => by have h9 := h12 h; omega)]; first | (exfalso; omega) | rw [if_pos (by omega)] | rw [if_neg (by omega)]) ?_
                      refine rg_sub (lv' := [some (.ref (rSb D)), some (.ref (x)), some (.int (nI tm)), none, some (.int (nI nL)), none, some (.int (nI kx)), none, none, some (.long (zDig P nW nL)), none, some (.int (nI (zCl P 2 i))), some (.int (nI (zCl P 4 i))), some (.int (nI (zCa P i))), some (.int (nI i)), some (.int (nI (zM P i))), some (.int (nI (zRm P i))), some (.int (nI (zStay P i))), some (.int (nI (zOff P i))), some (.int (nI (pop q (zBits P i)))), some (.int (nI (pop q (zBits P i ^^^ zAsk (zM P i))))), some (.int (nI 1)), some (.int (nI q)), some (.int (nI bt)), none, none]) (by repeat' constructor) ?_
                      exact K753
                    · refine rg_iconst F (pc := 748) (v := nI 1) dL_law_748 (by decide) ?_
                      refine rg_goto F (pc := 749) (tgt := 753) dL_law_749 (by decide) ?_
                      refine rg_top (v2 := .int (nI at9)) (by rw [hat, zAsk_q _ hm4 _ (by omega) (fun h => by have h9 := h12 h; omega)]; first | (exfalso; omega) | rw [if_pos (by omega)] | rw [if_neg (by omega)]) ?_
                      refine rg_sub (lv' := [some (.ref (rSb D)), some (.ref (x)), some (.int (nI tm)), none, some (.int (nI nL)), none, some (.int (nI kx)), none, none, some (.long (zDig P nW nL)), none, some (.int (nI (zCl P 2 i))), some (.int (nI (zCl P 4 i))), some (.int (nI (zCa P i))), some (.int (nI i)), some (.int (nI (zM P i))), some (.int (nI (zRm P i))), some (.int (nI (zStay P i))), some (.int (nI (zOff P i))), some (.int (nI (pop q (zBits P i)))), some (.int (nI (pop q (zBits P i ^^^ zAsk (zM P i))))), some (.int (nI 1)), some (.int (nI q)), some (.int (nI bt)), none, none]) (by repeat' constructor) ?_
                      exact K753
            · refine rg_iload F (pc := 720) dL_law_720 rfl ?_
              refine rg_nif_eq F (pc := 722) (tgt := 748) dL_law_722 (by decide) (by omega) (fun c722 => ?_) (fun c722 => ?_)
              · refine rg_iconst F (pc := 748) (v := nI 1) dL_law_748 (by decide) ?_
                refine rg_goto F (pc := 749) (tgt := 753) dL_law_749 (by decide) ?_
                refine rg_top (v2 := .int (nI at9)) (by rw [hat, zAsk_q _ hm4 _ (by omega) (fun h => by have h9 := h12 h; omega)]; first | (exfalso; omega) | rw [if_pos (by omega)] | rw [if_neg (by omega)]) ?_
                refine rg_sub (lv' := [some (.ref (rSb D)), some (.ref (x)), some (.int (nI tm)), none, some (.int (nI nL)), none, some (.int (nI kx)), none, none, some (.long (zDig P nW nL)), none, some (.int (nI (zCl P 2 i))), some (.int (nI (zCl P 4 i))), some (.int (nI (zCa P i))), some (.int (nI i)), some (.int (nI (zM P i))), some (.int (nI (zRm P i))), some (.int (nI (zStay P i))), some (.int (nI (zOff P i))), some (.int (nI (pop q (zBits P i)))), some (.int (nI (pop q (zBits P i ^^^ zAsk (zM P i))))), some (.int (nI 1)), some (.int (nI q)), some (.int (nI bt)), none, none]) (by repeat' constructor) ?_
                exact K753
              · refine rg_iload F (pc := 725) dL_law_725 rfl ?_
                refine rg_iconst F (pc := 727) (v := nI 2) dL_law_727 (by decide) ?_
                refine rg_ncmp_ne F (pc := 728) (tgt := 737) dL_law_728 (by decide) (by omega) (by omega) (fun c728 => ?_) (fun c728 => ?_)
                · refine rg_iload F (pc := 737) dL_law_737 rfl ?_
                  refine rg_iconst F (pc := 739) (v := nI 3) dL_law_739 (by decide) ?_
                  refine rg_ncmp_ne F (pc := 740) (tgt := 752) dL_law_740 (by decide) (by omega) (by omega) (fun c740 => ?_) (fun c740 => ?_)
                  · refine rg_iconst F (pc := 752) (v := nI 0) dL_law_752 (by decide) ?_
                    refine rg_top (v2 := .int (nI at9)) (by rw [hat, zAsk_q _ hm4 _ (by omega) (fun h => by have h9 := h12 h; omega)]; first | (exfalso; omega) | rw [if_pos (by omega)] | rw [if_neg (by omega)]) ?_
                    refine rg_sub (lv' := [some (.ref (rSb D)), some (.ref (x)), some (.int (nI tm)), none, some (.int (nI nL)), none, some (.int (nI kx)), none, none, some (.long (zDig P nW nL)), none, some (.int (nI (zCl P 2 i))), some (.int (nI (zCl P 4 i))), some (.int (nI (zCa P i))), some (.int (nI i)), some (.int (nI (zM P i))), some (.int (nI (zRm P i))), some (.int (nI (zStay P i))), some (.int (nI (zOff P i))), some (.int (nI (pop q (zBits P i)))), some (.int (nI (pop q (zBits P i ^^^ zAsk (zM P i))))), some (.int (nI 1)), some (.int (nI q)), some (.int (nI bt)), none, none]) (by repeat' constructor) ?_
                    exact K753
                  · refine rg_iload F (pc := 743) dL_law_743 rfl ?_
                    refine rg_nif_ne F (pc := 745) (tgt := 752) dL_law_745 (by decide) (by omega) (fun c745 => ?_) (fun c745 => ?_)
                    · refine rg_iconst F (pc := 752) (v := nI 0) dL_law_752 (by decide) ?_
                      refine rg_top (v2 := .int (nI at9)) (by rw [hat, zAsk_q _ hm4 _ (by omega) (fun h => by have h9 := h12 h; omega)]; first | (exfalso; omega) | rw [if_pos (by omega)] | rw [if_neg (by omega)]) ?_
                      refine rg_sub (lv' := [some (.ref (rSb D)), some (.ref (x)), some (.int (nI tm)), none, some (.int (nI nL)), none, some (.int (nI kx)), none, none, some (.long (zDig P nW nL)), none, some (.int (nI (zCl P 2 i))), some (.int (nI (zCl P 4 i))), some (.int (nI (zCa P i))), some (.int (nI i)), some (.int (nI (zM P i))), some (.int (nI (zRm P i))), some (.int (nI (zStay P i))), some (.int (nI (zOff P i))), some (.int (nI (pop q (zBits P i)))), some (.int (nI (pop q (zBits P i ^^^ zAsk (zM P i))))), some (.int (nI 1)), some (.int (nI q)), some (.int (nI bt)), none, none]) (by repeat' constructor) ?_
                      exact K753
                    · refine rg_iconst F (pc := 748) (v := nI 1) dL_law_748 (by decide) ?_
                      refine rg_goto F (pc := 749) (tgt := 753) dL_law_749 (by decide) ?_
                      refine rg_top (v2 := .int (nI at9)) (by rw [hat, zAsk_q _ hm4 _ (by omega) (fun h => by have h9 := h12 h; omega)]; first | (exfalso; omega) | rw [if_pos (by omega)] | rw [if_neg (by omega)]) ?_
                      refine rg_sub (lv' := [some (.ref (rSb D)), some (.ref (x)), some (.int (nI tm)), none, some (.int (nI nL)), none, some (.int (nI kx)), none, none, some (.long (zDig P nW nL)), none, some (.int (nI (zCl P 2 i))), some (.int (nI (zCl P 4 i))), some (.int (nI (zCa P i))), some (.int (nI i)), some (.int (nI (zM P i))), some (.int (nI (zRm P i))), some (.int (nI (zStay P i))), some (.int (nI (zOff P i))), some (.int (nI (pop q (zBits P i)))), some (.int (nI (pop q (zBits P i ^^^ zAsk (zM P i))))), some (.int (nI 1)), some (.int (nI q)), some (.int (nI bt)), none, none]) (by repeat' constructor) ?_
                      exact K753
                · refine rg_iload F (pc := 731) dL_law_731 rfl ?_
                  refine rg_iconst F (pc := 733) (v := nI 2) dL_law_733 (by decide) ?_
                  refine rg_ncmp_eq F (pc := 734) (tgt := 748) dL_law_734 (by decide) (by omega) (by omega) (fun c734 => ?_) (fun c734 => ?_)
                  · refine rg_iconst F (pc := 748) (v := nI 1) dL_law_748 (by decide) ?_
                    refine rg_goto F (pc := 749) (tgt := 753) dL_law_749 (by decide) ?_
                    refine rg_top (v2 := .int (nI at9)) (by rw [hat, zAsk_q _ hm4 _ (by omega) (fun h => by have h9 := h12 h; omega)]; first | (exfalso; omega) | rw [if_pos (by omega)] | rw [if_neg (by omega)]) ?_
                    refine rg_sub (lv' := [some (.ref (rSb D)), some (.ref (x)), some (.int (nI tm)), none, some (.int (nI nL)), none, some (.int (nI kx)), none, none, some (.long (zDig P nW nL)), none, some (.int (nI (zCl P 2 i))), some (.int (nI (zCl P 4 i))), some (.int (nI (zCa P i))), some (.int (nI i)), some (.int (nI (zM P i))), some (.int (nI (zRm P i))), some (.int (nI (zStay P i))), some (.int (nI (zOff P i))), some (.int (nI (pop q (zBits P i)))), some (.int (nI (pop q (zBits P i ^^^ zAsk (zM P i))))), some (.int (nI 1)), some (.int (nI q)), some (.int (nI bt)), none, none]) (by repeat' constructor) ?_
                    exact K753
                  · refine rg_iload F (pc := 737) dL_law_737 rfl ?_
                    refine rg_iconst F (pc := 739) (v := nI 3) dL_law_739 (by decide) ?_
                    refine rg_ncmp_ne F (pc := 740) (tgt := 752) dL_law_740 (by decide) (by omega) (by omega) (fun c740 => ?_) (fun c740 => ?_)
                    · refine rg_iconst F (pc := 752) (v := nI 0) dL_law_752 (by decide) ?_
                      refine rg_top (v2 := .int (nI at9)) (by rw [hat, zAsk_q _ hm4 _ (by omega) (fun h => by have h9 := h12 h; omega)]; first | (exfalso; omega) | rw [if_pos (by omega)] | rw [if_neg (by omega)]) ?_
                      refine rg_sub (lv' := [some (.ref (rSb D)), some (.ref (x)), some (.int (nI tm)), none, some (.int (nI nL)), none, some (.int (nI kx)), none, none, some (.long (zDig P nW nL)), none, some (.int (nI (zCl P 2 i))), some (.int (nI (zCl P 4 i))), some (.int (nI (zCa P i))), some (.int (nI i)), some (.int (nI (zM P i))), some (.int (nI (zRm P i))), some (.int (nI (zStay P i))), some (.int (nI (zOff P i))), some (.int (nI (pop q (zBits P i)))), some (.int (nI (pop q (zBits P i ^^^ zAsk (zM P i))))), some (.int (nI 1)), some (.int (nI q)), some (.int (nI bt)), none, none]) (by repeat' constructor) ?_
                      exact K753
                    · refine rg_iload F (pc := 743) dL_law_743 rfl ?_
                      refine rg_nif_ne F (pc := 745) (tgt := 752) dL_law_745 (by decide) (by omega) (fun c745 => ?_) (fun c745 => ?_)
                      · refine rg_iconst F (pc := 752) (v := nI 0) dL_law_752 (by decide) ?_
                        refine rg_top (v2 := .int (nI at9)) (by rw [hat, zAsk_q _ hm4 _ (by omega) (fun h => by have h9 := h12 h; omega)]; first | (exfalso; omega) | rw [if_pos (by omega)] | rw [if_neg (by omega)]) ?_
                        refine rg_sub (lv' := [some (.ref (rSb D)), some (.ref (x)), some (.int (nI tm)), none, some (.int (nI nL)), none, some (.int (nI kx)), none, none, some (.long (zDig P nW nL)), none, some (.int (nI (zCl P 2 i))), some (.int (nI (zCl P 4 i))), some (.int (nI (zCa P i))), some (.int (nI i)), some (.int (nI (zM P i))), some (.int (nI (zRm P i))), some (.int (nI (zStay P i))), some (.int (nI (zOff P i))), some (.int (nI (pop q (zBits P i)))), some (.int (nI (pop q (zBits P i ^^^ zAsk (zM P i))))), some (.int (nI 1)), some (.int (nI q)), some (.int (nI bt)), none, none]) (by repeat' constructor) ?_
                        exact K753
                      · refine rg_iconst F (pc := 748) (v := nI 1) dL_law_748 (by decide) ?_
                        refine rg_goto F (pc := 749) (tgt := 753) dL_law_749 (by decide) ?_
                        refine rg_top (v2 := .int (nI at9)) (by rw [hat, zAsk_q _ hm4 _ (by omega) (fun h => by have h9 := h12 h; omega)]; first | (exfalso; omega) | rw [if_pos (by omega)] | rw [if_neg (by omega)]) ?_
                        refine rg_sub (lv' := [some (.ref (rSb D)), some (.ref (x)), some (.int (nI tm)), none, some (.int (nI nL)), none, some (.int (nI kx)), none, none, some (.long (zDig P nW nL)), none, some (.int (nI (zCl P 2 i))), some (.int (nI (zCl P 4 i))), some (.int (nI (zCa P i))), some (.int (nI i)), some (.int (nI (zM P i))), some (.int (nI (zRm P i))), some (.int (nI (zStay P i))), some (.int (nI (zOff P i))), some (.int (nI (pop q (zBits P i)))), some (.int (nI (pop q (zBits P i ^^^ zAsk (zM P i))))), some (.int (nI 1)), some (.int (nI q)), some (.int (nI bt)), none, none]) (by repeat' constructor) ?_
                        exact K753
set_option maxHeartbeats 4000000 in
set_option maxRecDepth 100000 in
theorem L_H (F : rF p l e room_1 s m args below meth c cL_law 26 RL D A) {tm kx : Nat} (hkx : kx < 10) {x : Nat} {P : Poem} {nW nL : Nat} {u : Nat → Nat → Nat} (hV : cV D M x P nW nL u) (h1W : 1 ≤ nW) (h1L : 1 ≤ nL) {i : Nat} (hi : i < nL) (hk : k ≤ 610524) (hn : n ≤ 7270126) (KK : rG p l e room_1 s m args below meth c D A 26 Q M k n [some (.ref (rSb D)), some (.ref (x)), some (.int (nI tm)), none, some (.int (nI nL)), none, some (.int (nI kx)), none, none, some (.long (zDig P nW nL)), none, some (.int (nI (zCl P 2 (i + 1)))), some (.int (nI (zCl P 4 (i + 1)))), some (.int (nI (zCa P (i + 1)))), some (.int (nI i)), none, none, none, none, none, none, none, none, none, none, none] 1026 []) : rG p l e room_1 s m args below meth c D A 26 Q M k n [some (.ref (rSb D)), some (.ref (x)), some (.int (nI tm)), none, some (.int (nI nL)), none, some (.int (nI kx)), none, none, some (.long (zDig P nW nL)), none, some (.int (nI (zCl P 2 i))), some (.int (nI (zCl P 4 i))), some (.int (nI (zCa P i))), some (.int (nI i)), none, none, none, none, none, none, none, none, none, none, none] 580 [] := by
  have hO21 := cV_see hV
  have hlk := hO21.1.2.2 i hi
  have hn10 := hO21.1.2.1
  have hm4 := hlk.1
  refine rg_aload_n F (pc := 580) dL_law_580 rfl ?_
  refine rg_iload F (pc := 581) dL_law_581 rfl ?_
  refine rg_iconst F (pc := 583) (v := nI 0) dL_law_583 (by decide) ?_
  refine rg_callVi F (pc := 584) (As := [.int (nI i), .int (nI 0)]) (rest := []) (ci := 4) (c_told l D _ x P nW nL u i 0 hV (by omega) (by decide)) q412 vq_X3_told rfl hO21.2.1 rfl rfl (Nat.le_of_ble_eq_true rfl) (Nat.le_of_ble_eq_true rfl) (Nat.le_of_ble_eq_true rfl) ⟨by show _ ≤ 610524; omega, by show _ ≤ 7270126; omega⟩ dL_law_584 (fun r9 M9 hp => ?_)
  refine rg_widen (k2 := k) (n2 := n) (by omega) (by omega) ?_
  refine rg_top (v2 := .int (nI (zM P i))) (by first | (rw [hp.1]; done) | (rw [hp.1]; rfl)) ?_
  refine rg_mem (M2 := M) hp.2 ?_
  refine rg_istore F (pc := 587) (lv' := [some (.ref (rSb D)), some (.ref (x)), some (.int (nI tm)), none, some (.int (nI nL)), none, some (.int (nI kx)), none, none, some (.long (zDig P nW nL)), none, some (.int (nI (zCl P 2 i))), some (.int (nI (zCl P 4 i))), some (.int (nI (zCa P i))), some (.int (nI i)), some (.int (nI (zM P i))), none, none, none, none, none, none, none, none, none, none]) dL_law_587 (Nat.le_of_ble_eq_true rfl) rfl ?_
  refine rg_aload_n F (pc := 589) dL_law_589 rfl ?_
  refine rg_iload F (pc := 590) dL_law_590 rfl ?_
  refine rg_iconst F (pc := 592) (v := nI 1) dL_law_592 (by decide) ?_
  refine rg_callVi F (pc := 593) (As := [.int (nI i), .int (nI 1)]) (rest := []) (ci := 4) (c_told l D _ x P nW nL u i 1 hV (by omega) (by decide)) q412 vq_X3_told rfl hO21.2.1 rfl rfl (Nat.le_of_ble_eq_true rfl) (Nat.le_of_ble_eq_true rfl) (Nat.le_of_ble_eq_true rfl) ⟨by show _ ≤ 610524; omega, by show _ ≤ 7270126; omega⟩ dL_law_593 (fun r9 M9 hp => ?_)
  refine rg_widen (k2 := k) (n2 := n) (by omega) (by omega) ?_
  refine rg_top (v2 := .int (nI (zF P i))) (by first | (rw [hp.1]; done) | (rw [hp.1]; rfl)) ?_
  refine rg_mem (M2 := M) hp.2 ?_
  refine rg_iload F (pc := 596) dL_law_596 rfl ?_
  refine rg_iconst F (pc := 598) (v := nI 2) dL_law_598 (by decide) ?_
  refine rg_ncmp_ge F (pc := 599) (tgt := 606) dL_law_599 (by decide) (by omega) (by omega) (fun c599 => ?_) (fun c599 => ?_)
  · refine rg_iconst F (pc := 606) (v := nI 3) dL_law_606 (by decide) ?_
    refine rg_imul F (pc := 607) (v := nI (zRm P i)) dL_law_607 ((pk_mul _ _).trans (by unfold zRm rFoot; first | rw [if_pos (by omega), Nat.mul_comm] | rw [if_neg (by omega), Nat.mul_comm])) ?_
    refine rg_istore F (pc := 608) (lv' := [some (.ref (rSb D)), some (.ref (x)), some (.int (nI tm)), none, some (.int (nI nL)), none, some (.int (nI kx)), none, none, some (.long (zDig P nW nL)), none, some (.int (nI (zCl P 2 i))), some (.int (nI (zCl P 4 i))), some (.int (nI (zCa P i))), some (.int (nI i)), some (.int (nI (zM P i))), some (.int (nI (zRm P i))), none, none, none, none, none, none, none, none, none]) dL_law_608 (Nat.le_of_ble_eq_true rfl) rfl ?_
    refine rg_aload_n F (pc := 610) dL_law_610 rfl ?_
    refine rg_iload F (pc := 611) dL_law_611 rfl ?_
    refine rg_bipush F (pc := 613) (v := nI 6) dL_law_613 (by decide) ?_
    refine rg_callVi F (pc := 615) (As := [.int (nI i), .int (nI 6)]) (rest := []) (ci := 4) (c_told l D _ x P nW nL u i 6 hV (by omega) (by decide)) q412 vq_X3_told rfl hO21.2.1 rfl rfl (Nat.le_of_ble_eq_true rfl) (Nat.le_of_ble_eq_true rfl) (Nat.le_of_ble_eq_true rfl) ⟨by show _ ≤ 610524; omega, by show _ ≤ 7270126; omega⟩ dL_law_615 (fun r9 M9 hp => ?_)
    refine rg_widen (k2 := k) (n2 := n) (by omega) (by omega) ?_
    refine rg_top (v2 := .int (nI (zStay P i))) (by first | (rw [hp.1]; done) | (rw [hp.1]; rfl)) ?_
    refine rg_mem (M2 := M) hp.2 ?_
    refine rg_istore F (pc := 618) (lv' := [some (.ref (rSb D)), some (.ref (x)), some (.int (nI tm)), none, some (.int (nI nL)), none, some (.int (nI kx)), none, none, some (.long (zDig P nW nL)), none, some (.int (nI (zCl P 2 i))), some (.int (nI (zCl P 4 i))), some (.int (nI (zCa P i))), some (.int (nI i)), some (.int (nI (zM P i))), some (.int (nI (zRm P i))), some (.int (nI (zStay P i))), none, none, none, none, none, none, none, none]) dL_law_618 (Nat.le_of_ble_eq_true rfl) rfl ?_
    refine rg_aload_n F (pc := 620) dL_law_620 rfl ?_
    refine rg_iload F (pc := 621) dL_law_621 rfl ?_
    refine rg_bipush F (pc := 623) (v := nI 8) dL_law_623 (by decide) ?_
    refine rg_callVi F (pc := 625) (As := [.int (nI i), .int (nI 8)]) (rest := []) (ci := 4) (c_told l D _ x P nW nL u i 8 hV (by omega) (by decide)) q412 vq_X3_told rfl hO21.2.1 rfl rfl (Nat.le_of_ble_eq_true rfl) (Nat.le_of_ble_eq_true rfl) (Nat.le_of_ble_eq_true rfl) ⟨by show _ ≤ 610524; omega, by show _ ≤ 7270126; omega⟩ dL_law_625 (fun r9 M9 hp => ?_)
    refine rg_widen (k2 := k) (n2 := n) (by omega) (by omega) ?_
    refine rg_top (v2 := .int (nI (zOff P i))) (by first | (rw [hp.1]; done) | (rw [hp.1]; rfl)) ?_
    refine rg_mem (M2 := M) hp.2 ?_
    refine rg_istore F (pc := 628) (lv' := [some (.ref (rSb D)), some (.ref (x)), some (.int (nI tm)), none, some (.int (nI nL)), none, some (.int (nI kx)), none, none, some (.long (zDig P nW nL)), none, some (.int (nI (zCl P 2 i))), some (.int (nI (zCl P 4 i))), some (.int (nI (zCa P i))), some (.int (nI i)), some (.int (nI (zM P i))), some (.int (nI (zRm P i))), some (.int (nI (zStay P i))), some (.int (nI (zOff P i))), none, none, none, none, none, none, none]) dL_law_628 (Nat.le_of_ble_eq_true rfl) rfl ?_
    refine rg_iconst F (pc := 630) (v := nI 0) dL_law_630 (by decide) ?_
    refine rg_istore F (pc := 631) (lv' := [some (.ref (rSb D)), some (.ref (x)), some (.int (nI tm)), none, some (.int (nI nL)), none, some (.int (nI kx)), none, none, some (.long (zDig P nW nL)), none, some (.int (nI (zCl P 2 i))), some (.int (nI (zCl P 4 i))), some (.int (nI (zCa P i))), some (.int (nI i)), some (.int (nI (zM P i))), some (.int (nI (zRm P i))), some (.int (nI (zStay P i))), some (.int (nI (zOff P i))), some (.int (nI 0)), none, none, none, none, none, none]) dL_law_631 (Nat.le_of_ble_eq_true rfl) rfl ?_
    refine rg_iconst F (pc := 633) (v := nI 0) dL_law_633 (by decide) ?_
    refine rg_istore F (pc := 634) (lv' := [some (.ref (rSb D)), some (.ref (x)), some (.int (nI tm)), none, some (.int (nI nL)), none, some (.int (nI kx)), none, none, some (.long (zDig P nW nL)), none, some (.int (nI (zCl P 2 i))), some (.int (nI (zCl P 4 i))), some (.int (nI (zCa P i))), some (.int (nI i)), some (.int (nI (zM P i))), some (.int (nI (zRm P i))), some (.int (nI (zStay P i))), some (.int (nI (zOff P i))), some (.int (nI 0)), some (.int (nI 0)), none, none, none, none, none]) dL_law_634 (Nat.le_of_ble_eq_true rfl) rfl ?_
    refine rg_iload F (pc := 636) dL_law_636 rfl ?_
    refine rg_iload F (pc := 638) dL_law_638 rfl ?_
    refine rg_ncmp_eq F (pc := 640) (tgt := 652) dL_law_640 (by decide) (by omega) (by omega) (fun c640 => ?_) (fun c640 => ?_)
    · refine rg_iconst F (pc := 652) (v := nI 1) dL_law_652 (by decide) ?_
      refine rg_goto F (pc := 653) (tgt := 657) dL_law_653 (by decide) ?_
      refine rg_sub (lv' := [some (.ref (rSb D)), some (.ref (x)), some (.int (nI tm)), none, some (.int (nI nL)), none, some (.int (nI kx)), none, none, some (.long (zDig P nW nL)), none, some (.int (nI (zCl P 2 i))), some (.int (nI (zCl P 4 i))), some (.int (nI (zCa P i))), some (.int (nI i)), some (.int (nI (zM P i))), some (.int (nI (zRm P i))), some (.int (nI (zStay P i))), some (.int (nI (zOff P i))), some (.int (nI 0)), some (.int (nI 0)), none, none, none, none, none]) (by repeat' constructor) ?_
      exact L_I1 F hV h1W h1L hi hk hn KK
    · refine rg_iload F (pc := 643) dL_law_643 rfl ?_
      refine rg_iload F (pc := 645) dL_law_645 rfl ?_
      refine rg_iconst F (pc := 647) (v := nI 1) dL_law_647 (by decide) ?_
      refine rg_isub F (pc := 648) (v := nI (nL - 1)) dL_law_648 (pk_sub (by omega)) ?_
      refine rg_ncmp_ne F (pc := 649) (tgt := 656) dL_law_649 (by decide) (by omega) (by omega) (fun c649 => ?_) (fun c649 => ?_)
      · refine rg_iconst F (pc := 656) (v := nI 0) dL_law_656 (by decide) ?_
        refine rg_sub (lv' := [some (.ref (rSb D)), some (.ref (x)), some (.int (nI tm)), none, some (.int (nI nL)), none, some (.int (nI kx)), none, none, some (.long (zDig P nW nL)), none, some (.int (nI (zCl P 2 i))), some (.int (nI (zCl P 4 i))), some (.int (nI (zCa P i))), some (.int (nI i)), some (.int (nI (zM P i))), some (.int (nI (zRm P i))), some (.int (nI (zStay P i))), some (.int (nI (zOff P i))), some (.int (nI 0)), some (.int (nI 0)), none, none, none, none, none]) (by repeat' constructor) ?_
        exact L_I0 F hV h1W h1L hi hk hn KK
      · refine rg_iconst F (pc := 652) (v := nI 1) dL_law_652 (by decide) ?_
        refine rg_goto F (pc := 653) (tgt := 657) dL_law_653 (by decide) ?_
        refine rg_sub (lv' := [some (.ref (rSb D)), some (.ref (x)), some (.int (nI tm)), none, some (.int (nI nL)), none, some (.int (nI kx)), none, none, some (.long (zDig P nW nL)), none, some (.int (nI (zCl P 2 i))), some (.int (nI (zCl P 4 i))), some (.int (nI (zCa P i))), some (.int (nI i)), some (.int (nI (zM P i))), some (.int (nI (zRm P i))), some (.int (nI (zStay P i))), some (.int (nI (zOff P i))), some (.int (nI 0)), some (.int (nI 0)), none, none, none, none, none]) (by repeat' constructor) ?_
        exact L_I1 F hV h1W h1L hi hk hn KK
  · refine rg_iconst F (pc := 602) (v := nI 2) dL_law_602 (by decide) ?_
    refine rg_goto F (pc := 603) (tgt := 607) dL_law_603 (by decide) ?_
    refine rg_imul F (pc := 607) (v := nI (zRm P i)) dL_law_607 ((pk_mul _ _).trans (by unfold zRm rFoot; first | rw [if_pos (by omega), Nat.mul_comm] | rw [if_neg (by omega), Nat.mul_comm])) ?_
    refine rg_istore F (pc := 608) (lv' := [some (.ref (rSb D)), some (.ref (x)), some (.int (nI tm)), none, some (.int (nI nL)), none, some (.int (nI kx)), none, none, some (.long (zDig P nW nL)), none, some (.int (nI (zCl P 2 i))), some (.int (nI (zCl P 4 i))), some (.int (nI (zCa P i))), some (.int (nI i)), some (.int (nI (zM P i))), some (.int (nI (zRm P i))), none, none, none, none, none, none, none, none, none]) dL_law_608 (Nat.le_of_ble_eq_true rfl) rfl ?_
    refine rg_aload_n F (pc := 610) dL_law_610 rfl ?_
    refine rg_iload F (pc := 611) dL_law_611 rfl ?_
    refine rg_bipush F (pc := 613) (v := nI 6) dL_law_613 (by decide) ?_
    refine rg_callVi F (pc := 615) (As := [.int (nI i), .int (nI 6)]) (rest := []) (ci := 4) (c_told l D _ x P nW nL u i 6 hV (by omega) (by decide)) q412 vq_X3_told rfl hO21.2.1 rfl rfl (Nat.le_of_ble_eq_true rfl) (Nat.le_of_ble_eq_true rfl) (Nat.le_of_ble_eq_true rfl) ⟨by show _ ≤ 610524; omega, by show _ ≤ 7270126; omega⟩ dL_law_615 (fun r9 M9 hp => ?_)
    refine rg_widen (k2 := k) (n2 := n) (by omega) (by omega) ?_
    refine rg_top (v2 := .int (nI (zStay P i))) (by first | (rw [hp.1]; done) | (rw [hp.1]; rfl)) ?_
    refine rg_mem (M2 := M) hp.2 ?_
    refine rg_istore F (pc := 618) (lv' := [some (.ref (rSb D)), some (.ref (x)), some (.int (nI tm)), none, some (.int (nI nL)), none, some (.int (nI kx)), none, none, some (.long (zDig P nW nL)), none, some (.int (nI (zCl P 2 i))), some (.int (nI (zCl P 4 i))), some (.int (nI (zCa P i))), some (.int (nI i)), some (.int (nI (zM P i))), some (.int (nI (zRm P i))), some (.int (nI (zStay P i))), none, none, none, none, none, none, none, none]) dL_law_618 (Nat.le_of_ble_eq_true rfl) rfl ?_
    refine rg_aload_n F (pc := 620) dL_law_620 rfl ?_
    refine rg_iload F (pc := 621) dL_law_621 rfl ?_
    refine rg_bipush F (pc := 623) (v := nI 8) dL_law_623 (by decide) ?_
    refine rg_callVi F (pc := 625) (As := [.int (nI i), .int (nI 8)]) (rest := []) (ci := 4) (c_told l D _ x P nW nL u i 8 hV (by omega) (by decide)) q412 vq_X3_told rfl hO21.2.1 rfl rfl (Nat.le_of_ble_eq_true rfl) (Nat.le_of_ble_eq_true rfl) (Nat.le_of_ble_eq_true rfl) ⟨by show _ ≤ 610524; omega, by show _ ≤ 7270126; omega⟩ dL_law_625 (fun r9 M9 hp => ?_)
    refine rg_widen (k2 := k) (n2 := n) (by omega) (by omega) ?_
    refine rg_top (v2 := .int (nI (zOff P i))) (by first | (rw [hp.1]; done) | (rw [hp.1]; rfl)) ?_
    refine rg_mem (M2 := M) hp.2 ?_
    refine rg_istore F (pc := 628) (lv' := [some (.ref (rSb D)), some (.ref (x)), some (.int (nI tm)), none, some (.int (nI nL)), none, some (.int (nI kx)), none, none, some (.long (zDig P nW nL)), none, some (.int (nI (zCl P 2 i))), some (.int (nI (zCl P 4 i))), some (.int (nI (zCa P i))), some (.int (nI i)), some (.int (nI (zM P i))), some (.int (nI (zRm P i))), some (.int (nI (zStay P i))), some (.int (nI (zOff P i))), none, none, none, none, none, none, none]) dL_law_628 (Nat.le_of_ble_eq_true rfl) rfl ?_
    refine rg_iconst F (pc := 630) (v := nI 0) dL_law_630 (by decide) ?_
    refine rg_istore F (pc := 631) (lv' := [some (.ref (rSb D)), some (.ref (x)), some (.int (nI tm)), none, some (.int (nI nL)), none, some (.int (nI kx)), none, none, some (.long (zDig P nW nL)), none, some (.int (nI (zCl P 2 i))), some (.int (nI (zCl P 4 i))), some (.int (nI (zCa P i))), some (.int (nI i)), some (.int (nI (zM P i))), some (.int (nI (zRm P i))), some (.int (nI (zStay P i))), some (.int (nI (zOff P i))), some (.int (nI 0)), none, none, none, none, none, none]) dL_law_631 (Nat.le_of_ble_eq_true rfl) rfl ?_
    refine rg_iconst F (pc := 633) (v := nI 0) dL_law_633 (by decide) ?_
    refine rg_istore F (pc := 634) (lv' := [some (.ref (rSb D)), some (.ref (x)), some (.int (nI tm)), none, some (.int (nI nL)), none, some (.int (nI kx)), none, none, some (.long (zDig P nW nL)), none, some (.int (nI (zCl P 2 i))), some (.int (nI (zCl P 4 i))), some (.int (nI (zCa P i))), some (.int (nI i)), some (.int (nI (zM P i))), some (.int (nI (zRm P i))), some (.int (nI (zStay P i))), some (.int (nI (zOff P i))), some (.int (nI 0)), some (.int (nI 0)), none, none, none, none, none]) dL_law_634 (Nat.le_of_ble_eq_true rfl) rfl ?_
    refine rg_iload F (pc := 636) dL_law_636 rfl ?_
    refine rg_iload F (pc := 638) dL_law_638 rfl ?_
    refine rg_ncmp_eq F (pc := 640) (tgt := 652) dL_law_640 (by decide) (by omega) (by omega) (fun c640 => ?_) (fun c640 => ?_)
    · refine rg_iconst F (pc := 652) (v := nI 1) dL_law_652 (by decide) ?_
      refine rg_goto F (pc := 653) (tgt := 657) dL_law_653 (by decide) ?_
      refine rg_sub (lv' := [some (.ref (rSb D)), some (.ref (x)), some (.int (nI tm)), none, some (.int (nI nL)), none, some (.int (nI kx)), none, none, some (.long (zDig P nW nL)), none, some (.int (nI (zCl P 2 i))), some (.int (nI (zCl P 4 i))), some (.int (nI (zCa P i))), some (.int (nI i)), some (.int (nI (zM P i))), some (.int (nI (zRm P i))), some (.int (nI (zStay P i))), some (.int (nI (zOff P i))), some (.int (nI 0)), some (.int (nI 0)), none, none, none, none, none]) (by repeat' constructor) ?_
      exact L_I1 F hV h1W h1L hi hk hn KK
    · refine rg_iload F (pc := 643) dL_law_643 rfl ?_
      refine rg_iload F (pc := 645) dL_law_645 rfl ?_
      refine rg_iconst F (pc := 647) (v := nI 1) dL_law_647 (by decide) ?_
      refine rg_isub F (pc := 648) (v := nI (nL - 1)) dL_law_648 (pk_sub (by omega)) ?_
      refine rg_ncmp_ne F (pc := 649) (tgt := 656) dL_law_649 (by decide) (by omega) (by omega) (fun c649 => ?_) (fun c649 => ?_)
      · refine rg_iconst F (pc := 656) (v := nI 0) dL_law_656 (by decide) ?_
        refine rg_sub (lv' := [some (.ref (rSb D)), some (.ref (x)), some (.int (nI tm)), none, some (.int (nI nL)), none, some (.int (nI kx)), none, none, some (.long (zDig P nW nL)), none, some (.int (nI (zCl P 2 i))), some (.int (nI (zCl P 4 i))), some (.int (nI (zCa P i))), some (.int (nI i)), some (.int (nI (zM P i))), some (.int (nI (zRm P i))), some (.int (nI (zStay P i))), some (.int (nI (zOff P i))), some (.int (nI 0)), some (.int (nI 0)), none, none, none, none, none]) (by repeat' constructor) ?_
        exact L_I0 F hV h1W h1L hi hk hn KK
      · refine rg_iconst F (pc := 652) (v := nI 1) dL_law_652 (by decide) ?_
        refine rg_goto F (pc := 653) (tgt := 657) dL_law_653 (by decide) ?_
        refine rg_sub (lv' := [some (.ref (rSb D)), some (.ref (x)), some (.int (nI tm)), none, some (.int (nI nL)), none, some (.int (nI kx)), none, none, some (.long (zDig P nW nL)), none, some (.int (nI (zCl P 2 i))), some (.int (nI (zCl P 4 i))), some (.int (nI (zCa P i))), some (.int (nI i)), some (.int (nI (zM P i))), some (.int (nI (zRm P i))), some (.int (nI (zStay P i))), some (.int (nI (zOff P i))), some (.int (nI 0)), some (.int (nI 0)), none, none, none, none, none]) (by repeat' constructor) ?_
        exact L_I1 F hV h1W h1L hi hk hn KK
set_option maxHeartbeats 4000000 in
set_option maxRecDepth 100000 in
theorem L_B (F : rF p l e room_1 s m args below meth c cL_law 26 RL D A) {tm kx : Nat} (ht : tm < 24) (hkx : kx < 10) {x : Nat} {P : Poem} {nW nL : Nat} {u : Nat → Nat → Nat} (hV : cV D M x P nW nL u) (h1W : 1 ≤ nW) (h1L : 1 ≤ nL) (hk : k ≤ 610524) (hn : n ≤ 7270126) (KK : ∀ M' : rMem, cV D M' x P nW nL u → rG p l e room_1 s m args below meth c D A 26 Q M' k n [some (.ref (rSb D)), some (.ref (x)), some (.int (nI tm)), none, none, none, none, none, none, none, none, none, none, none, none, none, none, none, none, none, none, none, none, none, none, none] 1166 []) : rG p l e room_1 s m args below meth c D A 26 Q M k n [some (.ref (rSb D)), some (.ref (x)), some (.int (nI tm)), none, none, none, some (.int (nI kx)), none, none, none, none, none, none, none, none, none, none, none, none, none, none, none, none, none, none, none] 541 [] := by
  have hO22 := cV_see hV
  have hn10 := hO22.1.2.1
  refine rg_aload_n F (pc := 541) dL_law_541 rfl ?_
  refine rg_callVl F (pc := 542) (As := []) (rest := []) (ci := 4) (c_digest l D _ x P nW nL u hV) q420 vq_X3_digest rfl hO22.2.1 rfl rfl (Nat.le_of_ble_eq_true rfl) (Nat.le_of_ble_eq_true rfl) (Nat.le_of_ble_eq_true rfl) ⟨by show _ ≤ 610524; omega, by show _ ≤ 7270126; omega⟩ dL_law_542 (fun r9 M9 hp => ?_)
  refine rg_widen (k2 := k) (n2 := n) (by omega) (by omega) ?_
  refine rg_top (v2 := .long (zDig P nW nL)) (by first | (rw [hp.1]; done) | (rw [hp.1]; rfl)) ?_
  refine rg_mem (M2 := M) hp.2 ?_
  refine rg_lstore F (pc := 545) (lv' := [some (.ref (rSb D)), some (.ref (x)), some (.int (nI tm)), none, none, none, some (.int (nI kx)), none, none, some (.long (zDig P nW nL)), none, none, none, none, none, none, none, none, none, none, none, none, none, none, none, none]) dL_law_545 (Nat.le_of_ble_eq_true rfl) rfl ?_
  refine rg_aload_n F (pc := 547) dL_law_547 rfl ?_
  refine rg_iconst F (pc := 548) (v := nI 1) dL_law_548 (by decide) ?_
  refine rg_callVi F (pc := 549) (As := [.int (nI 1)]) (rest := []) (ci := 4) (c_count l D _ x P nW nL u 1 hV (by decide)) q409 vq_X3_count rfl hO22.2.1 rfl rfl (Nat.le_of_ble_eq_true rfl) (Nat.le_of_ble_eq_true rfl) (Nat.le_of_ble_eq_true rfl) ⟨by show _ ≤ 610524; omega, by show _ ≤ 7270126; omega⟩ dL_law_549 (fun r9 M9 hp => ?_)
  refine rg_widen (k2 := k) (n2 := n) (by omega) (by omega) ?_
  refine rg_top (v2 := .int (nI nL)) (by first | (rw [hp.1]; done) | (rw [hp.1]; rfl)) ?_
  refine rg_mem (M2 := M) hp.2 ?_
  refine rg_istore F (pc := 552) (lv' := [some (.ref (rSb D)), some (.ref (x)), some (.int (nI tm)), none, some (.int (nI nL)), none, some (.int (nI kx)), none, none, some (.long (zDig P nW nL)), none, none, none, none, none, none, none, none, none, none, none, none, none, none, none, none]) dL_law_552 (Nat.le_of_ble_eq_true rfl) rfl ?_
  refine rg_aload_n F (pc := 554) dL_law_554 rfl ?_
  refine rg_iconst F (pc := 555) (v := nI 0) dL_law_555 (by decide) ?_
  refine rg_callVi F (pc := 556) (As := [.int (nI 0)]) (rest := []) (ci := 4) (c_count l D _ x P nW nL u 0 hV (by decide)) q409 vq_X3_count rfl hO22.2.1 rfl rfl (Nat.le_of_ble_eq_true rfl) (Nat.le_of_ble_eq_true rfl) (Nat.le_of_ble_eq_true rfl) ⟨by show _ ≤ 610524; omega, by show _ ≤ 7270126; omega⟩ dL_law_556 (fun r9 M9 hp => ?_)
  refine rg_widen (k2 := k) (n2 := n) (by omega) (by omega) ?_
  refine rg_top (v2 := .int (nI nW)) (by first | (rw [hp.1]; done) | (rw [hp.1]; rfl)) ?_
  refine rg_mem (M2 := M) hp.2 ?_
  refine rg_istore F (pc := 559) (lv' := [some (.ref (rSb D)), some (.ref (x)), some (.int (nI tm)), none, some (.int (nI nL)), some (.int (nI nW)), some (.int (nI kx)), none, none, some (.long (zDig P nW nL)), none, none, none, none, none, none, none, none, none, none, none, none, none, none, none, none]) dL_law_559 (Nat.le_of_ble_eq_true rfl) rfl ?_
  refine rg_iconst F (pc := 561) (v := nI 0) dL_law_561 (by decide) ?_
  refine rg_istore F (pc := 562) (lv' := [some (.ref (rSb D)), some (.ref (x)), some (.int (nI tm)), none, some (.int (nI nL)), some (.int (nI nW)), some (.int (nI kx)), none, none, some (.long (zDig P nW nL)), none, some (.int (nI 0)), none, none, none, none, none, none, none, none, none, none, none, none, none, none]) dL_law_562 (Nat.le_of_ble_eq_true rfl) rfl ?_
  refine rg_iconst F (pc := 564) (v := nI 0) dL_law_564 (by decide) ?_
  refine rg_istore F (pc := 565) (lv' := [some (.ref (rSb D)), some (.ref (x)), some (.int (nI tm)), none, some (.int (nI nL)), some (.int (nI nW)), some (.int (nI kx)), none, none, some (.long (zDig P nW nL)), none, some (.int (nI 0)), some (.int (nI 0)), none, none, none, none, none, none, none, none, none, none, none, none, none]) dL_law_565 (Nat.le_of_ble_eq_true rfl) rfl ?_
  refine rg_iconst F (pc := 567) (v := nI 0) dL_law_567 (by decide) ?_
  refine rg_istore F (pc := 568) (lv' := [some (.ref (rSb D)), some (.ref (x)), some (.int (nI tm)), none, some (.int (nI nL)), some (.int (nI nW)), some (.int (nI kx)), none, none, some (.long (zDig P nW nL)), none, some (.int (nI 0)), some (.int (nI 0)), some (.int (nI 0)), none, none, none, none, none, none, none, none, none, none, none, none]) dL_law_568 (Nat.le_of_ble_eq_true rfl) rfl ?_
  refine rg_iconst F (pc := 570) (v := nI 0) dL_law_570 (by decide) ?_
  refine rg_istore F (pc := 571) (lv' := [some (.ref (rSb D)), some (.ref (x)), some (.int (nI tm)), none, some (.int (nI nL)), some (.int (nI nW)), some (.int (nI kx)), none, none, some (.long (zDig P nW nL)), none, some (.int (nI 0)), some (.int (nI 0)), some (.int (nI 0)), some (.int (nI 0)), none, none, none, none, none, none, none, none, none, none, none]) dL_law_571 (Nat.le_of_ble_eq_true rfl) rfl ?_
  refine rg_sub (lv' := [some (.ref (rSb D)), some (.ref (x)), some (.int (nI tm)), none, some (.int (nI nL)), none, some (.int (nI kx)), none, none, some (.long (zDig P nW nL)), none, some (.int (nI 0)), some (.int (nI 0)), some (.int (nI 0)), some (.int (nI 0)), none, none, none, none, none, none, none, none, none, none, none]) (by repeat' constructor) ?_
  refine rg_eq (lv2 := [some (.ref (rSb D)), some (.ref (x)), some (.int (nI tm)), none, some (.int (nI nL)), none, some (.int (nI kx)), none, none, some (.long (zDig P nW nL)), none, some (.int (nI (zCl P 2 0))), some (.int (nI (zCl P 4 0))), some (.int (nI (zCa P 0))), some (.int (nI 0)), none, none, none, none, none, none, none, none, none, none, none]) (st2 := []) (pc2 := 573) rfl rfl rfl ?_
  suffices L0 : ∀ (d9 : Nat) (i : Nat), nL - i < d9 → (i ≤ nL) → rG p l e room_1 s m args below meth c D A 26 Q M k n [some (.ref (rSb D)), some (.ref (x)), some (.int (nI tm)), none, some (.int (nI nL)), none, some (.int (nI kx)), none, none, some (.long (zDig P nW nL)), none, some (.int (nI (zCl P 2 i))), some (.int (nI (zCl P 4 i))), some (.int (nI (zCa P i))), some (.int (nI i)), none, none, none, none, none, none, none, none, none, none, none] 573 [] from L0 _ 0 (Nat.lt_succ_self _) (Nat.zero_le _)
  intro d9
  induction d9 with
  | zero => intro i hd9; exact absurd hd9 (Nat.not_lt_zero _)
  | succ d9 ih =>
    intro i hd9 hi
    refine rg_iload F (pc := 573) dL_law_573 rfl ?_
    refine rg_iload F (pc := 575) dL_law_575 rfl ?_
    refine rg_ncmp_ge F (pc := 577) (tgt := 1032) dL_law_577 (by decide) (by omega) (by omega) (fun c577 => ?_) (fun c577 => ?_)
    · have e9 : nL = i := by omega
      subst e9
      refine rg_sub (lv' := [some (.ref (rSb D)), some (.ref (x)), some (.int (nI tm)), none, some (.int (nI nL)), none, none, none, none, some (.long (zDig P nW nL)), none, some (.int (nI (zCl P 2 nL))), some (.int (nI (zCl P 4 nL))), some (.int (nI (zCa P nL))), none, none, none, none, none, none, none, none, none, none, none, none]) (by repeat' constructor) ?_
      exact L_W F ht hV h1W h1L hk hn KK
    · have K1026 : rG p l e room_1 s m args below meth c D A 26 Q M k n [some (.ref (rSb D)), some (.ref (x)), some (.int (nI tm)), none, some (.int (nI nL)), none, some (.int (nI kx)), none, none, some (.long (zDig P nW nL)), none, some (.int (nI (zCl P 2 (i + 1)))), some (.int (nI (zCl P 4 (i + 1)))), some (.int (nI (zCa P (i + 1)))), some (.int (nI i)), none, none, none, none, none, none, none, none, none, none, none] 1026 [] := by
        refine rg_iinc F (pc := 1026) (v := nI (i + 1)) (lv' := [some (.ref (rSb D)), some (.ref (x)), some (.int (nI tm)), none, some (.int (nI nL)), none, some (.int (nI kx)), none, none, some (.long (zDig P nW nL)), none, some (.int (nI (zCl P 2 (i + 1)))), some (.int (nI (zCl P 4 (i + 1)))), some (.int (nI (zCa P (i + 1)))), some (.int (nI (i + 1))), none, none, none, none, none, none, none, none, none, none, none]) dL_law_1026 rfl (nI_add _ 1) (Nat.le_of_ble_eq_true rfl) rfl ?_
        refine rg_goto F (pc := 1029) (tgt := 573) dL_law_1029 (by decide) ?_
        exact ih (i + 1) (by omega) (by omega)
      exact L_H F hkx hV h1W h1L (by omega) hk hn K1026
end LAW
