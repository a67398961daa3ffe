section LAW
variable {p : Program} {l : Launch} {e : Env} {s : State} {m : MethodId} {args : Array Value} {below : List Frame} {meth : Method} {c : Code} {D : va_G} {A : Nat → Prop} {Q : State → Prop} {M : rMem} {k n : Nat}
set_option maxHeartbeats 4000000 in
set_option maxRecDepth 100000 in
theorem L_T0 (F : rF p l e room_1 s m args below meth c cL_law 26 RL D A) {tm kx : Nat} {x : Nat} {P : Poem} {nW nL : Nat} {u : Nat → Nat → Nat} (hV : cV D M x P nW nL u) (h1W : 1 ≤ nW) (h1L : 1 ≤ nL) {i : Nat} (hi : i < nL) {sa sb : Nat} (hsa : sa ≤ 18) (hk : k ≤ 610524) (hn : n ≤ 7270126) (KK : rG p l e room_1 s m args below meth c D A 26 Q M k n [some (.ref (rSb D)), some (.ref (x)), some (.int (nI tm)), none, some (.int (nI nL)), none, some (.int (nI kx)), none, none, some (.long (zDig P nW nL)), none, some (.int (nI (zCl P 2 (i + 1)))), some (.int (nI (zCl P 4 (i + 1)))), some (.int (nI (zCa P (i + 1)))), some (.int (nI i)), none, none, none, none, none, none, none, none, none, none, none] 1026 []) : rG p l e room_1 s m args below meth c D A 26 Q M k n [some (.ref (rSb D)), some (.ref (x)), some (.int (nI tm)), none, some (.int (nI nL)), none, some (.int (nI kx)), none, none, some (.long (zDig P nW nL)), none, some (.int (nI (zCl P 2 i))), some (.int (nI (zCl P 4 i))), some (.int (nI (zCa P i))), some (.int (nI i)), none, some (.int (nI (zRm P i))), some (.int (nI (zStay P i))), some (.int (nI (zOff P i))), some (.int (nI sa)), some (.int (nI sb)), some (.int (nI 0)), none, none, none, none] 798 [] := by
  have hO17 := cV_see hV
  have hlk := hO17.1.2.2 i hi
  have hn10 := hO17.1.2.1
  have hpd := zPaid_le P i
  have hpp := pop_le 18 (zBits P i)
  have hof : zOff P i ≤ 18 := pop_le 18 _
  have hrm := (zRm_le hlk).1
  have hsr : zStay P i ≤ zRm P i := Nat.min_le_right _ _
  have hla : zLack P i ≤ 18 := by unfold zLack; omega
  have hco : zo P i ≤ 400 := zTold_le hO17.1 hi 4
  have hcc : zCa P i ≤ 400 := zTold_le hO17.1 hi 5
  have hcv : zOv P i ≤ 400 := zTold_le hO17.1 hi 7
  have hcx : zTax P i ≤ 400 := zTold_le hO17.1 hi 11
  have hcf : zF P i ≤ 400 := zTold_le hO17.1 hi 1
  have hc8 := hlk.2.2.2.2.1
  have hsc := (zScn_le (nL := nL) hlk 3).2
  have hl2 := zCl_le hO17.1 2 i (by omega)
  have hl4 := zCl_le hO17.1 4 i (by omega)
  refine rg_aload_n F (pc := 798) dL_law_798 rfl ?_
  refine rg_iload F (pc := 799) dL_law_799 rfl ?_
  refine rg_bipush F (pc := 801) (v := nI 10) dL_law_801 (by decide) ?_
  refine rg_callVi F (pc := 803) (As := [.int (nI i), .int (nI 10)]) (rest := []) (ci := 4) (c_told l D _ x P nW nL u i 10 hV (by omega) (by decide)) q412 vq_X3_told rfl hO17.2.1 rfl rfl (Nat.le_of_ble_eq_true rfl) (Nat.le_of_ble_eq_true rfl) (Nat.le_of_ble_eq_true rfl) ⟨by show _ ≤ 610524; omega, by show _ ≤ 7270126; omega⟩ dL_law_803 (fun r9 M9 hp => ?_)
  refine rg_widen (k2 := k) (n2 := n) (by omega) (by omega) ?_
  refine rg_top (v2 := .int (nI (zPaid P i))) (by first | (rw [hp.1]; done) | (rw [hp.1]; rfl)) ?_
  refine rg_mem (M2 := M) hp.2 ?_
  refine rg_istore F (pc := 806) (lv' := [some (.ref (rSb D)), some (.ref (x)), some (.int (nI tm)), none, some (.int (nI nL)), none, some (.int (nI kx)), none, none, some (.long (zDig P nW nL)), none, some (.int (nI (zCl P 2 i))), some (.int (nI (zCl P 4 i))), some (.int (nI (zCa P i))), some (.int (nI i)), none, some (.int (nI (zRm P i))), some (.int (nI (zStay P i))), some (.int (nI (zOff P i))), some (.int (nI sa)), some (.int (nI sb)), some (.int (nI 0)), some (.int (nI (zPaid P i))), none, none, none]) dL_law_806 (Nat.le_of_ble_eq_true rfl) rfl ?_
  refine rg_iconst F (pc := 808) (v := nI 0) dL_law_808 (by decide) ?_
  refine rg_iconst F (pc := 809) (v := nI 2) dL_law_809 (by decide) ?_
  refine rg_iload F (pc := 810) dL_law_810 rfl ?_
  refine rg_imul F (pc := 812) (v := nI (2 * sa)) dL_law_812 (pk_mul _ _) ?_
  refine rg_iconst F (pc := 813) (v := nI 3) dL_law_813 (by decide) ?_
  refine rg_iload F (pc := 814) dL_law_814 rfl ?_
  refine rg_imul F (pc := 816) (v := nI (3 * (zOff P i))) dL_law_816 (pk_mul _ _) ?_
  refine rg_iadd F (pc := 817) (v := nI ((2 * sa) + (3 * (zOff P i)))) dL_law_817 (nI_add _ _) ?_
  refine rg_iconst F (pc := 818) (v := nI 5) dL_law_818 (by decide) ?_
  refine rg_aload_n F (pc := 819) dL_law_819 rfl ?_
  refine rg_iload F (pc := 820) dL_law_820 rfl ?_
  refine rg_bipush F (pc := 822) (v := nI 9) dL_law_822 (by decide) ?_
  refine rg_callVi F (pc := 824) (As := [.int (nI i), .int (nI 9)]) (rest := [.int (nI 5), .int (nI ((2 * sa) + (3 * (zOff P i)))), .int (nI 0)]) (ci := 4) (c_told l D _ x P nW nL u i 9 hV (by omega) (by decide)) q412 vq_X3_told rfl hO17.2.1 rfl rfl (Nat.le_of_ble_eq_true rfl) (Nat.le_of_ble_eq_true rfl) (Nat.le_of_ble_eq_true rfl) ⟨by show _ ≤ 610524; omega, by show _ ≤ 7270126; omega⟩ dL_law_824 (fun r9 M9 hp => ?_)
  refine rg_widen (k2 := k) (n2 := n) (by omega) (by omega) ?_
  refine rg_top (v2 := .int (nI (zLack P i))) (by first | (rw [hp.1]; done) | (rw [hp.1]; rfl)) ?_
  refine rg_mem (M2 := M) hp.2 ?_
  refine rg_imul F (pc := 827) (v := nI (5 * (zLack P i))) dL_law_827 (pk_mul _ _) ?_
  refine rg_iadd F (pc := 828) (v := nI (((2 * sa) + (3 * (zOff P i))) + (5 * (zLack P i)))) dL_law_828 (nI_add _ _) ?_
  refine rg_iconst F (pc := 829) (v := nI 4) dL_law_829 (by decide) ?_
  refine rg_iload F (pc := 830) dL_law_830 rfl ?_
  refine rg_imul F (pc := 832) (v := nI (4 * (zPaid P i))) dL_law_832 (pk_mul _ _) ?_
  refine rg_isub F (pc := 833) (v := (nI (((2 * sa) + (3 * (zOff P i))) + (5 * (zLack P i)))) - (nI (4 * (zPaid P i)))) dL_law_833 rfl ?_
  refine rg_max F (pc := 834) (v := nI (2 * sa + 3 * zOff P i + 5 * zLack P i - 4 * zPaid P i)) q416 q64 q65 q66 (Nat.le_of_ble_eq_true rfl) (Nat.le_of_ble_eq_true rfl) ⟨by show _ ≤ 610524; omega, by show _ ≤ 7270126; omega⟩ (rn_max0 _ _ (by omega) (by omega)) dL_law_834 ?_
  refine rg_istore F (pc := 837) (lv' := [some (.ref (rSb D)), some (.ref (x)), some (.int (nI tm)), none, some (.int (nI nL)), none, some (.int (nI kx)), none, none, some (.long (zDig P nW nL)), none, some (.int (nI (zCl P 2 i))), some (.int (nI (zCl P 4 i))), some (.int (nI (zCa P i))), some (.int (nI i)), none, some (.int (nI (zRm P i))), some (.int (nI (zStay P i))), some (.int (nI (zOff P i))), some (.int (nI sa)), some (.int (nI sb)), some (.int (nI 0)), some (.int (nI (zPaid P i))), some (.int (nI (2 * sa + 3 * zOff P i + 5 * zLack P i - 4 * zPaid P i))), none, none]) dL_law_837 (Nat.le_of_ble_eq_true rfl) rfl ?_
  refine rg_iload F (pc := 839) dL_law_839 rfl ?_
  refine rg_iload F (pc := 841) dL_law_841 rfl ?_
  refine rg_iload F (pc := 843) dL_law_843 rfl ?_
  refine rg_aload_n F (pc := 845) dL_law_845 rfl ?_
  refine rg_iload F (pc := 846) dL_law_846 rfl ?_
  refine rg_iconst F (pc := 848) (v := nI 4) dL_law_848 (by decide) ?_
  refine rg_callVi F (pc := 849) (As := [.int (nI i), .int (nI 4)]) (rest := [.int (nI (zCa P i)), .int (nI (zRm P i)), .int (nI (zStay P i))]) (ci := 4) (c_told l D _ x P nW nL u i 4 hV (by omega) (by decide)) q412 vq_X3_told rfl hO17.2.1 rfl rfl (Nat.le_of_ble_eq_true rfl) (Nat.le_of_ble_eq_true rfl) (Nat.le_of_ble_eq_true rfl) ⟨by show _ ≤ 610524; omega, by show _ ≤ 7270126; omega⟩ dL_law_849 (fun r9 M9 hp => ?_)
  refine rg_widen (k2 := k) (n2 := n) (by omega) (by omega) ?_
  refine rg_top (v2 := .int (nI (zo P i))) (by first | (rw [hp.1]; done) | (rw [hp.1]; rfl)) ?_
  refine rg_mem (M2 := M) hp.2 ?_
  refine rg_iadd F (pc := 852) (v := nI ((zCa P i) + (zo P i))) dL_law_852 (nI_add _ _) ?_
  refine rg_min F (pc := 853) (v := nI (zStay P i)) q417 q87 q65 q88 (Nat.le_of_ble_eq_true rfl) (Nat.le_of_ble_eq_true rfl) ⟨by show _ ≤ 610524; omega, by show _ ≤ 7270126; omega⟩ ((rn_min _ _ (by omega) (by omega)).trans (by rw [Nat.min_comm]; rfl)) dL_law_853 ?_
  refine rg_ncmp_ne F (pc := 856) (tgt := 969) dL_law_856 (by decide) (by omega) (by omega) (fun c856 => by exfalso; omega) (fun c856 => ?_)
  refine rg_iload F (pc := 859) dL_law_859 rfl ?_
  refine rg_nif_eq F (pc := 861) (tgt := 871) dL_law_861 (by decide) (by omega) (fun c861 => ?_) (fun c861 => by exfalso; omega)
  refine rg_aload_n F (pc := 871) dL_law_871 rfl ?_
  refine rg_iload F (pc := 872) dL_law_872 rfl ?_
  refine rg_bipush F (pc := 874) (v := nI 9) dL_law_874 (by decide) ?_
  refine rg_callVi F (pc := 876) (As := [.int (nI i), .int (nI 9)]) (rest := []) (ci := 4) (c_told l D _ x P nW nL u i 9 hV (by omega) (by decide)) q412 vq_X3_told rfl hO17.2.1 rfl rfl (Nat.le_of_ble_eq_true rfl) (Nat.le_of_ble_eq_true rfl) (Nat.le_of_ble_eq_true rfl) ⟨by show _ ≤ 610524; omega, by show _ ≤ 7270126; omega⟩ dL_law_876 (fun r9 M9 hp => ?_)
  refine rg_widen (k2 := k) (n2 := n) (by omega) (by omega) ?_
  refine rg_top (v2 := .int (nI (zLack P i))) (by first | (rw [hp.1]; done) | (rw [hp.1]; rfl)) ?_
  refine rg_mem (M2 := M) hp.2 ?_
  refine rg_iload F (pc := 879) dL_law_879 rfl ?_
  refine rg_iload F (pc := 881) dL_law_881 rfl ?_
  refine rg_isub F (pc := 883) (v := nI ((zRm P i) - (zStay P i))) dL_law_883 (pk_sub (by omega)) ?_
  refine rg_top (v2 := .int (nI (zLack P i))) (rfl) ?_
  refine rg_ncmp_ne F (pc := 884) (tgt := 969) dL_law_884 (by decide) (by omega) (by omega) (fun c884 => by exfalso; omega) (fun c884 => ?_)
  refine rg_aload_n F (pc := 887) dL_law_887 rfl ?_
  refine rg_iload F (pc := 888) dL_law_888 rfl ?_
  refine rg_iconst F (pc := 890) (v := nI 5) dL_law_890 (by decide) ?_
  refine rg_callVi F (pc := 891) (As := [.int (nI i), .int (nI 5)]) (rest := []) (ci := 4) (c_told l D _ x P nW nL u i 5 hV (by omega) (by decide)) q412 vq_X3_told rfl hO17.2.1 rfl rfl (Nat.le_of_ble_eq_true rfl) (Nat.le_of_ble_eq_true rfl) (Nat.le_of_ble_eq_true rfl) ⟨by show _ ≤ 610524; omega, by show _ ≤ 7270126; omega⟩ dL_law_891 (fun r9 M9 hp => ?_)
  refine rg_widen (k2 := k) (n2 := n) (by omega) (by omega) ?_
  refine rg_top (v2 := .int (nI (zCa P i))) (by first | (rw [hp.1]; done) | (rw [hp.1]; rfl)) ?_
  refine rg_mem (M2 := M) hp.2 ?_
  refine rg_iload F (pc := 894) dL_law_894 rfl ?_
  refine rg_ncmp_ne F (pc := 896) (tgt := 969) dL_law_896 (by decide) (by omega) (by omega) (fun c896 => by exfalso; omega) (fun c896 => ?_)
  refine rg_iload F (pc := 899) dL_law_899 rfl ?_
  refine rg_if_lt F (pc := 901) (tgt := 969) dL_law_901 (by decide) (fun c9 => absurd c9 (nI_pos (by omega))) (fun _ => ?_)
  refine rg_iload F (pc := 904) dL_law_904 rfl ?_
  refine rg_iconst F (pc := 906) (v := nI 3) dL_law_906 (by decide) ?_
  refine rg_ncmp_gt F (pc := 907) (tgt := 969) dL_law_907 (by decide) (by omega) (by omega) (fun c907 => by exfalso; omega) (fun c907 => ?_)
  refine rg_iload F (pc := 910) dL_law_910 rfl ?_
  refine rg_nif_ne F (pc := 912) (tgt := 925) dL_law_912 (by decide) (by omega) (fun c912 => by exfalso; omega) (fun c912 => ?_)
  refine rg_aload_n F (pc := 915) dL_law_915 rfl ?_
  refine rg_iload F (pc := 916) dL_law_916 rfl ?_
  refine rg_iconst F (pc := 918) (v := nI 3) dL_law_918 (by decide) ?_
  refine rg_callVi F (pc := 919) (As := [.int (nI i), .int (nI 3)]) (rest := []) (ci := 4) (c_told l D _ x P nW nL u i 3 hV (by omega) (by decide)) q412 vq_X3_told rfl hO17.2.1 rfl rfl (Nat.le_of_ble_eq_true rfl) (Nat.le_of_ble_eq_true rfl) (Nat.le_of_ble_eq_true rfl) ⟨by show _ ≤ 610524; omega, by show _ ≤ 7270126; omega⟩ dL_law_919 (fun r9 M9 hp => ?_)
  refine rg_widen (k2 := k) (n2 := n) (by omega) (by omega) ?_
  refine rg_top (v2 := .int (nI (zC P i))) (by first | (rw [hp.1]; done) | (rw [hp.1]; rfl)) ?_
  refine rg_mem (M2 := M) hp.2 ?_
  refine rg_nif_ne F (pc := 922) (tgt := 958) dL_law_922 (by decide) (by omega) (fun c922 => ?_) (fun c922 => ?_)
  · refine rg_aload_n F (pc := 958) dL_law_958 rfl ?_
    refine rg_iload F (pc := 959) dL_law_959 rfl ?_
    refine rg_bipush F (pc := 961) (v := nI 11) dL_law_961 (by decide) ?_
    refine rg_callVi F (pc := 963) (As := [.int (nI i), .int (nI 11)]) (rest := []) (ci := 4) (c_told l D _ x P nW nL u i 11 hV (by omega) (by decide)) q412 vq_X3_told rfl hO17.2.1 rfl rfl (Nat.le_of_ble_eq_true rfl) (Nat.le_of_ble_eq_true rfl) (Nat.le_of_ble_eq_true rfl) ⟨by show _ ≤ 610524; omega, by show _ ≤ 7270126; omega⟩ dL_law_963 (fun r9 M9 hp => ?_)
    refine rg_widen (k2 := k) (n2 := n) (by omega) (by omega) ?_
    refine rg_top (v2 := .int (nI (zTax P i))) (by first | (rw [hp.1]; done) | (rw [hp.1]; rfl)) ?_
    refine rg_mem (M2 := M) hp.2 ?_
    refine rg_if_ge F (pc := 966) (tgt := 971) dL_law_966 (by decide) (fun _ => ?_) (fun c9 => absurd (nI_pos' (by omega)) c9)
    refine rg_aload_n F (pc := 971) dL_law_971 rfl ?_
    refine rg_iload F (pc := 972) dL_law_972 rfl ?_
    refine rg_bipush F (pc := 974) (v := nI 7) dL_law_974 (by decide) ?_
    refine rg_callVi F (pc := 976) (As := [.int (nI i), .int (nI 7)]) (rest := []) (ci := 4) (c_told l D _ x P nW nL u i 7 hV (by omega) (by decide)) q412 vq_X3_told rfl hO17.2.1 rfl rfl (Nat.le_of_ble_eq_true rfl) (Nat.le_of_ble_eq_true rfl) (Nat.le_of_ble_eq_true rfl) ⟨by show _ ≤ 610524; omega, by show _ ≤ 7270126; omega⟩ dL_law_976 (fun r9 M9 hp => ?_)
    refine rg_widen (k2 := k) (n2 := n) (by omega) (by omega) ?_
    refine rg_top (v2 := .int (nI (zCa P (i + 1)))) (by rw [hp.1, zCa_succ]; rfl) ?_
    refine rg_mem (M2 := M) hp.2 ?_
    refine rg_istore F (pc := 979) (lv' := [some (.ref (rSb D)), some (.ref (x)), some (.int (nI tm)), none, some (.int (nI nL)), none, some (.int (nI kx)), none, none, some (.long (zDig P nW nL)), none, some (.int (nI (zCl P 2 i))), some (.int (nI (zCl P 4 i))), some (.int (nI (zCa P (i + 1)))), some (.int (nI i)), none, some (.int (nI (zRm P i))), some (.int (nI (zStay P i))), some (.int (nI (zOff P i))), some (.int (nI sa)), some (.int (nI sb)), some (.int (nI 0)), some (.int (nI (zPaid P i))), some (.int (nI (2 * sa + 3 * zOff P i + 5 * zLack P i - 4 * zPaid P i))), none, none]) dL_law_979 (Nat.le_of_ble_eq_true rfl) rfl ?_
    refine rg_iload F (pc := 981) dL_law_981 rfl ?_
    refine rg_iload F (pc := 983) dL_law_983 rfl ?_
    refine rg_iadd F (pc := 985) (v := nI (zCl P 4 (i + 1))) dL_law_985 (nI_add _ _) ?_
    refine rg_istore F (pc := 986) (lv' := [some (.ref (rSb D)), some (.ref (x)), some (.int (nI tm)), none, some (.int (nI nL)), none, some (.int (nI kx)), none, none, some (.long (zDig P nW nL)), none, some (.int (nI (zCl P 2 i))), some (.int (nI (zCl P 4 (i + 1)))), some (.int (nI (zCa P (i + 1)))), some (.int (nI i)), none, some (.int (nI (zRm P i))), some (.int (nI (zStay P i))), some (.int (nI (zOff P i))), some (.int (nI sa)), some (.int (nI sb)), some (.int (nI 0)), some (.int (nI (zPaid P i))), some (.int (nI (2 * sa + 3 * zOff P i + 5 * zLack P i - 4 * zPaid P i))), none, none]) dL_law_986 (Nat.le_of_ble_eq_true rfl) rfl ?_
    refine rg_iload F (pc := 988) dL_law_988 rfl ?_
    refine rg_aload_n F (pc := 990) dL_law_990 rfl ?_
    refine rg_iload F (pc := 991) dL_law_991 rfl ?_
    refine rg_iconst F (pc := 993) (v := nI 3) dL_law_993 (by decide) ?_
    refine rg_callVi F (pc := 994) (As := [.int (nI i), .int (nI 3)]) (rest := [.int (nI (zCl P 2 i))]) (ci := 4) (c_told l D _ x P nW nL u i 3 hV (by omega) (by decide)) q412 vq_X3_told rfl hO17.2.1 rfl rfl (Nat.le_of_ble_eq_true rfl) (Nat.le_of_ble_eq_true rfl) (Nat.le_of_ble_eq_true rfl) ⟨by show _ ≤ 610524; omega, by show _ ≤ 7270126; omega⟩ dL_law_994 (fun r9 M9 hp => ?_)
    refine rg_widen (k2 := k) (n2 := n) (by omega) (by omega) ?_
    refine rg_top (v2 := .int (nI (zC P i))) (by first | (rw [hp.1]; done) | (rw [hp.1]; rfl)) ?_
    refine rg_mem (M2 := M) hp.2 ?_
    refine rg_iadd F (pc := 997) (v := nI (zCl P 2 (i + 1))) dL_law_997 (nI_add _ _) ?_
    refine rg_istore F (pc := 998) (lv' := [some (.ref (rSb D)), some (.ref (x)), some (.int (nI tm)), none, some (.int (nI nL)), none, some (.int (nI kx)), none, none, some (.long (zDig P nW nL)), none, some (.int (nI (zCl P 2 (i + 1)))), some (.int (nI (zCl P 4 (i + 1)))), some (.int (nI (zCa P (i + 1)))), some (.int (nI i)), none, some (.int (nI (zRm P i))), some (.int (nI (zStay P i))), some (.int (nI (zOff P i))), some (.int (nI sa)), some (.int (nI sb)), some (.int (nI 0)), some (.int (nI (zPaid P i))), some (.int (nI (2 * sa + 3 * zOff P i + 5 * zLack P i - 4 * zPaid P i))), none, none]) dL_law_998 (Nat.le_of_ble_eq_true rfl) rfl ?_
    refine rg_iload F (pc := 1000) dL_law_1000 rfl ?_
    refine rg_nif_eq F (pc := 1002) (tgt := 1026) dL_law_1002 (by decide) (by omega) (fun c1002 => ?_) (fun c1002 => by exfalso; omega)
    refine rg_sub (lv' := [some (.ref (rSb D)), some (.ref (x)), some (.int (nI tm)), none, some (.int (nI nL)), none, some (.int (nI kx)), none, none, some (.long (zDig P nW nL)), none, some (.int (nI (zCl P 2 (i + 1)))), some (.int (nI (zCl P 4 (i + 1)))), some (.int (nI (zCa P (i + 1)))), some (.int (nI i)), none, none, none, none, none, none, none, none, none, none, none]) (by repeat' constructor) ?_
    exact KK
  · refine rg_aload_n F (pc := 925) dL_law_925 rfl ?_
    refine rg_iload F (pc := 926) dL_law_926 rfl ?_
    refine rg_bipush F (pc := 928) (v := nI 11) dL_law_928 (by decide) ?_
    refine rg_callVi F (pc := 930) (As := [.int (nI i), .int (nI 11)]) (rest := []) (ci := 4) (c_told l D _ x P nW nL u i 11 hV (by omega) (by decide)) q412 vq_X3_told rfl hO17.2.1 rfl rfl (Nat.le_of_ble_eq_true rfl) (Nat.le_of_ble_eq_true rfl) (Nat.le_of_ble_eq_true rfl) ⟨by show _ ≤ 610524; omega, by show _ ≤ 7270126; omega⟩ dL_law_930 (fun r9 M9 hp => ?_)
    refine rg_widen (k2 := k) (n2 := n) (by omega) (by omega) ?_
    refine rg_top (v2 := .int (nI (zTax P i))) (by first | (rw [hp.1]; done) | (rw [hp.1]; rfl)) ?_
    refine rg_mem (M2 := M) hp.2 ?_
    refine rg_aload_n F (pc := 933) dL_law_933 rfl ?_
    refine rg_iload F (pc := 934) dL_law_934 rfl ?_
    refine rg_iconst F (pc := 936) (v := nI 3) dL_law_936 (by decide) ?_
    refine rg_callVi F (pc := 937) (As := [.int (nI i), .int (nI 3)]) (rest := [.int (nI (zTax P i))]) (ci := 4) (c_told l D _ x P nW nL u i 3 hV (by omega) (by decide)) q412 vq_X3_told rfl hO17.2.1 rfl rfl (Nat.le_of_ble_eq_true rfl) (Nat.le_of_ble_eq_true rfl) (Nat.le_of_ble_eq_true rfl) ⟨by show _ ≤ 610524; omega, by show _ ≤ 7270126; omega⟩ dL_law_937 (fun r9 M9 hp => ?_)
    refine rg_widen (k2 := k) (n2 := n) (by omega) (by omega) ?_
    refine rg_top (v2 := .int (nI (zC P i))) (by first | (rw [hp.1]; done) | (rw [hp.1]; rfl)) ?_
    refine rg_mem (M2 := M) hp.2 ?_
    refine rg_nif_ne F (pc := 940) (tgt := 953) dL_law_940 (by decide) (by omega) (fun c940 => by exfalso; omega) (fun c940 => ?_)
    refine rg_aload_n F (pc := 943) dL_law_943 rfl ?_
    refine rg_iload F (pc := 944) dL_law_944 rfl ?_
    refine rg_iconst F (pc := 946) (v := nI 1) dL_law_946 (by decide) ?_
    refine rg_callVi F (pc := 947) (As := [.int (nI i), .int (nI 1)]) (rest := [.int (nI (zTax P i))]) (ci := 4) (c_told l D _ x P nW nL u i 1 hV (by omega) (by decide)) q412 vq_X3_told rfl hO17.2.1 rfl rfl (Nat.le_of_ble_eq_true rfl) (Nat.le_of_ble_eq_true rfl) (Nat.le_of_ble_eq_true rfl) ⟨by show _ ≤ 610524; omega, by show _ ≤ 7270126; omega⟩ dL_law_947 (fun r9 M9 hp => ?_)
    refine rg_widen (k2 := k) (n2 := n) (by omega) (by omega) ?_
    refine rg_top (v2 := .int (nI (zF P i))) (by first | (rw [hp.1]; done) | (rw [hp.1]; rfl)) ?_
    refine rg_mem (M2 := M) hp.2 ?_
    refine rg_goto F (pc := 950) (tgt := 955) dL_law_950 (by decide) ?_
    have htx : zTax P i = zF P i := by unfold zTax; rw [if_pos (by omega)]
    refine rg_ncmp_ne F (pc := 955) (tgt := 969) dL_law_955 (by decide) (by omega) (by omega) (fun c955 => by exfalso; omega) (fun c955 => ?_)
    refine rg_aload_n F (pc := 958) dL_law_958 rfl ?_
    refine rg_iload F (pc := 959) dL_law_959 rfl ?_
    refine rg_bipush F (pc := 961) (v := nI 11) dL_law_961 (by decide) ?_
    refine rg_callVi F (pc := 963) (As := [.int (nI i), .int (nI 11)]) (rest := []) (ci := 4) (c_told l D _ x P nW nL u i 11 hV (by omega) (by decide)) q412 vq_X3_told rfl hO17.2.1 rfl rfl (Nat.le_of_ble_eq_true rfl) (Nat.le_of_ble_eq_true rfl) (Nat.le_of_ble_eq_true rfl) ⟨by show _ ≤ 610524; omega, by show _ ≤ 7270126; omega⟩ dL_law_963 (fun r9 M9 hp => ?_)
    refine rg_widen (k2 := k) (n2 := n) (by omega) (by omega) ?_
    refine rg_top (v2 := .int (nI (zTax P i))) (by first | (rw [hp.1]; done) | (rw [hp.1]; rfl)) ?_
    refine rg_mem (M2 := M) hp.2 ?_
    refine rg_if_ge F (pc := 966) (tgt := 971) dL_law_966 (by decide) (fun _ => ?_) (fun c9 => absurd (nI_pos' (by omega)) c9)
    refine rg_aload_n F (pc := 971) dL_law_971 rfl ?_
    refine rg_iload F (pc := 972) dL_law_972 rfl ?_
    refine rg_bipush F (pc := 974) (v := nI 7) dL_law_974 (by decide) ?_
    refine rg_callVi F (pc := 976) (As := [.int (nI i), .int (nI 7)]) (rest := []) (ci := 4) (c_told l D _ x P nW nL u i 7 hV (by omega) (by decide)) q412 vq_X3_told rfl hO17.2.1 rfl rfl (Nat.le_of_ble_eq_true rfl) (Nat.le_of_ble_eq_true rfl) (Nat.le_of_ble_eq_true rfl) ⟨by show _ ≤ 610524; omega, by show _ ≤ 7270126; omega⟩ dL_law_976 (fun r9 M9 hp => ?_)
    refine rg_widen (k2 := k) (n2 := n) (by omega) (by omega) ?_
    refine rg_top (v2 := .int (nI (zCa P (i + 1)))) (by rw [hp.1, zCa_succ]; rfl) ?_
    refine rg_mem (M2 := M) hp.2 ?_
    refine rg_istore F (pc := 979) (lv' := [some (.ref (rSb D)), some (.ref (x)), some (.int (nI tm)), none, some (.int (nI nL)), none, some (.int (nI kx)), none, none, some (.long (zDig P nW nL)), none, some (.int (nI (zCl P 2 i))), some (.int (nI (zCl P 4 i))), some (.int (nI (zCa P (i + 1)))), some (.int (nI i)), none, some (.int (nI (zRm P i))), some (.int (nI (zStay P i))), some (.int (nI (zOff P i))), some (.int (nI sa)), some (.int (nI sb)), some (.int (nI 0)), some (.int (nI (zPaid P i))), some (.int (nI (2 * sa + 3 * zOff P i + 5 * zLack P i - 4 * zPaid P i))), none, none]) dL_law_979 (Nat.le_of_ble_eq_true rfl) rfl ?_
    refine rg_iload F (pc := 981) dL_law_981 rfl ?_
    refine rg_iload F (pc := 983) dL_law_983 rfl ?_
    refine rg_iadd F (pc := 985) (v := nI (zCl P 4 (i + 1))) dL_law_985 (nI_add _ _) ?_
    refine rg_istore F (pc := 986) (lv' := [some (.ref (rSb D)), some (.ref (x)), some (.int (nI tm)), none, some (.int (nI nL)), none, some (.int (nI kx)), none, none, some (.long (zDig P nW nL)), none, some (.int (nI (zCl P 2 i))), some (.int (nI (zCl P 4 (i + 1)))), some (.int (nI (zCa P (i + 1)))), some (.int (nI i)), none, some (.int (nI (zRm P i))), some (.int (nI (zStay P i))), some (.int (nI (zOff P i))), some (.int (nI sa)), some (.int (nI sb)), some (.int (nI 0)), some (.int (nI (zPaid P i))), some (.int (nI (2 * sa + 3 * zOff P i + 5 * zLack P i - 4 * zPaid P i))), none, none]) dL_law_986 (Nat.le_of_ble_eq_true rfl) rfl ?_
    refine rg_iload F (pc := 988) dL_law_988 rfl ?_
    refine rg_aload_n F (pc := 990) dL_law_990 rfl ?_
    refine rg_iload F (pc := 991) dL_law_991 rfl ?_
    refine rg_iconst F (pc := 993) (v := nI 3) dL_law_993 (by decide) ?_
    refine rg_callVi F (pc := 994) (As := [.int (nI i), .int (nI 3)]) (rest := [.int (nI (zCl P 2 i))]) (ci := 4) (c_told l D _ x P nW nL u i 3 hV (by omega) (by decide)) q412 vq_X3_told rfl hO17.2.1 rfl rfl (Nat.le_of_ble_eq_true rfl) (Nat.le_of_ble_eq_true rfl) (Nat.le_of_ble_eq_true rfl) ⟨by show _ ≤ 610524; omega, by show _ ≤ 7270126; omega⟩ dL_law_994 (fun r9 M9 hp => ?_)
    refine rg_widen (k2 := k) (n2 := n) (by omega) (by omega) ?_
    refine rg_top (v2 := .int (nI (zC P i))) (by first | (rw [hp.1]; done) | (rw [hp.1]; rfl)) ?_
    refine rg_mem (M2 := M) hp.2 ?_
    refine rg_iadd F (pc := 997) (v := nI (zCl P 2 (i + 1))) dL_law_997 (nI_add _ _) ?_
    refine rg_istore F (pc := 998) (lv' := [some (.ref (rSb D)), some (.ref (x)), some (.int (nI tm)), none, some (.int (nI nL)), none, some (.int (nI kx)), none, none, some (.long (zDig P nW nL)), none, some (.int (nI (zCl P 2 (i + 1)))), some (.int (nI (zCl P 4 (i + 1)))), some (.int (nI (zCa P (i + 1)))), some (.int (nI i)), none, some (.int (nI (zRm P i))), some (.int (nI (zStay P i))), some (.int (nI (zOff P i))), some (.int (nI sa)), some (.int (nI sb)), some (.int (nI 0)), some (.int (nI (zPaid P i))), some (.int (nI (2 * sa + 3 * zOff P i + 5 * zLack P i - 4 * zPaid P i))), none, none]) dL_law_998 (Nat.le_of_ble_eq_true rfl) rfl ?_
    refine rg_iload F (pc := 1000) dL_law_1000 rfl ?_
    refine rg_nif_eq F (pc := 1002) (tgt := 1026) dL_law_1002 (by decide) (by omega) (fun c1002 => ?_) (fun c1002 => by exfalso; omega)
    refine rg_sub (lv' := [some (.ref (rSb D)), some (.ref (x)), some (.int (nI tm)), none, some (.int (nI nL)), none, some (.int (nI kx)), none, none, some (.long (zDig P nW nL)), none, some (.int (nI (zCl P 2 (i + 1)))), some (.int (nI (zCl P 4 (i + 1)))), some (.int (nI (zCa P (i + 1)))), some (.int (nI i)), none, none, none, none, none, none, none, none, none, none, none]) (by repeat' constructor) ?_
    exact KK
set_option maxHeartbeats 4000000 in
set_option maxRecDepth 100000 in
theorem L_T1 (F : rF p l e room_1 s m args below meth c cL_law 26 RL D A) {tm kx : Nat} {x : Nat} {P : Poem} {nW nL : Nat} {u : Nat → Nat → Nat} (hV : cV D M x P nW nL u) (h1W : 1 ≤ nW) (h1L : 1 ≤ nL) {i : Nat} (hi : i < nL) (hk : k ≤ 610524) (hn : n ≤ 7270126) (KK : rG p l e room_1 s m args below meth c D A 26 Q M k n [some (.ref (rSb D)), some (.ref (x)), some (.int (nI tm)), none, some (.int (nI nL)), none, some (.int (nI kx)), none, none, some (.long (zDig P nW nL)), none, some (.int (nI (zCl P 2 (i + 1)))), some (.int (nI (zCl P 4 (i + 1)))), some (.int (nI (zCa P (i + 1)))), some (.int (nI i)), none, none, none, none, none, none, none, none, none, none, none] 1026 []) : rG p l e room_1 s m args below meth c D A 26 Q M k n [some (.ref (rSb D)), some (.ref (x)), some (.int (nI tm)), none, some (.int (nI nL)), none, some (.int (nI kx)), none, none, some (.long (zDig P nW nL)), none, some (.int (nI (zCl P 2 i))), some (.int (nI (zCl P 4 i))), some (.int (nI (zCa P i))), some (.int (nI i)), none, some (.int (nI (zRm P i))), some (.int (nI (zStay P i))), some (.int (nI (zOff P i))), some (.int (nI (pop 18 (zBits P i)))), some (.int (nI (zOff P i))), some (.int (nI 1)), none, none, none, none] 798 [] := by
  have hO18 := cV_see hV
  have hlk := hO18.1.2.2 i hi
  have hn10 := hO18.1.2.1
  have hpd := zPaid_le P i
  have hpp := pop_le 18 (zBits P i)
  have hof : zOff P i ≤ 18 := pop_le 18 _
  have hrm := (zRm_le hlk).1
  have hsr : zStay P i ≤ zRm P i := Nat.min_le_right _ _
  have hla : zLack P i ≤ 18 := by unfold zLack; omega
  have hco : zo P i ≤ 400 := zTold_le hO18.1 hi 4
  have hcc : zCa P i ≤ 400 := zTold_le hO18.1 hi 5
  have hcv : zOv P i ≤ 400 := zTold_le hO18.1 hi 7
  have hcx : zTax P i ≤ 400 := zTold_le hO18.1 hi 11
  have hcf : zF P i ≤ 400 := zTold_le hO18.1 hi 1
  have hc8 := hlk.2.2.2.2.1
  have hsc := (zScn_le (nL := nL) hlk 3).2
  have hl2 := zCl_le hO18.1 2 i (by omega)
  have hl4 := zCl_le hO18.1 4 i (by omega)
  refine rg_aload_n F (pc := 798) dL_law_798 rfl ?_
  refine rg_iload F (pc := 799) dL_law_799 rfl ?_
  refine rg_bipush F (pc := 801) (v := nI 10) dL_law_801 (by decide) ?_
  refine rg_callVi F (pc := 803) (As := [.int (nI i), .int (nI 10)]) (rest := []) (ci := 4) (c_told l D _ x P nW nL u i 10 hV (by omega) (by decide)) q412 vq_X3_told rfl hO18.2.1 rfl rfl (Nat.le_of_ble_eq_true rfl) (Nat.le_of_ble_eq_true rfl) (Nat.le_of_ble_eq_true rfl) ⟨by show _ ≤ 610524; omega, by show _ ≤ 7270126; omega⟩ dL_law_803 (fun r9 M9 hp => ?_)
  refine rg_widen (k2 := k) (n2 := n) (by omega) (by omega) ?_
  refine rg_top (v2 := .int (nI (zPaid P i))) (by first | (rw [hp.1]; done) | (rw [hp.1]; rfl)) ?_
  refine rg_mem (M2 := M) hp.2 ?_
  refine rg_istore F (pc := 806) (lv' := [some (.ref (rSb D)), some (.ref (x)), some (.int (nI tm)), none, some (.int (nI nL)), none, some (.int (nI kx)), none, none, some (.long (zDig P nW nL)), none, some (.int (nI (zCl P 2 i))), some (.int (nI (zCl P 4 i))), some (.int (nI (zCa P i))), some (.int (nI i)), none, some (.int (nI (zRm P i))), some (.int (nI (zStay P i))), some (.int (nI (zOff P i))), some (.int (nI (pop 18 (zBits P i)))), some (.int (nI (zOff P i))), some (.int (nI 1)), some (.int (nI (zPaid P i))), none, none, none]) dL_law_806 (Nat.le_of_ble_eq_true rfl) rfl ?_
  refine rg_iconst F (pc := 808) (v := nI 0) dL_law_808 (by decide) ?_
  refine rg_iconst F (pc := 809) (v := nI 2) dL_law_809 (by decide) ?_
  refine rg_iload F (pc := 810) dL_law_810 rfl ?_
  refine rg_imul F (pc := 812) (v := nI (2 * (pop 18 (zBits P i)))) dL_law_812 (pk_mul _ _) ?_
  refine rg_iconst F (pc := 813) (v := nI 3) dL_law_813 (by decide) ?_
  refine rg_iload F (pc := 814) dL_law_814 rfl ?_
  refine rg_imul F (pc := 816) (v := nI (3 * (zOff P i))) dL_law_816 (pk_mul _ _) ?_
  refine rg_iadd F (pc := 817) (v := nI ((2 * (pop 18 (zBits P i))) + (3 * (zOff P i)))) dL_law_817 (nI_add _ _) ?_
  refine rg_iconst F (pc := 818) (v := nI 5) dL_law_818 (by decide) ?_
  refine rg_aload_n F (pc := 819) dL_law_819 rfl ?_
  refine rg_iload F (pc := 820) dL_law_820 rfl ?_
  refine rg_bipush F (pc := 822) (v := nI 9) dL_law_822 (by decide) ?_
  refine rg_callVi F (pc := 824) (As := [.int (nI i), .int (nI 9)]) (rest := [.int (nI 5), .int (nI ((2 * (pop 18 (zBits P i))) + (3 * (zOff P i)))), .int (nI 0)]) (ci := 4) (c_told l D _ x P nW nL u i 9 hV (by omega) (by decide)) q412 vq_X3_told rfl hO18.2.1 rfl rfl (Nat.le_of_ble_eq_true rfl) (Nat.le_of_ble_eq_true rfl) (Nat.le_of_ble_eq_true rfl) ⟨by show _ ≤ 610524; omega, by show _ ≤ 7270126; omega⟩ dL_law_824 (fun r9 M9 hp => ?_)
  refine rg_widen (k2 := k) (n2 := n) (by omega) (by omega) ?_
  refine rg_top (v2 := .int (nI (zLack P i))) (by first | (rw [hp.1]; done) | (rw [hp.1]; rfl)) ?_
  refine rg_mem (M2 := M) hp.2 ?_
  refine rg_imul F (pc := 827) (v := nI (5 * (zLack P i))) dL_law_827 (pk_mul _ _) ?_
  refine rg_iadd F (pc := 828) (v := nI (((2 * (pop 18 (zBits P i))) + (3 * (zOff P i))) + (5 * (zLack P i)))) dL_law_828 (nI_add _ _) ?_
  refine rg_iconst F (pc := 829) (v := nI 4) dL_law_829 (by decide) ?_
  refine rg_iload F (pc := 830) dL_law_830 rfl ?_
  refine rg_imul F (pc := 832) (v := nI (4 * (zPaid P i))) dL_law_832 (pk_mul _ _) ?_
  refine rg_isub F (pc := 833) (v := (nI (((2 * (pop 18 (zBits P i))) + (3 * (zOff P i))) + (5 * (zLack P i)))) - (nI (4 * (zPaid P i)))) dL_law_833 rfl ?_
  refine rg_max F (pc := 834) (v := nI (2 * pop 18 (zBits P i) + 3 * zOff P i + 5 * zLack P i - 4 * zPaid P i)) q416 q64 q65 q66 (Nat.le_of_ble_eq_true rfl) (Nat.le_of_ble_eq_true rfl) ⟨by show _ ≤ 610524; omega, by show _ ≤ 7270126; omega⟩ (rn_max0 _ _ (by omega) (by omega)) dL_law_834 ?_
  refine rg_istore F (pc := 837) (lv' := [some (.ref (rSb D)), some (.ref (x)), some (.int (nI tm)), none, some (.int (nI nL)), none, some (.int (nI kx)), none, none, some (.long (zDig P nW nL)), none, some (.int (nI (zCl P 2 i))), some (.int (nI (zCl P 4 i))), some (.int (nI (zCa P i))), some (.int (nI i)), none, some (.int (nI (zRm P i))), some (.int (nI (zStay P i))), some (.int (nI (zOff P i))), some (.int (nI (pop 18 (zBits P i)))), some (.int (nI (zOff P i))), some (.int (nI 1)), some (.int (nI (zPaid P i))), some (.int (nI (2 * pop 18 (zBits P i) + 3 * zOff P i + 5 * zLack P i - 4 * zPaid P i))), none, none]) dL_law_837 (Nat.le_of_ble_eq_true rfl) rfl ?_
  refine rg_iload F (pc := 839) dL_law_839 rfl ?_
  refine rg_iload F (pc := 841) dL_law_841 rfl ?_
  refine rg_iload F (pc := 843) dL_law_843 rfl ?_
  refine rg_aload_n F (pc := 845) dL_law_845 rfl ?_
  refine rg_iload F (pc := 846) dL_law_846 rfl ?_
  refine rg_iconst F (pc := 848) (v := nI 4) dL_law_848 (by decide) ?_
  refine rg_callVi F (pc := 849) (As := [.int (nI i), .int (nI 4)]) (rest := [.int (nI (zCa P i)), .int (nI (zRm P i)), .int (nI (zStay P i))]) (ci := 4) (c_told l D _ x P nW nL u i 4 hV (by omega) (by decide)) q412 vq_X3_told rfl hO18.2.1 rfl rfl (Nat.le_of_ble_eq_true rfl) (Nat.le_of_ble_eq_true rfl) (Nat.le_of_ble_eq_true rfl) ⟨by show _ ≤ 610524; omega, by show _ ≤ 7270126; omega⟩ dL_law_849 (fun r9 M9 hp => ?_)
  refine rg_widen (k2 := k) (n2 := n) (by omega) (by omega) ?_
  refine rg_top (v2 := .int (nI (zo P i))) (by first | (rw [hp.1]; done) | (rw [hp.1]; rfl)) ?_
  refine rg_mem (M2 := M) hp.2 ?_
  refine rg_iadd F (pc := 852) (v := nI ((zCa P i) + (zo P i))) dL_law_852 (nI_add _ _) ?_
  refine rg_min F (pc := 853) (v := nI (zStay P i)) q417 q87 q65 q88 (Nat.le_of_ble_eq_true rfl) (Nat.le_of_ble_eq_true rfl) ⟨by show _ ≤ 610524; omega, by show _ ≤ 7270126; omega⟩ ((rn_min _ _ (by omega) (by omega)).trans (by rw [Nat.min_comm]; rfl)) dL_law_853 ?_
  refine rg_ncmp_ne F (pc := 856) (tgt := 969) dL_law_856 (by decide) (by omega) (by omega) (fun c856 => by exfalso; omega) (fun c856 => ?_)
  refine rg_iload F (pc := 859) dL_law_859 rfl ?_
  refine rg_nif_eq F (pc := 861) (tgt := 871) dL_law_861 (by decide) (by omega) (fun c861 => by exfalso; omega) (fun c861 => ?_)
  refine rg_iload F (pc := 864) dL_law_864 rfl ?_
  refine rg_iload F (pc := 866) dL_law_866 rfl ?_
  refine rg_ncmp_ne F (pc := 868) (tgt := 969) dL_law_868 (by decide) (by omega) (by omega) (fun c868 => by exfalso; omega) (fun c868 => ?_)
  refine rg_aload_n F (pc := 871) dL_law_871 rfl ?_
  refine rg_iload F (pc := 872) dL_law_872 rfl ?_
  refine rg_bipush F (pc := 874) (v := nI 9) dL_law_874 (by decide) ?_
  refine rg_callVi F (pc := 876) (As := [.int (nI i), .int (nI 9)]) (rest := []) (ci := 4) (c_told l D _ x P nW nL u i 9 hV (by omega) (by decide)) q412 vq_X3_told rfl hO18.2.1 rfl rfl (Nat.le_of_ble_eq_true rfl) (Nat.le_of_ble_eq_true rfl) (Nat.le_of_ble_eq_true rfl) ⟨by show _ ≤ 610524; omega, by show _ ≤ 7270126; omega⟩ dL_law_876 (fun r9 M9 hp => ?_)
  refine rg_widen (k2 := k) (n2 := n) (by omega) (by omega) ?_
  refine rg_top (v2 := .int (nI (zLack P i))) (by first | (rw [hp.1]; done) | (rw [hp.1]; rfl)) ?_
  refine rg_mem (M2 := M) hp.2 ?_
  refine rg_iload F (pc := 879) dL_law_879 rfl ?_
  refine rg_iload F (pc := 881) dL_law_881 rfl ?_
  refine rg_isub F (pc := 883) (v := nI ((zRm P i) - (zStay P i))) dL_law_883 (pk_sub (by omega)) ?_
  refine rg_top (v2 := .int (nI (zLack P i))) (rfl) ?_
  refine rg_ncmp_ne F (pc := 884) (tgt := 969) dL_law_884 (by decide) (by omega) (by omega) (fun c884 => by exfalso; omega) (fun c884 => ?_)
  refine rg_aload_n F (pc := 887) dL_law_887 rfl ?_
  refine rg_iload F (pc := 888) dL_law_888 rfl ?_
  refine rg_iconst F (pc := 890) (v := nI 5) dL_law_890 (by decide) ?_
  refine rg_callVi F (pc := 891) (As := [.int (nI i), .int (nI 5)]) (rest := []) (ci := 4) (c_told l D _ x P nW nL u i 5 hV (by omega) (by decide)) q412 vq_X3_told rfl hO18.2.1 rfl rfl (Nat.le_of_ble_eq_true rfl) (Nat.le_of_ble_eq_true rfl) (Nat.le_of_ble_eq_true rfl) ⟨by show _ ≤ 610524; omega, by show _ ≤ 7270126; omega⟩ dL_law_891 (fun r9 M9 hp => ?_)
  refine rg_widen (k2 := k) (n2 := n) (by omega) (by omega) ?_
  refine rg_top (v2 := .int (nI (zCa P i))) (by first | (rw [hp.1]; done) | (rw [hp.1]; rfl)) ?_
  refine rg_mem (M2 := M) hp.2 ?_
  refine rg_iload F (pc := 894) dL_law_894 rfl ?_
  refine rg_ncmp_ne F (pc := 896) (tgt := 969) dL_law_896 (by decide) (by omega) (by omega) (fun c896 => by exfalso; omega) (fun c896 => ?_)
  refine rg_iload F (pc := 899) dL_law_899 rfl ?_
  refine rg_if_lt F (pc := 901) (tgt := 969) dL_law_901 (by decide) (fun c9 => absurd c9 (nI_pos (by omega))) (fun _ => ?_)
  refine rg_iload F (pc := 904) dL_law_904 rfl ?_
  refine rg_iconst F (pc := 906) (v := nI 3) dL_law_906 (by decide) ?_
  refine rg_ncmp_gt F (pc := 907) (tgt := 969) dL_law_907 (by decide) (by omega) (by omega) (fun c907 => by exfalso; omega) (fun c907 => ?_)
  refine rg_iload F (pc := 910) dL_law_910 rfl ?_
  refine rg_nif_ne F (pc := 912) (tgt := 925) dL_law_912 (by decide) (by omega) (fun c912 => ?_) (fun c912 => by exfalso; omega)
  refine rg_aload_n F (pc := 925) dL_law_925 rfl ?_
  refine rg_iload F (pc := 926) dL_law_926 rfl ?_
  refine rg_bipush F (pc := 928) (v := nI 11) dL_law_928 (by decide) ?_
  refine rg_callVi F (pc := 930) (As := [.int (nI i), .int (nI 11)]) (rest := []) (ci := 4) (c_told l D _ x P nW nL u i 11 hV (by omega) (by decide)) q412 vq_X3_told rfl hO18.2.1 rfl rfl (Nat.le_of_ble_eq_true rfl) (Nat.le_of_ble_eq_true rfl) (Nat.le_of_ble_eq_true rfl) ⟨by show _ ≤ 610524; omega, by show _ ≤ 7270126; omega⟩ dL_law_930 (fun r9 M9 hp => ?_)
  refine rg_widen (k2 := k) (n2 := n) (by omega) (by omega) ?_
  refine rg_top (v2 := .int (nI (zTax P i))) (by first | (rw [hp.1]; done) | (rw [hp.1]; rfl)) ?_
  refine rg_mem (M2 := M) hp.2 ?_
  refine rg_aload_n F (pc := 933) dL_law_933 rfl ?_
  refine rg_iload F (pc := 934) dL_law_934 rfl ?_
  refine rg_iconst F (pc := 936) (v := nI 3) dL_law_936 (by decide) ?_
  refine rg_callVi F (pc := 937) (As := [.int (nI i), .int (nI 3)]) (rest := [.int (nI (zTax P i))]) (ci := 4) (c_told l D _ x P nW nL u i 3 hV (by omega) (by decide)) q412 vq_X3_told rfl hO18.2.1 rfl rfl (Nat.le_of_ble_eq_true rfl) (Nat.le_of_ble_eq_true rfl) (Nat.le_of_ble_eq_true rfl) ⟨by show _ ≤ 610524; omega, by show _ ≤ 7270126; omega⟩ dL_law_937 (fun r9 M9 hp => ?_)
  refine rg_widen (k2 := k) (n2 := n) (by omega) (by omega) ?_
  refine rg_top (v2 := .int (nI (zC P i))) (by first | (rw [hp.1]; done) | (rw [hp.1]; rfl)) ?_
  refine rg_mem (M2 := M) hp.2 ?_
  refine rg_nif_ne F (pc := 940) (tgt := 953) dL_law_940 (by decide) (by omega) (fun c940 => ?_) (fun c940 => ?_)
  · refine rg_iload F (pc := 953) dL_law_953 rfl ?_
    have htx : zTax P i = 2 * pop 18 (zBits P i) + 3 * zOff P i + 5 * zLack P i - 4 * zPaid P i := by unfold zTax; rw [if_neg (by omega)]
    refine rg_ncmp_ne F (pc := 955) (tgt := 969) dL_law_955 (by decide) (by omega) (by omega) (fun c955 => by exfalso; omega) (fun c955 => ?_)
    refine rg_aload_n F (pc := 958) dL_law_958 rfl ?_
    refine rg_iload F (pc := 959) dL_law_959 rfl ?_
    refine rg_bipush F (pc := 961) (v := nI 11) dL_law_961 (by decide) ?_
    refine rg_callVi F (pc := 963) (As := [.int (nI i), .int (nI 11)]) (rest := []) (ci := 4) (c_told l D _ x P nW nL u i 11 hV (by omega) (by decide)) q412 vq_X3_told rfl hO18.2.1 rfl rfl (Nat.le_of_ble_eq_true rfl) (Nat.le_of_ble_eq_true rfl) (Nat.le_of_ble_eq_true rfl) ⟨by show _ ≤ 610524; omega, by show _ ≤ 7270126; omega⟩ dL_law_963 (fun r9 M9 hp => ?_)
    refine rg_widen (k2 := k) (n2 := n) (by omega) (by omega) ?_
    refine rg_top (v2 := .int (nI (zTax P i))) (by first | (rw [hp.1]; done) | (rw [hp.1]; rfl)) ?_
    refine rg_mem (M2 := M) hp.2 ?_
    refine rg_if_ge F (pc := 966) (tgt := 971) dL_law_966 (by decide) (fun _ => ?_) (fun c9 => absurd (nI_pos' (by omega)) c9)
    refine rg_aload_n F (pc := 971) dL_law_971 rfl ?_
    refine rg_iload F (pc := 972) dL_law_972 rfl ?_
    refine rg_bipush F (pc := 974) (v := nI 7) dL_law_974 (by decide) ?_
    refine rg_callVi F (pc := 976) (As := [.int (nI i), .int (nI 7)]) (rest := []) (ci := 4) (c_told l D _ x P nW nL u i 7 hV (by omega) (by decide)) q412 vq_X3_told rfl hO18.2.1 rfl rfl (Nat.le_of_ble_eq_true rfl) (Nat.le_of_ble_eq_true rfl) (Nat.le_of_ble_eq_true rfl) ⟨by show _ ≤ 610524; omega, by show _ ≤ 7270126; omega⟩ dL_law_976 (fun r9 M9 hp => ?_)
    refine rg_widen (k2 := k) (n2 := n) (by omega) (by omega) ?_
    refine rg_top (v2 := .int (nI (zCa P (i + 1)))) (by rw [hp.1, zCa_succ]; rfl) ?_
    refine rg_mem (M2 := M) hp.2 ?_
    refine rg_istore F (pc := 979) (lv' := [some (.ref (rSb D)), some (.ref (x)), some (.int (nI tm)), none, some (.int (nI nL)), none, some (.int (nI kx)), none, none, some (.long (zDig P nW nL)), none, some (.int (nI (zCl P 2 i))), some (.int (nI (zCl P 4 i))), some (.int (nI (zCa P (i + 1)))), some (.int (nI i)), none, some (.int (nI (zRm P i))), some (.int (nI (zStay P i))), some (.int (nI (zOff P i))), some (.int (nI (pop 18 (zBits P i)))), some (.int (nI (zOff P i))), some (.int (nI 1)), some (.int (nI (zPaid P i))), some (.int (nI (2 * pop 18 (zBits P i) + 3 * zOff P i + 5 * zLack P i - 4 * zPaid P i))), none, none]) dL_law_979 (Nat.le_of_ble_eq_true rfl) rfl ?_
    refine rg_iload F (pc := 981) dL_law_981 rfl ?_
    refine rg_iload F (pc := 983) dL_law_983 rfl ?_
    refine rg_iadd F (pc := 985) (v := nI (zCl P 4 (i + 1))) dL_law_985 (nI_add _ _) ?_
    refine rg_istore F (pc := 986) (lv' := [some (.ref (rSb D)), some (.ref (x)), some (.int (nI tm)), none, some (.int (nI nL)), none, some (.int (nI kx)), none, none, some (.long (zDig P nW nL)), none, some (.int (nI (zCl P 2 i))), some (.int (nI (zCl P 4 (i + 1)))), some (.int (nI (zCa P (i + 1)))), some (.int (nI i)), none, some (.int (nI (zRm P i))), some (.int (nI (zStay P i))), some (.int (nI (zOff P i))), some (.int (nI (pop 18 (zBits P i)))), some (.int (nI (zOff P i))), some (.int (nI 1)), some (.int (nI (zPaid P i))), some (.int (nI (2 * pop 18 (zBits P i) + 3 * zOff P i + 5 * zLack P i - 4 * zPaid P i))), none, none]) dL_law_986 (Nat.le_of_ble_eq_true rfl) rfl ?_
    refine rg_iload F (pc := 988) dL_law_988 rfl ?_
    refine rg_aload_n F (pc := 990) dL_law_990 rfl ?_
    refine rg_iload F (pc := 991) dL_law_991 rfl ?_
    refine rg_iconst F (pc := 993) (v := nI 3) dL_law_993 (by decide) ?_
    refine rg_callVi F (pc := 994) (As := [.int (nI i), .int (nI 3)]) (rest := [.int (nI (zCl P 2 i))]) (ci := 4) (c_told l D _ x P nW nL u i 3 hV (by omega) (by decide)) q412 vq_X3_told rfl hO18.2.1 rfl rfl (Nat.le_of_ble_eq_true rfl) (Nat.le_of_ble_eq_true rfl) (Nat.le_of_ble_eq_true rfl) ⟨by show _ ≤ 610524; omega, by show _ ≤ 7270126; omega⟩ dL_law_994 (fun r9 M9 hp => ?_)
    refine rg_widen (k2 := k) (n2 := n) (by omega) (by omega) ?_
    refine rg_top (v2 := .int (nI (zC P i))) (by first | (rw [hp.1]; done) | (rw [hp.1]; rfl)) ?_
    refine rg_mem (M2 := M) hp.2 ?_
    refine rg_iadd F (pc := 997) (v := nI (zCl P 2 (i + 1))) dL_law_997 (nI_add _ _) ?_
    refine rg_istore F (pc := 998) (lv' := [some (.ref (rSb D)), some (.ref (x)), some (.int (nI tm)), none, some (.int (nI nL)), none, some (.int (nI kx)), none, none, some (.long (zDig P nW nL)), none, some (.int (nI (zCl P 2 (i + 1)))), some (.int (nI (zCl P 4 (i + 1)))), some (.int (nI (zCa P (i + 1)))), some (.int (nI i)), none, some (.int (nI (zRm P i))), some (.int (nI (zStay P i))), some (.int (nI (zOff P i))), some (.int (nI (pop 18 (zBits P i)))), some (.int (nI (zOff P i))), some (.int (nI 1)), some (.int (nI (zPaid P i))), some (.int (nI (2 * pop 18 (zBits P i) + 3 * zOff P i + 5 * zLack P i - 4 * zPaid P i))), none, none]) dL_law_998 (Nat.le_of_ble_eq_true rfl) rfl ?_
    refine rg_iload F (pc := 1000) dL_law_1000 rfl ?_
    refine rg_nif_eq F (pc := 1002) (tgt := 1026) dL_law_1002 (by decide) (by omega) (fun c1002 => by exfalso; omega) (fun c1002 => ?_)
    refine rg_aload_n F (pc := 1005) dL_law_1005 rfl ?_
    refine rg_iload F (pc := 1006) dL_law_1006 rfl ?_
    refine rg_callVi F (pc := 1008) (As := [.int (nI i)]) (rest := []) (ci := 4) (c_scans l D _ x P nW nL u i hV hi) q440 vq_X3_scans rfl hO18.2.1 rfl rfl (Nat.le_of_ble_eq_true rfl) (Nat.le_of_ble_eq_true rfl) (Nat.le_of_ble_eq_true rfl) ⟨by show _ ≤ 610524; omega, by show _ ≤ 7270126; omega⟩ dL_law_1008 (fun r9 M9 hp => ?_)
    refine rg_widen (k2 := k) (n2 := n) (by omega) (by omega) ?_
    refine rg_top (v2 := .int (nI ((zScn P nL i 3).2))) (by first | (rw [hp.1]; done) | (rw [hp.1]; rfl)) ?_
    refine rg_mem (M2 := M) hp.2 ?_
    refine rg_if_lt F (pc := 1011) (tgt := 1024) dL_law_1011 (by decide) (fun c9 => absurd c9 (nI_pos (by omega))) (fun _ => ?_)
    refine rg_aload_n F (pc := 1014) dL_law_1014 rfl ?_
    refine rg_iload F (pc := 1015) dL_law_1015 rfl ?_
    refine rg_callVi F (pc := 1017) (As := [.int (nI i)]) (rest := []) (ci := 4) (c_scans l D _ x P nW nL u i hV hi) q440 vq_X3_scans rfl hO18.2.1 rfl rfl (Nat.le_of_ble_eq_true rfl) (Nat.le_of_ble_eq_true rfl) (Nat.le_of_ble_eq_true rfl) ⟨by show _ ≤ 610524; omega, by show _ ≤ 7270126; omega⟩ dL_law_1017 (fun r9 M9 hp => ?_)
    refine rg_widen (k2 := k) (n2 := n) (by omega) (by omega) ?_
    refine rg_top (v2 := .int (nI ((zScn P nL i 3).2))) (by first | (rw [hp.1]; done) | (rw [hp.1]; rfl)) ?_
    refine rg_mem (M2 := M) hp.2 ?_
    refine rg_iconst F (pc := 1020) (v := nI 3) dL_law_1020 (by decide) ?_
    refine rg_ncmp_le F (pc := 1021) (tgt := 1026) dL_law_1021 (by decide) (by omega) (by omega) (fun c1021 => ?_) (fun c1021 => by exfalso; omega)
    refine rg_sub (lv' := [some (.ref (rSb D)), some (.ref (x)), some (.int (nI tm)), none, some (.int (nI nL)), none, some (.int (nI kx)), none, none, some (.long (zDig P nW nL)), none, some (.int (nI (zCl P 2 (i + 1)))), some (.int (nI (zCl P 4 (i + 1)))), some (.int (nI (zCa P (i + 1)))), some (.int (nI i)), none, none, none, none, none, none, none, none, none, none, none]) (by repeat' constructor) ?_
    exact KK
  · refine rg_aload_n F (pc := 943) dL_law_943 rfl ?_
    refine rg_iload F (pc := 944) dL_law_944 rfl ?_
    refine rg_iconst F (pc := 946) (v := nI 1) dL_law_946 (by decide) ?_
    refine rg_callVi F (pc := 947) (As := [.int (nI i), .int (nI 1)]) (rest := [.int (nI (zTax P i))]) (ci := 4) (c_told l D _ x P nW nL u i 1 hV (by omega) (by decide)) q412 vq_X3_told rfl hO18.2.1 rfl rfl (Nat.le_of_ble_eq_true rfl) (Nat.le_of_ble_eq_true rfl) (Nat.le_of_ble_eq_true rfl) ⟨by show _ ≤ 610524; omega, by show _ ≤ 7270126; omega⟩ dL_law_947 (fun r9 M9 hp => ?_)
    refine rg_widen (k2 := k) (n2 := n) (by omega) (by omega) ?_
    refine rg_top (v2 := .int (nI (zF P i))) (by first | (rw [hp.1]; done) | (rw [hp.1]; rfl)) ?_
    refine rg_mem (M2 := M) hp.2 ?_
    refine rg_goto F (pc := 950) (tgt := 955) dL_law_950 (by decide) ?_
    have htx : zTax P i = zF P i := by unfold zTax; rw [if_pos (by omega)]
    refine rg_ncmp_ne F (pc := 955) (tgt := 969) dL_law_955 (by decide) (by omega) (by omega) (fun c955 => by exfalso; omega) (fun c955 => ?_)
    refine rg_aload_n F (pc := 958) dL_law_958 rfl ?_
    refine rg_iload F (pc := 959) dL_law_959 rfl ?_
    refine rg_bipush F (pc := 961) (v := nI 11) dL_law_961 (by decide) ?_
    refine rg_callVi F (pc := 963) (As := [.int (nI i), .int (nI 11)]) (rest := []) (ci := 4) (c_told l D _ x P nW nL u i 11 hV (by omega) (by decide)) q412 vq_X3_told rfl hO18.2.1 rfl rfl (Nat.le_of_ble_eq_true rfl) (Nat.le_of_ble_eq_true rfl) (Nat.le_of_ble_eq_true rfl) ⟨by show _ ≤ 610524; omega, by show _ ≤ 7270126; omega⟩ dL_law_963 (fun r9 M9 hp => ?_)
    refine rg_widen (k2 := k) (n2 := n) (by omega) (by omega) ?_
    refine rg_top (v2 := .int (nI (zTax P i))) (by first | (rw [hp.1]; done) | (rw [hp.1]; rfl)) ?_
    refine rg_mem (M2 := M) hp.2 ?_
    refine rg_if_ge F (pc := 966) (tgt := 971) dL_law_966 (by decide) (fun _ => ?_) (fun c9 => absurd (nI_pos' (by omega)) c9)
    refine rg_aload_n F (pc := 971) dL_law_971 rfl ?_
    refine rg_iload F (pc := 972) dL_law_972 rfl ?_
    refine rg_bipush F (pc := 974) (v := nI 7) dL_law_974 (by decide) ?_
    refine rg_callVi F (pc := 976) (As := [.int (nI i), .int (nI 7)]) (rest := []) (ci := 4) (c_told l D _ x P nW nL u i 7 hV (by omega) (by decide)) q412 vq_X3_told rfl hO18.2.1 rfl rfl (Nat.le_of_ble_eq_true rfl) (Nat.le_of_ble_eq_true rfl) (Nat.le_of_ble_eq_true rfl) ⟨by show _ ≤ 610524; omega, by show _ ≤ 7270126; omega⟩ dL_law_976 (fun r9 M9 hp => ?_)
    refine rg_widen (k2 := k) (n2 := n) (by omega) (by omega) ?_
    refine rg_top (v2 := .int (nI (zCa P (i + 1)))) (by rw [hp.1, zCa_succ]; rfl) ?_
    refine rg_mem (M2 := M) hp.2 ?_
    refine rg_istore F (pc := 979) (lv' := [some (.ref (rSb D)), some (.ref (x)), some (.int (nI tm)), none, some (.int (nI nL)), none, some (.int (nI kx)), none, none, some (.long (zDig P nW nL)), none, some (.int (nI (zCl P 2 i))), some (.int (nI (zCl P 4 i))), some (.int (nI (zCa P (i + 1)))), some (.int (nI i)), none, some (.int (nI (zRm P i))), some (.int (nI (zStay P i))), some (.int (nI (zOff P i))), some (.int (nI (pop 18 (zBits P i)))), some (.int (nI (zOff P i))), some (.int (nI 1)), some (.int (nI (zPaid P i))), some (.int (nI (2 * pop 18 (zBits P i) + 3 * zOff P i + 5 * zLack P i - 4 * zPaid P i))), none, none]) dL_law_979 (Nat.le_of_ble_eq_true rfl) rfl ?_
    refine rg_iload F (pc := 981) dL_law_981 rfl ?_
    refine rg_iload F (pc := 983) dL_law_983 rfl ?_
    refine rg_iadd F (pc := 985) (v := nI (zCl P 4 (i + 1))) dL_law_985 (nI_add _ _) ?_
    refine rg_istore F (pc := 986) (lv' := [some (.ref (rSb D)), some (.ref (x)), some (.int (nI tm)), none, some (.int (nI nL)), none, some (.int (nI kx)), none, none, some (.long (zDig P nW nL)), none, some (.int (nI (zCl P 2 i))), some (.int (nI (zCl P 4 (i + 1)))), some (.int (nI (zCa P (i + 1)))), some (.int (nI i)), none, some (.int (nI (zRm P i))), some (.int (nI (zStay P i))), some (.int (nI (zOff P i))), some (.int (nI (pop 18 (zBits P i)))), some (.int (nI (zOff P i))), some (.int (nI 1)), some (.int (nI (zPaid P i))), some (.int (nI (2 * pop 18 (zBits P i) + 3 * zOff P i + 5 * zLack P i - 4 * zPaid P i))), none, none]) dL_law_986 (Nat.le_of_ble_eq_true rfl) rfl ?_
    refine rg_iload F (pc := 988) dL_law_988 rfl ?_
    refine rg_aload_n F (pc := 990) dL_law_990 rfl ?_
    refine rg_iload F (pc := 991) dL_law_991 rfl ?_
    refine rg_iconst F (pc := 993) (v := nI 3) dL_law_993 (by decide) ?_
    refine rg_callVi F (pc := 994) (As := [.int (nI i), .int (nI 3)]) (rest := [.int (nI (zCl P 2 i))]) (ci := 4) (c_told l D _ x P nW nL u i 3 hV (by omega) (by decide)) q412 vq_X3_told rfl hO18.2.1 rfl rfl (Nat.le_of_ble_eq_true rfl) (Nat.le_of_ble_eq_true rfl) (Nat.le_of_ble_eq_true rfl) ⟨by show _ ≤ 610524; omega, by show _ ≤ 7270126; omega⟩ dL_law_994 (fun r9 M9 hp => ?_)
    refine rg_widen (k2 := k) (n2 := n) (by omega) (by omega) ?_
    refine rg_top (v2 := .int (nI (zC P i))) (by first | (rw [hp.1]; done) | (rw [hp.1]; rfl)) ?_
    refine rg_mem (M2 := M) hp.2 ?_
    refine rg_iadd F (pc := 997) (v := nI (zCl P 2 (i + 1))) dL_law_997 (nI_add _ _) ?_
    refine rg_istore F (pc := 998) (lv' := [some (.ref (rSb D)), some (.ref (x)), some (.int (nI tm)), none, some (.int (nI nL)), none, some (.int (nI kx)), none, none, some (.long (zDig P nW nL)), none, some (.int (nI (zCl P 2 (i + 1)))), some (.int (nI (zCl P 4 (i + 1)))), some (.int (nI (zCa P (i + 1)))), some (.int (nI i)), none, some (.int (nI (zRm P i))), some (.int (nI (zStay P i))), some (.int (nI (zOff P i))), some (.int (nI (pop 18 (zBits P i)))), some (.int (nI (zOff P i))), some (.int (nI 1)), some (.int (nI (zPaid P i))), some (.int (nI (2 * pop 18 (zBits P i) + 3 * zOff P i + 5 * zLack P i - 4 * zPaid P i))), none, none]) dL_law_998 (Nat.le_of_ble_eq_true rfl) rfl ?_
    refine rg_iload F (pc := 1000) dL_law_1000 rfl ?_
    refine rg_nif_eq F (pc := 1002) (tgt := 1026) dL_law_1002 (by decide) (by omega) (fun c1002 => by exfalso; omega) (fun c1002 => ?_)
    refine rg_aload_n F (pc := 1005) dL_law_1005 rfl ?_
    refine rg_iload F (pc := 1006) dL_law_1006 rfl ?_
    refine rg_callVi F (pc := 1008) (As := [.int (nI i)]) (rest := []) (ci := 4) (c_scans l D _ x P nW nL u i hV hi) q440 vq_X3_scans rfl hO18.2.1 rfl rfl (Nat.le_of_ble_eq_true rfl) (Nat.le_of_ble_eq_true rfl) (Nat.le_of_ble_eq_true rfl) ⟨by show _ ≤ 610524; omega, by show _ ≤ 7270126; omega⟩ dL_law_1008 (fun r9 M9 hp => ?_)
    refine rg_widen (k2 := k) (n2 := n) (by omega) (by omega) ?_
    refine rg_top (v2 := .int (nI ((zScn P nL i 3).2))) (by first | (rw [hp.1]; done) | (rw [hp.1]; rfl)) ?_
    refine rg_mem (M2 := M) hp.2 ?_
    refine rg_if_lt F (pc := 1011) (tgt := 1024) dL_law_1011 (by decide) (fun c9 => absurd c9 (nI_pos (by omega))) (fun _ => ?_)
    refine rg_aload_n F (pc := 1014) dL_law_1014 rfl ?_
    refine rg_iload F (pc := 1015) dL_law_1015 rfl ?_
    refine rg_callVi F (pc := 1017) (As := [.int (nI i)]) (rest := []) (ci := 4) (c_scans l D _ x P nW nL u i hV hi) q440 vq_X3_scans rfl hO18.2.1 rfl rfl (Nat.le_of_ble_eq_true rfl) (Nat.le_of_ble_eq_true rfl) (Nat.le_of_ble_eq_true rfl) ⟨by show _ ≤ 610524; omega, by show _ ≤ 7270126; omega⟩ dL_law_1017 (fun r9 M9 hp => ?_)
    refine rg_widen (k2 := k) (n2 := n) (by omega) (by omega) ?_
    refine rg_top (v2 := .int (nI ((zScn P nL i 3).2))) (by first | (rw [hp.1]; done) | (rw [hp.1]; rfl)) ?_
    refine rg_mem (M2 := M) hp.2 ?_
    refine rg_iconst F (pc := 1020) (v := nI 3) dL_law_1020 (by decide) ?_
    refine rg_ncmp_le F (pc := 1021) (tgt := 1026) dL_law_1021 (by decide) (by omega) (by omega) (fun c1021 => ?_) (fun c1021 => by exfalso; omega)
    refine rg_sub (lv' := [some (.ref (rSb D)), some (.ref (x)), some (.int (nI tm)), none, some (.int (nI nL)), none, some (.int (nI kx)), none, none, some (.long (zDig P nW nL)), none, some (.int (nI (zCl P 2 (i + 1)))), some (.int (nI (zCl P 4 (i + 1)))), some (.int (nI (zCa P (i + 1)))), some (.int (nI i)), none, none, none, none, none, none, none, none, none, none, none]) (by repeat' constructor) ?_
    exact KK
end LAW
