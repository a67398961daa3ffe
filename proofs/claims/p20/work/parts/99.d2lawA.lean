section LAW
variable {p : Program} {l : Launch} {e : Env} {s : State} {m : MethodId} {args : Array Value} {below : List Frame} {meth : Method} {c : Code} {D : va_G} {A : Nat → Prop} {Q : State → Prop} {M : rMem} {k n : Nat}
set_option maxHeartbeats 4000000 in
set_option maxRecDepth 100000 in
theorem L_A (F : rF p l e room_1 s m args below meth c cL_law 26 RL D A) {tm : Nat} (ht : tm < 24) {x : Nat} {P : Poem} {nW nL : Nat} {u : Nat → Nat → Nat} (hV : cV D M x P nW nL u) (h1W : 1 ≤ nW) (h1L : 1 ≤ nL) (hk : k + 20 ≤ 610524) (hn : n + 2000 ≤ 7270126) (KK : ∀ (M' : rMem) (P' : Poem) (nW' nL' : Nat) (u' : Nat → Nat → Nat) (kx : Nat), cV D M' x P' nW' nL' u' → 1 ≤ nW' → 1 ≤ nL' → kx < 10 → rG p l e room_1 s m args below meth c D A 26 Q M' (k + 20) (n + 2000) [some (.ref (rSb D)), some (.ref (x)), some (.int (nI tm)), none, none, none, some (.int (nI kx)), none, none, none, none, none, none, none, none, none, none, none, none, none, none, none, none, none, none, none] 541 []) : rG p l e room_1 s m args below meth c D A 26 Q M k n [some (.ref (rSb D)), some (.ref (x)), some (.int (nI tm)), none, none, none, none, none, none, none, none, none, none, none, none, none, none, none, none, none, none, none, none, none, none, none] 13 [] := by
  have hO1 := cV_see hV
  have hn30 := hO1.1.1.1
  have hn10 := hO1.1.2.1
  refine rg_aload_n F (pc := 13) dL_law_13 rfl ?_
  refine rg_iload_n F (pc := 14) dL_law_14 rfl ?_
  refine rg_bipush F (pc := 15) (v := nI 16) dL_law_15 (by decide) ?_
  refine rg_irem F (pc := 17) (v := nI (tm % 16)) dL_law_17 (by decide) (pk_rem (by omega) (by omega) (by omega)) ?_
  refine rg_callSi F (pc := 18) (As := [.ref (rSb D), .int (nI (tm % 16))]) (rest := []) (c_cell l D _ (tm % 16) (by omega)) q392 sq_L_cell rfl rfl (Nat.le_of_ble_eq_true rfl) (Nat.le_of_ble_eq_true rfl) (Nat.le_of_ble_eq_true rfl) ⟨by show _ ≤ 610524; omega, by show _ ≤ 7270126; omega⟩ dL_law_18 (fun y18 M9 hp => ?_)
  refine rg_widen (k2 := k) (n2 := n) (by omega) (by omega) ?_
  refine rg_mem (M2 := M) hp ?_
  refine rg_iload_n F (pc := 21) dL_law_21 rfl ?_
  refine rg_bipush F (pc := 22) (v := nI 16) dL_law_22 (by decide) ?_
  refine rg_idiv F (pc := 24) (v := nI (tm / 16)) dL_law_24 (by decide) (pk_div (by omega) (by omega) (by omega)) ?_
  refine rg_bipush F (pc := 25) (v := nI 6) dL_law_25 (by decide) ?_
  refine rg_imul F (pc := 27) (v := nI ((tm / 16) * 6)) dL_law_27 (pk_mul _ _) ?_
  obtain ⟨y, hy⟩ : ∃ y : Int32, y18 >>> (nI (tm / 16 * 6) &&& 31) = y := ⟨_, rfl⟩
  refine rg_ishr F (pc := 28) (v := y) dL_law_28 hy ?_
  refine rg_istore_n F (pc := 29) (lv' := [some (.ref (rSb D)), some (.ref (x)), some (.int (nI tm)), some (.int (y)), none, none, none, none, none, none, none, none, none, none, none, none, none, none, none, none, none, none, none, none, none, none]) dL_law_29 (Nat.le_of_ble_eq_true rfl) rfl ?_
  refine rg_aload_n F (pc := 30) dL_law_30 rfl ?_
  refine rg_iconst F (pc := 31) (v := nI 1) dL_law_31 (by decide) ?_
  refine rg_callVi F (pc := 32) (As := [.int (nI 1)]) (rest := []) (ci := 4) (c_count l D _ x P nW nL u 1 hV (by decide)) q409 vq_X3_count rfl hO1.2.1 rfl rfl (Nat.le_of_ble_eq_true rfl) (Nat.le_of_ble_eq_true rfl) (Nat.le_of_ble_eq_true rfl) ⟨by show _ ≤ 610524; omega, by show _ ≤ 7270126; omega⟩ dL_law_32 (fun r9 M9 hp => ?_)
  refine rg_widen (k2 := k) (n2 := n) (by omega) (by omega) ?_
  refine rg_top (v2 := .int (nI nL)) (by first | (rw [hp.1]; done) | (rw [hp.1]; rfl)) ?_
  refine rg_mem (M2 := M) hp.2 ?_
  refine rg_istore F (pc := 35) (lv' := [some (.ref (rSb D)), some (.ref (x)), some (.int (nI tm)), some (.int (y)), some (.int (nI nL)), none, none, none, none, none, none, none, none, none, none, none, none, none, none, none, none, none, none, none, none, none]) dL_law_35 (Nat.le_of_ble_eq_true rfl) rfl ?_
  refine rg_aload_n F (pc := 37) dL_law_37 rfl ?_
  refine rg_iconst F (pc := 38) (v := nI 0) dL_law_38 (by decide) ?_
  refine rg_callVi F (pc := 39) (As := [.int (nI 0)]) (rest := []) (ci := 4) (c_count l D _ x P nW nL u 0 hV (by decide)) q409 vq_X3_count rfl hO1.2.1 rfl rfl (Nat.le_of_ble_eq_true rfl) (Nat.le_of_ble_eq_true rfl) (Nat.le_of_ble_eq_true rfl) ⟨by show _ ≤ 610524; omega, by show _ ≤ 7270126; omega⟩ dL_law_39 (fun r9 M9 hp => ?_)
  refine rg_widen (k2 := k) (n2 := n) (by omega) (by omega) ?_
  refine rg_top (v2 := .int (nI nW)) (by first | (rw [hp.1]; done) | (rw [hp.1]; rfl)) ?_
  refine rg_mem (M2 := M) hp.2 ?_
  refine rg_istore F (pc := 42) (lv' := [some (.ref (rSb D)), some (.ref (x)), some (.int (nI tm)), some (.int (y)), some (.int (nI nL)), some (.int (nI nW)), none, none, none, none, none, none, none, none, none, none, none, none, none, none, none, none, none, none, none, none]) dL_law_42 (Nat.le_of_ble_eq_true rfl) rfl ?_
  refine rg_iload_n F (pc := 44) dL_law_44 rfl ?_
  refine rg_iconst F (pc := 45) (v := nI 3) dL_law_45 (by decide) ?_
  refine rg_ishr F (pc := 46) (v := y >>> ((nI 3) &&& 31)) dL_law_46 rfl ?_
  refine rg_iload F (pc := 47) dL_law_47 rfl ?_
  refine rg_callSi F (pc := 49) (As := [.int (y >>> ((nI 3) &&& 31)), .int (nI nL)]) (rest := []) (c_below l D _ (y >>> ((nI 3) &&& 31)) nL (by omega) (by omega)) q396 sq_L_below rfl rfl (Nat.le_of_ble_eq_true rfl) (Nat.le_of_ble_eq_true rfl) (Nat.le_of_ble_eq_true rfl) ⟨by show _ ≤ 610524; omega, by show _ ≤ 7270126; omega⟩ dL_law_49 (fun r9 M9 hp => ?_)
  refine rg_widen (k2 := k) (n2 := n) (by omega) (by omega) ?_
  obtain ⟨q49, hq49, hr9, hp⟩ := hp
  refine rg_top (v2 := .int (nI q49)) (by rw [hr9]) ?_
  refine rg_mem (M2 := M) hp ?_
  refine rg_istore F (pc := 52) (lv' := [some (.ref (rSb D)), some (.ref (x)), some (.int (nI tm)), some (.int (y)), some (.int (nI nL)), some (.int (nI nW)), some (.int (nI q49)), none, none, none, none, none, none, none, none, none, none, none, none, none, none, none, none, none, none, none]) dL_law_52 (Nat.le_of_ble_eq_true rfl) rfl ?_
  refine rg_iload_n F (pc := 54) dL_law_54 rfl ?_
  refine rg_iconst F (pc := 55) (v := nI 4) dL_law_55 (by decide) ?_
  refine rg_ishr F (pc := 56) (v := y >>> ((nI 4) &&& 31)) dL_law_56 rfl ?_
  refine rg_iload F (pc := 57) dL_law_57 rfl ?_
  refine rg_callSi F (pc := 59) (As := [.int (y >>> ((nI 4) &&& 31)), .int (nI nW)]) (rest := []) (c_below l D _ (y >>> ((nI 4) &&& 31)) nW (by omega) (by omega)) q396 sq_L_below rfl rfl (Nat.le_of_ble_eq_true rfl) (Nat.le_of_ble_eq_true rfl) (Nat.le_of_ble_eq_true rfl) ⟨by show _ ≤ 610524; omega, by show _ ≤ 7270126; omega⟩ dL_law_59 (fun r9 M9 hp => ?_)
  refine rg_widen (k2 := k) (n2 := n) (by omega) (by omega) ?_
  obtain ⟨q59, hq59, hr9, hp⟩ := hp
  refine rg_top (v2 := .int (nI q59)) (by rw [hr9]) ?_
  refine rg_mem (M2 := M) hp ?_
  refine rg_istore F (pc := 62) (lv' := [some (.ref (rSb D)), some (.ref (x)), some (.int (nI tm)), some (.int (y)), some (.int (nI nL)), some (.int (nI nW)), some (.int (nI q49)), some (.int (nI q59)), none, none, none, none, none, none, none, none, none, none, none, none, none, none, none, none, none, none]) dL_law_62 (Nat.le_of_ble_eq_true rfl) rfl ?_
  have hlk := hO1.1.2.2 q49 hq49
  have hz8 := hlk.2.2.2.2.1
  refine rg_aload_n F (pc := 64) dL_law_64 rfl ?_
  refine rg_iload F (pc := 65) dL_law_65 rfl ?_
  refine rg_iconst F (pc := 67) (v := nI 3) dL_law_67 (by decide) ?_
  refine rg_callVi F (pc := 68) (As := [.int (nI q49), .int (nI 3)]) (rest := []) (ci := 4) (c_told l D _ x P nW nL u q49 3 hV (by omega) (by decide)) q412 vq_X3_told rfl hO1.2.1 rfl rfl (Nat.le_of_ble_eq_true rfl) (Nat.le_of_ble_eq_true rfl) (Nat.le_of_ble_eq_true rfl) ⟨by show _ ≤ 610524; omega, by show _ ≤ 7270126; omega⟩ dL_law_68 (fun r9 M9 hp => ?_)
  refine rg_widen (k2 := k) (n2 := n) (by omega) (by omega) ?_
  refine rg_top (v2 := .int (nI (zC P q49))) (by first | (rw [hp.1]; done) | (rw [hp.1]; rfl)) ?_
  refine rg_mem (M2 := M) hp.2 ?_
  refine rg_istore F (pc := 71) (lv' := [some (.ref (rSb D)), some (.ref (x)), some (.int (nI tm)), some (.int (y)), some (.int (nI nL)), some (.int (nI nW)), some (.int (nI q49)), some (.int (nI q59)), some (.int (nI (zC P q49))), none, none, none, none, none, none, none, none, none, none, none, none, none, none, none, none, none]) dL_law_71 (Nat.le_of_ble_eq_true rfl) rfl ?_
  refine rg_aload_n F (pc := 73) dL_law_73 rfl ?_
  refine rg_callVl F (pc := 74) (As := []) (rest := []) (ci := 4) (c_digest l D _ x P nW nL u hV) q420 vq_X3_digest rfl hO1.2.1 rfl rfl (Nat.le_of_ble_eq_true rfl) (Nat.le_of_ble_eq_true rfl) (Nat.le_of_ble_eq_true rfl) ⟨by show _ ≤ 610524; omega, by show _ ≤ 7270126; omega⟩ dL_law_74 (fun r9 M9 hp => ?_)
  refine rg_widen (k2 := k) (n2 := n) (by omega) (by omega) ?_
  refine rg_top (v2 := .long (zDig P nW nL)) (by first | (rw [hp.1]; done) | (rw [hp.1]; rfl)) ?_
  refine rg_mem (M2 := M) hp.2 ?_
  refine rg_lstore F (pc := 77) (lv' := [some (.ref (rSb D)), some (.ref (x)), some (.int (nI tm)), some (.int (y)), some (.int (nI nL)), some (.int (nI nW)), some (.int (nI q49)), some (.int (nI q59)), some (.int (nI (zC P q49))), some (.long (zDig P nW nL)), none, none, none, none, none, none, none, none, none, none, none, none, none, none, none, none]) dL_law_77 (Nat.le_of_ble_eq_true rfl) rfl ?_
  refine rg_iload_n F (pc := 79) dL_law_79 rfl ?_
  refine rg_iconst F (pc := 80) (v := nI 5) dL_law_80 (by decide) ?_
  refine rg_callSi F (pc := 81) (As := [.int (y), .int (nI 5)]) (rest := []) (c_below l D _ y 5 (by omega) (by omega)) q396 sq_L_below rfl rfl (Nat.le_of_ble_eq_true rfl) (Nat.le_of_ble_eq_true rfl) (Nat.le_of_ble_eq_true rfl) ⟨by show _ ≤ 610524; omega, by show _ ≤ 7270126; omega⟩ dL_law_81 (fun r9 M9 hp => ?_)
  refine rg_widen (k2 := k) (n2 := n) (by omega) (by omega) ?_
  obtain ⟨q81, hq81, hr9, hp⟩ := hp
  refine rg_top (v2 := .int (nI q81)) (by rw [hr9]) ?_
  refine rg_mem (M2 := M) hp ?_
  rcases (show q81 = 0 ∨ q81 = 1 ∨ q81 = 2 ∨ q81 = 3 ∨ q81 = 4 by omega) with rfl | rfl | rfl | rfl | rfl
  · refine rg_tab F (pc := 84) (off := 32) (tgt := 116) dL_law_84 (by decide) (by decide) (by decide) (by decide) ?_
    refine rg_iload F (pc := 116) dL_law_116 rfl ?_
    refine rg_bipush F (pc := 118) (v := nI 8) dL_law_118 (by decide) ?_
    refine rg_ncmp_ne F (pc := 120) (tgt := 126) dL_law_120 (by decide) (by omega) (by omega) (fun c120 => ?_) (fun c120 => ?_)
    · refine rg_aload_n F (pc := 126) dL_law_126 rfl ?_
      refine rg_iload F (pc := 127) dL_law_127 rfl ?_
      refine rg_iload F (pc := 129) dL_law_129 rfl ?_
      refine rg_iload F (pc := 131) dL_law_131 rfl ?_
      refine rg_callVi F (pc := 133) (As := [.int (nI q49), .int (nI (zC P q49)), .int (nI q59)]) (rest := []) (ci := 4) (c_wrA l D _ x P nW nL u q49 (zC P q49) q59 hV hq49 hq59 rfl (by omega)) q405 vq_X3_write rfl hO1.2.1 rfl rfl (Nat.le_of_ble_eq_true rfl) (Nat.le_of_ble_eq_true rfl) (Nat.le_of_ble_eq_true rfl) ⟨by show _ ≤ 610524; omega, by show _ ≤ 7270126; omega⟩ dL_law_133 (fun r9 M1 hp => ?_)
      obtain ⟨hr9, hVa⟩ := hp
      refine rg_top (v2 := .int (nI (zC P q49 + 1))) (by rw [hr9]) ?_
      have hO2 := cV_see hVa
      refine rg_iload F (pc := 136) dL_law_136 rfl ?_
      refine rg_iconst F (pc := 138) (v := nI 1) dL_law_138 (by decide) ?_
      refine rg_iadd F (pc := 139) (v := nI ((zC P q49) + 1)) dL_law_139 (nI_add _ _) ?_
      refine rg_ncmp_ne F (pc := 140) (tgt := 194) dL_law_140 (by decide) (by omega) (by omega) (fun c140 => by exfalso; omega) (fun c140 => ?_)
      refine rg_aload_n F (pc := 143) dL_law_143 rfl ?_
      refine rg_iload F (pc := 144) dL_law_144 rfl ?_
      refine rg_callVi F (pc := 146) (As := [.int (nI q49)]) (rest := []) (ci := 4) (c_strike l D _ x (zPut P q49 (zC P q49) q59) nW nL u q49 hVa hq49 (by rw [zPut_a]; omega)) q423 vq_X3_strike rfl hO2.2.1 rfl rfl (Nat.le_of_ble_eq_true rfl) (Nat.le_of_ble_eq_true rfl) (Nat.le_of_ble_eq_true rfl) ⟨by show _ ≤ 610524; omega, by show _ ≤ 7270126; omega⟩ dL_law_146 (fun r9 M2 hp => ?_)
      refine rg_widen (k2 := (k + 1)) (n2 := (n + 100)) (by omega) (by omega) ?_
      obtain ⟨hr9, hVb⟩ := hp
      refine rg_top (v2 := .int (nI q59)) (by rw [hr9, zPut_a, Nat.add_sub_cancel, zPut_r, if_pos rfl]) ?_
      have hVc := cV_back hO1.1 hVb
      have hO3 := cV_see hVc
      refine rg_iload F (pc := 149) dL_law_149 rfl ?_
      refine rg_ncmp_ne F (pc := 151) (tgt := 194) dL_law_151 (by decide) (by omega) (by omega) (fun c151 => by exfalso; omega) (fun c151 => ?_)
      refine rg_aload_n F (pc := 154) dL_law_154 rfl ?_
      refine rg_callVl F (pc := 155) (As := []) (rest := []) (ci := 4) (c_digest l D _ x P nW nL u hVc) q420 vq_X3_digest rfl hO3.2.1 rfl rfl (Nat.le_of_ble_eq_true rfl) (Nat.le_of_ble_eq_true rfl) (Nat.le_of_ble_eq_true rfl) ⟨by show _ ≤ 610524; omega, by show _ ≤ 7270126; omega⟩ dL_law_155 (fun r9 M9 hp => ?_)
      refine rg_widen (k2 := (k + 1)) (n2 := (n + 100)) (by omega) (by omega) ?_
      refine rg_top (v2 := .long (zDig P nW nL)) (by first | (rw [hp.1]; done) | (rw [hp.1]; rfl)) ?_
      refine rg_mem (M2 := M2) hp.2 ?_
      refine rg_lload F (pc := 158) dL_law_158 rfl ?_
      refine rg_lcmp F (pc := 160) (v := nI 0) dL_law_160 (lc_self _) ?_
      refine rg_nif_ne F (pc := 161) (tgt := 194) dL_law_161 (by decide) (by omega) (fun c161 => by exfalso; omega) (fun c161 => ?_)
      refine rg_aload_n F (pc := 164) dL_law_164 rfl ?_
      refine rg_iload F (pc := 165) dL_law_165 rfl ?_
      refine rg_iload F (pc := 167) dL_law_167 rfl ?_
      refine rg_iload F (pc := 169) dL_law_169 rfl ?_
      refine rg_callVi F (pc := 171) (As := [.int (nI q49), .int (nI (zC P q49)), .int (nI q59)]) (rest := []) (ci := 4) (c_wrA l D _ x P nW nL u q49 (zC P q49) q59 hVc hq49 hq59 rfl (by omega)) q405 vq_X3_write rfl hO3.2.1 rfl rfl (Nat.le_of_ble_eq_true rfl) (Nat.le_of_ble_eq_true rfl) (Nat.le_of_ble_eq_true rfl) ⟨by show _ ≤ 610524; omega, by show _ ≤ 7270126; omega⟩ dL_law_171 (fun r9 M3 hp => ?_)
      obtain ⟨hr9, hVd⟩ := hp
      refine rg_top (v2 := .int (nI (zC P q49 + 1))) (by rw [hr9]) ?_
      have hO4 := cV_see hVd
      refine rg_iload F (pc := 174) dL_law_174 rfl ?_
      refine rg_iconst F (pc := 176) (v := nI 1) dL_law_176 (by decide) ?_
      refine rg_iadd F (pc := 177) (v := nI ((zC P q49) + 1)) dL_law_177 (nI_add _ _) ?_
      refine rg_ncmp_ne F (pc := 178) (tgt := 194) dL_law_178 (by decide) (by omega) (by omega) (fun c178 => by exfalso; omega) (fun c178 => ?_)
      refine rg_aload_n F (pc := 181) dL_law_181 rfl ?_
      refine rg_iload F (pc := 182) dL_law_182 rfl ?_
      refine rg_iload F (pc := 184) dL_law_184 rfl ?_
      refine rg_callVi F (pc := 186) (As := [.int (nI q49), .int (nI (zC P q49))]) (rest := []) (ci := 4) (c_written l D _ x (zPut P q49 (zC P q49) q59) nW nL u q49 (zC P q49) hVd hq49 (by rw [zPut_a]; omega)) q426 vq_X3_written rfl hO4.2.1 rfl rfl (Nat.le_of_ble_eq_true rfl) (Nat.le_of_ble_eq_true rfl) (Nat.le_of_ble_eq_true rfl) ⟨by show _ ≤ 610524; omega, by show _ ≤ 7270126; omega⟩ dL_law_186 (fun r9 M9 hp => ?_)
      refine rg_widen (k2 := ((k + 1) + 1)) (n2 := ((n + 100) + 100)) (by omega) (by omega) ?_
      refine rg_top (v2 := .int (nI q59)) (by rw [hp.1, zPut_r, if_pos rfl]) ?_
      refine rg_mem (M2 := M3) hp.2 ?_
      refine rg_iload F (pc := 189) dL_law_189 rfl ?_
      refine rg_ncmp_eq F (pc := 191) (tgt := 541) dL_law_191 (by decide) (by omega) (by omega) (fun c191 => ?_) (fun c191 => by exfalso; omega)
      refine rg_sub (lv' := [some (.ref (rSb D)), some (.ref (x)), some (.int (nI tm)), none, none, none, some (.int (nI q49)), none, none, none, none, none, none, none, none, none, none, none, none, none, none, none, none, none, none, none]) (by repeat' constructor) ?_
      refine rg_widen (k2 := k + 20) (n2 := n + 2000) (by omega) (by omega) ?_
      exact KK _ _ _ _ _ q49 hVd (by omega) (by omega) (by omega)
    · refine rg_goto F (pc := 123) (tgt := 541) dL_law_123 (by decide) ?_
      refine rg_sub (lv' := [some (.ref (rSb D)), some (.ref (x)), some (.int (nI tm)), none, none, none, some (.int (nI q49)), none, none, none, none, none, none, none, none, none, none, none, none, none, none, none, none, none, none, none]) (by repeat' constructor) ?_
      refine rg_widen (k2 := k + 20) (n2 := n + 2000) (by omega) (by omega) ?_
      exact KK _ _ _ _ _ q49 hV (by omega) (by omega) (by omega)
  · refine rg_tab F (pc := 84) (off := 112) (tgt := 196) dL_law_84 (by decide) (by decide) (by decide) (by decide) ?_
    refine rg_iload F (pc := 196) dL_law_196 rfl ?_
    refine rg_nif_ne F (pc := 198) (tgt := 204) dL_law_198 (by decide) (by omega) (fun c198 => ?_) (fun c198 => ?_)
    · refine rg_iload_n F (pc := 204) dL_law_204 rfl ?_
      refine rg_bipush F (pc := 205) (v := nI 6) dL_law_205 (by decide) ?_
      refine rg_ishr F (pc := 207) (v := y >>> ((nI 6) &&& 31)) dL_law_207 rfl ?_
      refine rg_iload F (pc := 208) dL_law_208 rfl ?_
      refine rg_callSi F (pc := 210) (As := [.int (y >>> ((nI 6) &&& 31)), .int (nI (zC P q49))]) (rest := []) (c_below l D _ (y >>> ((nI 6) &&& 31)) (zC P q49) (by omega) (by omega)) q396 sq_L_below rfl rfl (Nat.le_of_ble_eq_true rfl) (Nat.le_of_ble_eq_true rfl) (Nat.le_of_ble_eq_true rfl) ⟨by show _ ≤ 610524; omega, by show _ ≤ 7270126; omega⟩ dL_law_210 (fun r9 M9 hp => ?_)
      refine rg_widen (k2 := k) (n2 := n) (by omega) (by omega) ?_
      obtain ⟨q210, hq210, hr9, hp⟩ := hp
      refine rg_top (v2 := .int (nI q210)) (by rw [hr9]) ?_
      refine rg_mem (M2 := M) hp ?_
      refine rg_istore F (pc := 213) (lv' := [some (.ref (rSb D)), some (.ref (x)), some (.int (nI tm)), some (.int (y)), some (.int (nI nL)), some (.int (nI nW)), some (.int (nI q49)), some (.int (nI q59)), some (.int (nI (zC P q49))), some (.long (zDig P nW nL)), none, some (.int (nI q210)), none, none, none, none, none, none, none, none, none, none, none, none, none, none]) dL_law_213 (Nat.le_of_ble_eq_true rfl) rfl ?_
      refine rg_aload_n F (pc := 215) dL_law_215 rfl ?_
      refine rg_iload F (pc := 216) dL_law_216 rfl ?_
      refine rg_iload F (pc := 218) dL_law_218 rfl ?_
      refine rg_callVi F (pc := 220) (As := [.int (nI q49), .int (nI q210)]) (rest := []) (ci := 4) (c_written l D _ x P nW nL u q49 q210 hV hq49 hq210) q426 vq_X3_written rfl hO1.2.1 rfl rfl (Nat.le_of_ble_eq_true rfl) (Nat.le_of_ble_eq_true rfl) (Nat.le_of_ble_eq_true rfl) ⟨by show _ ≤ 610524; omega, by show _ ≤ 7270126; omega⟩ dL_law_220 (fun r9 M9 hp => ?_)
      refine rg_widen (k2 := k) (n2 := n) (by omega) (by omega) ?_
      refine rg_top (v2 := .int (nI (zR P q49 q210))) (by first | (rw [hp.1]; done) | (rw [hp.1]; rfl)) ?_
      refine rg_mem (M2 := M) hp.2 ?_
      refine rg_istore F (pc := 223) (lv' := [some (.ref (rSb D)), some (.ref (x)), some (.int (nI tm)), some (.int (y)), some (.int (nI nL)), some (.int (nI nW)), some (.int (nI q49)), some (.int (nI q59)), some (.int (nI (zC P q49))), some (.long (zDig P nW nL)), none, some (.int (nI q210)), some (.int (nI (zR P q49 q210))), none, none, none, none, none, none, none, none, none, none, none, none, none]) dL_law_223 (Nat.le_of_ble_eq_true rfl) rfl ?_
      refine rg_aload_n F (pc := 225) dL_law_225 rfl ?_
      refine rg_iload F (pc := 226) dL_law_226 rfl ?_
      refine rg_iload F (pc := 228) dL_law_228 rfl ?_
      refine rg_iload F (pc := 230) dL_law_230 rfl ?_
      refine rg_callVi F (pc := 232) (As := [.int (nI q49), .int (nI q210), .int (nI q59)]) (rest := []) (ci := 4) (c_tries l D _ x P nW nL u q49 q210 q59 hV hq49 hq210 hq59) q429 vq_X3_tries rfl hO1.2.1 rfl rfl (Nat.le_of_ble_eq_true rfl) (Nat.le_of_ble_eq_true rfl) (Nat.le_of_ble_eq_true rfl) ⟨by show _ ≤ 610524; omega, by show _ ≤ 7270126; omega⟩ dL_law_232 (fun r9 M1 hp => ?_)
      refine rg_widen (k2 := k) (n2 := n) (by omega) (by omega) ?_
      obtain ⟨hr9, hVa⟩ := hp
      refine rg_top (v2 := .int (nI (zTry P q49 q210 q59 nL))) (by rw [hr9]) ?_
      have hty := zTry_le hO1.1 hq49 hq210 hq59
      have hO5 := cV_see hVa
      refine rg_istore F (pc := 235) (lv' := [some (.ref (rSb D)), some (.ref (x)), some (.int (nI tm)), some (.int (y)), some (.int (nI nL)), some (.int (nI nW)), some (.int (nI q49)), some (.int (nI q59)), some (.int (nI (zC P q49))), some (.long (zDig P nW nL)), none, some (.int (nI q210)), some (.int (nI (zR P q49 q210))), some (.int (nI (zTry P q49 q210 q59 nL))), none, none, none, none, none, none, none, none, none, none, none, none]) dL_law_235 (Nat.le_of_ble_eq_true rfl) rfl ?_
      refine rg_aload_n F (pc := 237) dL_law_237 rfl ?_
      refine rg_callVl F (pc := 238) (As := []) (rest := []) (ci := 4) (c_digest l D _ x P nW nL u hVa) q420 vq_X3_digest rfl hO5.2.1 rfl rfl (Nat.le_of_ble_eq_true rfl) (Nat.le_of_ble_eq_true rfl) (Nat.le_of_ble_eq_true rfl) ⟨by show _ ≤ 610524; omega, by show _ ≤ 7270126; omega⟩ dL_law_238 (fun r9 M9 hp => ?_)
      refine rg_widen (k2 := k) (n2 := n) (by omega) (by omega) ?_
      refine rg_top (v2 := .long (zDig P nW nL)) (by first | (rw [hp.1]; done) | (rw [hp.1]; rfl)) ?_
      refine rg_mem (M2 := M1) hp.2 ?_
      refine rg_lload F (pc := 241) dL_law_241 rfl ?_
      refine rg_lcmp F (pc := 243) (v := nI 0) dL_law_243 (lc_self _) ?_
      refine rg_nif_ne F (pc := 244) (tgt := 286) dL_law_244 (by decide) (by omega) (fun c244 => by exfalso; omega) (fun c244 => ?_)
      refine rg_aload_n F (pc := 247) dL_law_247 rfl ?_
      refine rg_iload F (pc := 248) dL_law_248 rfl ?_
      refine rg_iload F (pc := 250) dL_law_250 rfl ?_
      refine rg_iload F (pc := 252) dL_law_252 rfl ?_
      refine rg_callVi F (pc := 254) (As := [.int (nI q49), .int (nI q210), .int (nI q59)]) (rest := []) (ci := 4) (c_writeB l D _ x P nW nL u q49 q210 q59 hVa hq49 hq59 hq210) q405 vq_X3_write rfl hO5.2.1 rfl rfl (Nat.le_of_ble_eq_true rfl) (Nat.le_of_ble_eq_true rfl) (Nat.le_of_ble_eq_true rfl) ⟨by show _ ≤ 610524; omega, by show _ ≤ 7270126; omega⟩ dL_law_254 (fun r9 M2 hp => ?_)
      refine rg_widen (k2 := k) (n2 := n) (by omega) (by omega) ?_
      obtain ⟨hr9, hVb⟩ := hp
      refine rg_top (v2 := .int (nI (zC P q49))) (by rw [hr9, zPut_b hq210]) ?_
      have hO6 := cV_see hVb
      refine rg_iload F (pc := 257) dL_law_257 rfl ?_
      refine rg_ncmp_ne F (pc := 259) (tgt := 286) dL_law_259 (by decide) (by omega) (by omega) (fun c259 => by exfalso; omega) (fun c259 => ?_)
      refine rg_aload_n F (pc := 262) dL_law_262 rfl ?_
      refine rg_bipush F (pc := 263) (v := nI 6) dL_law_263 (by decide) ?_
      refine rg_callVi F (pc := 265) (As := [.int (nI 6)]) (rest := []) (ci := 4) (c_count l D _ x (zPut P q49 q210 q59) nW nL u 6 hVb (by decide)) q409 vq_X3_count rfl hO6.2.1 rfl rfl (Nat.le_of_ble_eq_true rfl) (Nat.le_of_ble_eq_true rfl) (Nat.le_of_ble_eq_true rfl) ⟨by show _ ≤ 610524; omega, by show _ ≤ 7270126; omega⟩ dL_law_265 (fun r9 M9 hp => ?_)
      refine rg_widen (k2 := k) (n2 := n) (by omega) (by omega) ?_
      refine rg_top (v2 := .int (nI (zTry P q49 q210 q59 nL))) (by first | (rw [hp.1]; done) | (rw [hp.1]; rfl)) ?_
      refine rg_mem (M2 := M2) hp.2 ?_
      refine rg_iload F (pc := 268) dL_law_268 rfl ?_
      refine rg_ncmp_ne F (pc := 270) (tgt := 286) dL_law_270 (by decide) (by omega) (by omega) (fun c270 => by exfalso; omega) (fun c270 => ?_)
      refine rg_aload_n F (pc := 273) dL_law_273 rfl ?_
      refine rg_iload F (pc := 274) dL_law_274 rfl ?_
      refine rg_iload F (pc := 276) dL_law_276 rfl ?_
      refine rg_iload F (pc := 278) dL_law_278 rfl ?_
      have hp2 : q210 < zC (zPut P q49 q210 q59) q49 := by rw [zPut_b hq210]; exact hq210
      have hw2 : zR P q49 q210 < nW := hlk.2.2.2.2.2 q210 hq210
      have hty2 := zTry_le hO6.1 hq49 hp2 hw2
      refine rg_callVi F (pc := 280) (As := [.int (nI q49), .int (nI q210), .int (nI (zR P q49 q210))]) (rest := []) (ci := 4) (c_tries l D _ x (zPut P q49 q210 q59) nW nL u q49 q210 (zR P q49 q210) hVb hq49 hp2 hw2) q429 vq_X3_tries rfl hO6.2.1 rfl rfl (Nat.le_of_ble_eq_true rfl) (Nat.le_of_ble_eq_true rfl) (Nat.le_of_ble_eq_true rfl) ⟨by show _ ≤ 610524; omega, by show _ ≤ 7270126; omega⟩ dL_law_280 (fun r9 M3 hp => ?_)
      refine rg_widen (k2 := k) (n2 := n) (by omega) (by omega) ?_
      obtain ⟨hr9, hVc⟩ := hp
      refine rg_top (v2 := .int (nI (zTry (zPut P q49 q210 q59) q49 q210 (zR P q49 q210) nL))) (by rw [hr9]) ?_
      have hO7 := cV_see hVc
      refine rg_if_ge F (pc := 283) (tgt := 541) dL_law_283 (by decide) (fun _ => ?_) (fun c9 => absurd (nI_pos' (by omega)) c9)
      refine rg_sub (lv' := [some (.ref (rSb D)), some (.ref (x)), some (.int (nI tm)), none, none, none, some (.int (nI q49)), none, none, none, none, none, none, none, none, none, none, none, none, none, none, none, none, none, none, none]) (by repeat' constructor) ?_
      refine rg_widen (k2 := k + 20) (n2 := n + 2000) (by omega) (by omega) ?_
      exact KK _ _ _ _ _ q49 hVc (by omega) (by omega) (by omega)
    · refine rg_goto F (pc := 201) (tgt := 541) dL_law_201 (by decide) ?_
      refine rg_sub (lv' := [some (.ref (rSb D)), some (.ref (x)), some (.int (nI tm)), none, none, none, some (.int (nI q49)), none, none, none, none, none, none, none, none, none, none, none, none, none, none, none, none, none, none, none]) (by repeat' constructor) ?_
      refine rg_widen (k2 := k + 20) (n2 := n + 2000) (by omega) (by omega) ?_
      exact KK _ _ _ _ _ q49 hV (by omega) (by omega) (by omega)
  · refine rg_tab F (pc := 84) (off := 204) (tgt := 288) dL_law_84 (by decide) (by decide) (by decide) (by decide) ?_
    refine rg_iload F (pc := 288) dL_law_288 rfl ?_
    refine rg_nif_eq F (pc := 290) (tgt := 541) dL_law_290 (by decide) (by omega) (fun c290 => ?_) (fun c290 => ?_)
    · refine rg_sub (lv' := [some (.ref (rSb D)), some (.ref (x)), some (.int (nI tm)), none, none, none, some (.int (nI q49)), none, none, none, none, none, none, none, none, none, none, none, none, none, none, none, none, none, none, none]) (by repeat' constructor) ?_
      refine rg_widen (k2 := k + 20) (n2 := n + 2000) (by omega) (by omega) ?_
      exact KK _ _ _ _ _ q49 hV (by omega) (by omega) (by omega)
    · refine rg_iload_n F (pc := 293) dL_law_293 rfl ?_
      refine rg_bipush F (pc := 294) (v := nI 6) dL_law_294 (by decide) ?_
      refine rg_ishr F (pc := 296) (v := y >>> ((nI 6) &&& 31)) dL_law_296 rfl ?_
      refine rg_iconst F (pc := 297) (v := nI 2) dL_law_297 (by decide) ?_
      refine rg_callSi F (pc := 298) (As := [.int (y >>> ((nI 6) &&& 31)), .int (nI 2)]) (rest := []) (c_below l D _ (y >>> ((nI 6) &&& 31)) 2 (by omega) (by omega)) q396 sq_L_below rfl rfl (Nat.le_of_ble_eq_true rfl) (Nat.le_of_ble_eq_true rfl) (Nat.le_of_ble_eq_true rfl) ⟨by show _ ≤ 610524; omega, by show _ ≤ 7270126; omega⟩ dL_law_298 (fun r9 M9 hp => ?_)
      refine rg_widen (k2 := k) (n2 := n) (by omega) (by omega) ?_
      obtain ⟨q298, hq298, hr9, hp⟩ := hp
      refine rg_top (v2 := .int (nI q298)) (by rw [hr9]) ?_
      refine rg_mem (M2 := M) hp ?_
      refine rg_nif_ne F (pc := 301) (tgt := 307) dL_law_301 (by decide) (by omega) (fun c301 => ?_) (fun c301 => ?_)
      · refine rg_aload_n F (pc := 307) dL_law_307 rfl ?_
        refine rg_iload F (pc := 308) dL_law_308 rfl ?_
        refine rg_iload F (pc := 310) dL_law_310 rfl ?_
        refine rg_iconst F (pc := 312) (v := nI 1) dL_law_312 (by decide) ?_
        refine rg_isub F (pc := 313) (v := nI ((zC P q49) - 1)) dL_law_313 (pk_sub (by omega)) ?_
        have hw3 := hlk.2.2.2.2.2 (zC P q49 - 1) (by omega)
        refine rg_callVi F (pc := 314) (As := [.int (nI q49), .int (nI ((zC P q49) - 1))]) (rest := []) (ci := 4) (c_written l D _ x P nW nL u q49 (zC P q49 - 1) hV hq49 (by omega)) q426 vq_X3_written rfl hO1.2.1 rfl rfl (Nat.le_of_ble_eq_true rfl) (Nat.le_of_ble_eq_true rfl) (Nat.le_of_ble_eq_true rfl) ⟨by show _ ≤ 610524; omega, by show _ ≤ 7270126; omega⟩ dL_law_314 (fun r9 M9 hp => ?_)
        refine rg_widen (k2 := k) (n2 := n) (by omega) (by omega) ?_
        refine rg_top (v2 := .int (nI (zR P q49 (zC P q49 - 1)))) (by first | (rw [hp.1]; done) | (rw [hp.1]; rfl)) ?_
        refine rg_mem (M2 := M) hp.2 ?_
        refine rg_istore F (pc := 317) (lv' := [some (.ref (rSb D)), some (.ref (x)), some (.int (nI tm)), some (.int (y)), some (.int (nI nL)), some (.int (nI nW)), some (.int (nI q49)), some (.int (nI q59)), some (.int (nI (zC P q49))), some (.long (zDig P nW nL)), none, some (.int (nI (zR P q49 (zC P q49 - 1)))), none, none, none, none, none, none, none, none, none, none, none, none, none, none]) dL_law_317 (Nat.le_of_ble_eq_true rfl) rfl ?_
        refine rg_aload_n F (pc := 319) dL_law_319 rfl ?_
        refine rg_iload F (pc := 320) dL_law_320 rfl ?_
        refine rg_callVi F (pc := 322) (As := [.int (nI q49)]) (rest := []) (ci := 4) (c_strike l D _ x P nW nL u q49 hV hq49 (by omega)) q423 vq_X3_strike rfl hO1.2.1 rfl rfl (Nat.le_of_ble_eq_true rfl) (Nat.le_of_ble_eq_true rfl) (Nat.le_of_ble_eq_true rfl) ⟨by show _ ≤ 610524; omega, by show _ ≤ 7270126; omega⟩ dL_law_322 (fun r9 M1 hp => ?_)
        refine rg_widen (k2 := k) (n2 := n) (by omega) (by omega) ?_
        obtain ⟨hr9, hVa⟩ := hp
        refine rg_top (v2 := .int (nI (zR P q49 (zC P q49 - 1)))) (by rw [hr9]) ?_
        have hO8 := cV_see hVa
        refine rg_iload F (pc := 325) dL_law_325 rfl ?_
        refine rg_ncmp_ne F (pc := 327) (tgt := 344) dL_law_327 (by decide) (by omega) (by omega) (fun c327 => by exfalso; omega) (fun c327 => ?_)
        refine rg_aload_n F (pc := 330) dL_law_330 rfl ?_
        refine rg_iload F (pc := 331) dL_law_331 rfl ?_
        refine rg_iconst F (pc := 333) (v := nI 3) dL_law_333 (by decide) ?_
        refine rg_callVi F (pc := 334) (As := [.int (nI q49), .int (nI 3)]) (rest := []) (ci := 4) (c_told l D _ x (zDrop P q49) nW nL u q49 3 hVa (by omega) (by decide)) q412 vq_X3_told rfl hO8.2.1 rfl rfl (Nat.le_of_ble_eq_true rfl) (Nat.le_of_ble_eq_true rfl) (Nat.le_of_ble_eq_true rfl) ⟨by show _ ≤ 610524; omega, by show _ ≤ 7270126; omega⟩ dL_law_334 (fun r9 M9 hp => ?_)
        refine rg_widen (k2 := k) (n2 := n) (by omega) (by omega) ?_
        refine rg_top (v2 := .int (nI (zC P q49 - 1))) (by rw [hp.1]; show Value.int (nI (zC (zDrop P q49) q49)) = _; rw [zDrop_c]) ?_
        refine rg_mem (M2 := M1) hp.2 ?_
        refine rg_iload F (pc := 337) dL_law_337 rfl ?_
        refine rg_iconst F (pc := 339) (v := nI 1) dL_law_339 (by decide) ?_
        refine rg_isub F (pc := 340) (v := nI ((zC P q49) - 1)) dL_law_340 (pk_sub (by omega)) ?_
        refine rg_ncmp_eq F (pc := 341) (tgt := 541) dL_law_341 (by decide) (by omega) (by omega) (fun c341 => ?_) (fun c341 => by exfalso; omega)
        refine rg_sub (lv' := [some (.ref (rSb D)), some (.ref (x)), some (.int (nI tm)), none, none, none, some (.int (nI q49)), none, none, none, none, none, none, none, none, none, none, none, none, none, none, none, none, none, none, none]) (by repeat' constructor) ?_
        refine rg_widen (k2 := k + 20) (n2 := n + 2000) (by omega) (by omega) ?_
        exact KK _ _ _ _ _ q49 hVa (by omega) (by omega) (by omega)
      · refine rg_goto F (pc := 304) (tgt := 541) dL_law_304 (by decide) ?_
        refine rg_sub (lv' := [some (.ref (rSb D)), some (.ref (x)), some (.int (nI tm)), none, none, none, some (.int (nI q49)), none, none, none, none, none, none, none, none, none, none, none, none, none, none, none, none, none, none, none]) (by repeat' constructor) ?_
        refine rg_widen (k2 := k + 20) (n2 := n + 2000) (by omega) (by omega) ?_
        exact KK _ _ _ _ _ q49 hV (by omega) (by omega) (by omega)
  · refine rg_tab F (pc := 84) (off := 262) (tgt := 346) dL_law_84 (by decide) (by decide) (by decide) (by decide) ?_
    refine rg_iload F (pc := 346) dL_law_346 rfl ?_
    refine rg_bipush F (pc := 348) (v := nI 30) dL_law_348 (by decide) ?_
    refine rg_ncmp_ne F (pc := 350) (tgt := 356) dL_law_350 (by decide) (by omega) (by omega) (fun c350 => ?_) (fun c350 => ?_)
    · refine rg_aload_n F (pc := 356) dL_law_356 rfl ?_
      refine rg_iconst F (pc := 357) (v := nI 1) dL_law_357 (by decide) ?_
      refine rg_iload_n F (pc := 358) dL_law_358 rfl ?_
      refine rg_iconst F (pc := 359) (v := nI 5) dL_law_359 (by decide) ?_
      refine rg_ishr F (pc := 360) (v := y >>> ((nI 5) &&& 31)) dL_law_360 rfl ?_
      refine rg_iconst F (pc := 361) (v := nI 4) dL_law_361 (by decide) ?_
      refine rg_callSi F (pc := 362) (As := [.int (y >>> ((nI 5) &&& 31)), .int (nI 4)]) (rest := [.int (nI 1), .ref (x)]) (c_below l D _ (y >>> ((nI 5) &&& 31)) 4 (by omega) (by omega)) q396 sq_L_below rfl rfl (Nat.le_of_ble_eq_true rfl) (Nat.le_of_ble_eq_true rfl) (Nat.le_of_ble_eq_true rfl) ⟨by show _ ≤ 610524; omega, by show _ ≤ 7270126; omega⟩ dL_law_362 (fun r9 M9 hp => ?_)
      refine rg_widen (k2 := k) (n2 := n) (by omega) (by omega) ?_
      obtain ⟨q362, hq362, hr9, hp⟩ := hp
      refine rg_top (v2 := .int (nI q362)) (by rw [hr9]) ?_
      refine rg_mem (M2 := M) hp ?_
      refine rg_iadd F (pc := 365) (v := nI (1 + q362)) dL_law_365 (nI_add _ _) ?_
      refine rg_iload_n F (pc := 366) dL_law_366 rfl ?_
      refine rg_bipush F (pc := 367) (v := nI 6) dL_law_367 (by decide) ?_
      refine rg_ishr F (pc := 369) (v := y >>> ((nI 6) &&& 31)) dL_law_369 rfl ?_
      refine rg_iconst F (pc := 370) (v := nI 2) dL_law_370 (by decide) ?_
      refine rg_callSi F (pc := 371) (As := [.int (y >>> ((nI 6) &&& 31)), .int (nI 2)]) (rest := [.int (nI (1 + q362)), .ref (x)]) (c_below l D _ (y >>> ((nI 6) &&& 31)) 2 (by omega) (by omega)) q396 sq_L_below rfl rfl (Nat.le_of_ble_eq_true rfl) (Nat.le_of_ble_eq_true rfl) (Nat.le_of_ble_eq_true rfl) ⟨by show _ ≤ 610524; omega, by show _ ≤ 7270126; omega⟩ dL_law_371 (fun r9 M9 hp => ?_)
      refine rg_widen (k2 := k) (n2 := n) (by omega) (by omega) ?_
      obtain ⟨q371, hq371, hr9, hp⟩ := hp
      refine rg_top (v2 := .int (nI q371)) (by rw [hr9]) ?_
      refine rg_mem (M2 := M) hp ?_
      refine rg_iload_n F (pc := 374) dL_law_374 rfl ?_
      refine rg_bipush F (pc := 375) (v := nI 7) dL_law_375 (by decide) ?_
      refine rg_ishr F (pc := 377) (v := y >>> ((nI 7) &&& 31)) dL_law_377 rfl ?_
      refine rg_bipush F (pc := 378) (v := nI 10) dL_law_378 (by decide) ?_
      refine rg_callSi F (pc := 380) (As := [.int (y >>> ((nI 7) &&& 31)), .int (nI 10)]) (rest := [.int (nI q371), .int (nI (1 + q362)), .ref (x)]) (c_below l D _ (y >>> ((nI 7) &&& 31)) 10 (by omega) (by omega)) q396 sq_L_below rfl rfl (Nat.le_of_ble_eq_true rfl) (Nat.le_of_ble_eq_true rfl) (Nat.le_of_ble_eq_true rfl) ⟨by show _ ≤ 610524; omega, by show _ ≤ 7270126; omega⟩ dL_law_380 (fun r9 M9 hp => ?_)
      refine rg_widen (k2 := k) (n2 := n) (by omega) (by omega) ?_
      obtain ⟨q380, hq380, hr9, hp⟩ := hp
      refine rg_top (v2 := .int (nI q380)) (by rw [hr9]) ?_
      refine rg_mem (M2 := M) hp ?_
      refine rg_iload_n F (pc := 383) dL_law_383 rfl ?_
      refine rg_iconst F (pc := 384) (v := nI 3) dL_law_384 (by decide) ?_
      refine rg_ishr F (pc := 385) (v := y >>> ((nI 3) &&& 31)) dL_law_385 rfl ?_
      refine rg_iconst F (pc := 386) (v := nI 2) dL_law_386 (by decide) ?_
      refine rg_callSi F (pc := 387) (As := [.int (y >>> ((nI 3) &&& 31)), .int (nI 2)]) (rest := [.int (nI q380), .int (nI q371), .int (nI (1 + q362)), .ref (x)]) (c_below l D _ (y >>> ((nI 3) &&& 31)) 2 (by omega) (by omega)) q396 sq_L_below rfl rfl (Nat.le_of_ble_eq_true rfl) (Nat.le_of_ble_eq_true rfl) (Nat.le_of_ble_eq_true rfl) ⟨by show _ ≤ 610524; omega, by show _ ≤ 7270126; omega⟩ dL_law_387 (fun r9 M9 hp => ?_)
      refine rg_widen (k2 := k) (n2 := n) (by omega) (by omega) ?_
      obtain ⟨q387, hq387, hr9, hp⟩ := hp
      refine rg_top (v2 := .int (nI q387)) (by rw [hr9]) ?_
      refine rg_mem (M2 := M) hp ?_
      refine rg_iload_n F (pc := 390) dL_law_390 rfl ?_
      refine rg_iconst F (pc := 391) (v := nI 4) dL_law_391 (by decide) ?_
      refine rg_ishr F (pc := 392) (v := y >>> ((nI 4) &&& 31)) dL_law_392 rfl ?_
      refine rg_iconst F (pc := 393) (v := nI 2) dL_law_393 (by decide) ?_
      refine rg_callSi F (pc := 394) (As := [.int (y >>> ((nI 4) &&& 31)), .int (nI 2)]) (rest := [.int (nI q387), .int (nI q380), .int (nI q371), .int (nI (1 + q362)), .ref (x)]) (c_below l D _ (y >>> ((nI 4) &&& 31)) 2 (by omega) (by omega)) q396 sq_L_below rfl rfl (Nat.le_of_ble_eq_true rfl) (Nat.le_of_ble_eq_true rfl) (Nat.le_of_ble_eq_true rfl) ⟨by show _ ≤ 610524; omega, by show _ ≤ 7270126; omega⟩ dL_law_394 (fun r9 M9 hp => ?_)
      refine rg_widen (k2 := k) (n2 := n) (by omega) (by omega) ?_
      obtain ⟨q394, hq394, hr9, hp⟩ := hp
      refine rg_top (v2 := .int (nI q394)) (by rw [hr9]) ?_
      refine rg_mem (M2 := M) hp ?_
      refine rg_nif_ne F (pc := 397) (tgt := 404) dL_law_397 (by decide) (by omega) (fun c397 => ?_) (fun c397 => ?_)
      · refine rg_iconst F (pc := 404) (v := nI 0) dL_law_404 (by decide) ?_
        refine rg_callVi F (pc := 405) (As := [.int (nI (1 + q362)), .int (nI q371), .int (nI q380), .int (nI q387), .int (nI 0)]) (rest := []) (ci := 4) (c_word l D _ x P nW nL u (1 + q362) q371 q380 q387 0 hV (by omega) (by omega) (by omega) (Nat.lt_of_lt_of_le (show q371 < 2 ^ 1 from hq371) (Nat.pow_le_pow_right (by decide) (by omega))) (by omega) (by omega) (by omega)) q399 vq_X3_word rfl hO1.2.1 rfl rfl (Nat.le_of_ble_eq_true rfl) (Nat.le_of_ble_eq_true rfl) (Nat.le_of_ble_eq_true rfl) ⟨by show _ ≤ 610524; omega, by show _ ≤ 7270126; omega⟩ dL_law_405 (fun r9 M1 hp => ?_)
        obtain ⟨hr9, ua, hVa⟩ := hp
        refine rg_top (v2 := .int (nI nW)) (by rw [hr9]) ?_
        have hO9 := cV_see hVa
        have hall := zAll_le hO9.1 nL (Nat.le_refl _)
        refine rg_iload F (pc := 408) dL_law_408 rfl ?_
        refine rg_ncmp_ne F (pc := 410) (tgt := 436) dL_law_410 (by decide) (by omega) (by omega) (fun c410 => by exfalso; omega) (fun c410 => ?_)
        refine rg_aload_n F (pc := 413) dL_law_413 rfl ?_
        refine rg_iload F (pc := 414) dL_law_414 rfl ?_
        refine rg_iconst F (pc := 416) (v := nI 5) dL_law_416 (by decide) ?_
        refine rg_callVi F (pc := 417) (As := [.int (nI nW), .int (nI 5)]) (rest := []) (ci := 4) (c_about l D _ x (zNewW P nW (1 + q362) q371 q380 q387 0) (nW + 1) nL ua nW 5 hVa (by omega) (by decide)) q432 vq_X3_about rfl hO9.2.1 rfl rfl (Nat.le_of_ble_eq_true rfl) (Nat.le_of_ble_eq_true rfl) (Nat.le_of_ble_eq_true rfl) ⟨by show _ ≤ 610524; omega, by show _ ≤ 7270126; omega⟩ dL_law_417 (fun r9 M9 hp => ?_)
        refine rg_widen (k2 := (k + 2)) (n2 := (n + 106)) (by omega) (by omega) ?_
        refine rg_top (v2 := .int (nI 0)) (by rw [hp.1]; show Value.int (nI (zUses (zNewW P nW (1 + q362) q371 q380 q387 0) nW nL)) = _; rw [zUses_new hO1.1 nL (Nat.le_refl _)]) ?_
        refine rg_mem (M2 := M1) hp.2 ?_
        refine rg_nif_ne F (pc := 420) (tgt := 436) dL_law_420 (by decide) (by omega) (fun c420 => by exfalso; omega) (fun c420 => ?_)
        refine rg_aload_n F (pc := 423) dL_law_423 rfl ?_
        refine rg_bipush F (pc := 424) (v := nI 6) dL_law_424 (by decide) ?_
        refine rg_callVi F (pc := 426) (As := [.int (nI 6)]) (rest := []) (ci := 4) (c_count l D _ x (zNewW P nW (1 + q362) q371 q380 q387 0) (nW + 1) nL ua 6 hVa (by decide)) q409 vq_X3_count rfl hO9.2.1 rfl rfl (Nat.le_of_ble_eq_true rfl) (Nat.le_of_ble_eq_true rfl) (Nat.le_of_ble_eq_true rfl) ⟨by show _ ≤ 610524; omega, by show _ ≤ 7270126; omega⟩ dL_law_426 (fun r9 M9 hp => ?_)
        refine rg_widen (k2 := (k + 2)) (n2 := (n + 106)) (by omega) (by omega) ?_
        refine rg_top (v2 := .int (nI (zAll (zNewW P nW (1 + q362) q371 q380 q387 0) nL))) (by first | (rw [hp.1]; done) | (rw [hp.1]; rfl)) ?_
        refine rg_mem (M2 := M1) hp.2 ?_
        refine rg_aload_n F (pc := 429) dL_law_429 rfl ?_
        refine rg_callSi F (pc := 430) (As := [.ref (x)]) (rest := [.int (nI (zAll (zNewW P nW (1 + q362) q371 q380 q387 0) nL))]) (c_sum l D _ x (zNewW P nW (1 + q362) q371 q380 q387 0) (nW + 1) nL ua hVa) q435 sq_L_sum rfl rfl (Nat.le_of_ble_eq_true rfl) (Nat.le_of_ble_eq_true rfl) (Nat.le_of_ble_eq_true rfl) ⟨by show _ ≤ 610524; omega, by show _ ≤ 7270126; omega⟩ dL_law_430 (fun r9 M9 hp => ?_)
        refine rg_widen (k2 := (k + 2)) (n2 := (n + 106)) (by omega) (by omega) ?_
        refine rg_top (v2 := .int (nI (zAll (zNewW P nW (1 + q362) q371 q380 q387 0) nL))) (by first | (rw [hp.1]; done) | (rw [hp.1]; rfl)) ?_
        refine rg_mem (M2 := M1) hp.2 ?_
        refine rg_ncmp_eq F (pc := 433) (tgt := 541) dL_law_433 (by decide) (by omega) (by omega) (fun c433 => ?_) (fun c433 => by exfalso; omega)
        refine rg_sub (lv' := [some (.ref (rSb D)), some (.ref (x)), some (.int (nI tm)), none, none, none, some (.int (nI q49)), none, none, none, none, none, none, none, none, none, none, none, none, none, none, none, none, none, none, none]) (by repeat' constructor) ?_
        refine rg_widen (k2 := k + 20) (n2 := n + 2000) (by omega) (by omega) ?_
        exact KK _ _ _ _ _ q49 hVa (by omega) (by omega) (by omega)
      · refine rg_iconst F (pc := 400) (v := nI 1) dL_law_400 (by decide) ?_
        refine rg_goto F (pc := 401) (tgt := 405) dL_law_401 (by decide) ?_
        refine rg_callVi F (pc := 405) (As := [.int (nI (1 + q362)), .int (nI q371), .int (nI q380), .int (nI q387), .int (nI 1)]) (rest := []) (ci := 4) (c_word l D _ x P nW nL u (1 + q362) q371 q380 q387 1 hV (by omega) (by omega) (by omega) (Nat.lt_of_lt_of_le (show q371 < 2 ^ 1 from hq371) (Nat.pow_le_pow_right (by decide) (by omega))) (by omega) (by omega) (by omega)) q399 vq_X3_word rfl hO1.2.1 rfl rfl (Nat.le_of_ble_eq_true rfl) (Nat.le_of_ble_eq_true rfl) (Nat.le_of_ble_eq_true rfl) ⟨by show _ ≤ 610524; omega, by show _ ≤ 7270126; omega⟩ dL_law_405 (fun r9 M1 hp => ?_)
        obtain ⟨hr9, ua, hVa⟩ := hp
        refine rg_top (v2 := .int (nI nW)) (by rw [hr9]) ?_
        have hO10 := cV_see hVa
        have hall := zAll_le hO10.1 nL (Nat.le_refl _)
        refine rg_iload F (pc := 408) dL_law_408 rfl ?_
        refine rg_ncmp_ne F (pc := 410) (tgt := 436) dL_law_410 (by decide) (by omega) (by omega) (fun c410 => by exfalso; omega) (fun c410 => ?_)
        refine rg_aload_n F (pc := 413) dL_law_413 rfl ?_
        refine rg_iload F (pc := 414) dL_law_414 rfl ?_
        refine rg_iconst F (pc := 416) (v := nI 5) dL_law_416 (by decide) ?_
        refine rg_callVi F (pc := 417) (As := [.int (nI nW), .int (nI 5)]) (rest := []) (ci := 4) (c_about l D _ x (zNewW P nW (1 + q362) q371 q380 q387 1) (nW + 1) nL ua nW 5 hVa (by omega) (by decide)) q432 vq_X3_about rfl hO10.2.1 rfl rfl (Nat.le_of_ble_eq_true rfl) (Nat.le_of_ble_eq_true rfl) (Nat.le_of_ble_eq_true rfl) ⟨by show _ ≤ 610524; omega, by show _ ≤ 7270126; omega⟩ dL_law_417 (fun r9 M9 hp => ?_)
        refine rg_widen (k2 := (k + 2)) (n2 := (n + 106)) (by omega) (by omega) ?_
        refine rg_top (v2 := .int (nI 0)) (by rw [hp.1]; show Value.int (nI (zUses (zNewW P nW (1 + q362) q371 q380 q387 1) nW nL)) = _; rw [zUses_new hO1.1 nL (Nat.le_refl _)]) ?_
        refine rg_mem (M2 := M1) hp.2 ?_
        refine rg_nif_ne F (pc := 420) (tgt := 436) dL_law_420 (by decide) (by omega) (fun c420 => by exfalso; omega) (fun c420 => ?_)
        refine rg_aload_n F (pc := 423) dL_law_423 rfl ?_
        refine rg_bipush F (pc := 424) (v := nI 6) dL_law_424 (by decide) ?_
        refine rg_callVi F (pc := 426) (As := [.int (nI 6)]) (rest := []) (ci := 4) (c_count l D _ x (zNewW P nW (1 + q362) q371 q380 q387 1) (nW + 1) nL ua 6 hVa (by decide)) q409 vq_X3_count rfl hO10.2.1 rfl rfl (Nat.le_of_ble_eq_true rfl) (Nat.le_of_ble_eq_true rfl) (Nat.le_of_ble_eq_true rfl) ⟨by show _ ≤ 610524; omega, by show _ ≤ 7270126; omega⟩ dL_law_426 (fun r9 M9 hp => ?_)
        refine rg_widen (k2 := (k + 2)) (n2 := (n + 106)) (by omega) (by omega) ?_
        refine rg_top (v2 := .int (nI (zAll (zNewW P nW (1 + q362) q371 q380 q387 1) nL))) (by first | (rw [hp.1]; done) | (rw [hp.1]; rfl)) ?_
        refine rg_mem (M2 := M1) hp.2 ?_
        refine rg_aload_n F (pc := 429) dL_law_429 rfl ?_
        refine rg_callSi F (pc := 430) (As := [.ref (x)]) (rest := [.int (nI (zAll (zNewW P nW (1 + q362) q371 q380 q387 1) nL))]) (c_sum l D _ x (zNewW P nW (1 + q362) q371 q380 q387 1) (nW + 1) nL ua hVa) q435 sq_L_sum rfl rfl (Nat.le_of_ble_eq_true rfl) (Nat.le_of_ble_eq_true rfl) (Nat.le_of_ble_eq_true rfl) ⟨by show _ ≤ 610524; omega, by show _ ≤ 7270126; omega⟩ dL_law_430 (fun r9 M9 hp => ?_)
        refine rg_widen (k2 := (k + 2)) (n2 := (n + 106)) (by omega) (by omega) ?_
        refine rg_top (v2 := .int (nI (zAll (zNewW P nW (1 + q362) q371 q380 q387 1) nL))) (by first | (rw [hp.1]; done) | (rw [hp.1]; rfl)) ?_
        refine rg_mem (M2 := M1) hp.2 ?_
        refine rg_ncmp_eq F (pc := 433) (tgt := 541) dL_law_433 (by decide) (by omega) (by omega) (fun c433 => ?_) (fun c433 => by exfalso; omega)
        refine rg_sub (lv' := [some (.ref (rSb D)), some (.ref (x)), some (.int (nI tm)), none, none, none, some (.int (nI q49)), none, none, none, none, none, none, none, none, none, none, none, none, none, none, none, none, none, none, none]) (by repeat' constructor) ?_
        refine rg_widen (k2 := k + 20) (n2 := n + 2000) (by omega) (by omega) ?_
        exact KK _ _ _ _ _ q49 hVa (by omega) (by omega) (by omega)
    · refine rg_goto F (pc := 353) (tgt := 541) dL_law_353 (by decide) ?_
      refine rg_sub (lv' := [some (.ref (rSb D)), some (.ref (x)), some (.int (nI tm)), none, none, none, some (.int (nI q49)), none, none, none, none, none, none, none, none, none, none, none, none, none, none, none, none, none, none, none]) (by repeat' constructor) ?_
      refine rg_widen (k2 := k + 20) (n2 := n + 2000) (by omega) (by omega) ?_
      exact KK _ _ _ _ _ q49 hV (by omega) (by omega) (by omega)
  · refine rg_tabO F (pc := 84) (tgt := 438) dL_law_84 (by decide) (by decide) ?_
    refine rg_iload F (pc := 438) dL_law_438 rfl ?_
    refine rg_bipush F (pc := 440) (v := nI 10) dL_law_440 (by decide) ?_
    refine rg_ncmp_eq F (pc := 442) (tgt := 541) dL_law_442 (by decide) (by omega) (by omega) (fun c442 => ?_) (fun c442 => ?_)
    · refine rg_sub (lv' := [some (.ref (rSb D)), some (.ref (x)), some (.int (nI tm)), none, none, none, some (.int (nI q49)), none, none, none, none, none, none, none, none, none, none, none, none, none, none, none, none, none, none, none]) (by repeat' constructor) ?_
      refine rg_widen (k2 := k + 20) (n2 := n + 2000) (by omega) (by omega) ?_
      exact KK _ _ _ _ _ q49 hV (by omega) (by omega) (by omega)
    · refine rg_iload_n F (pc := 445) dL_law_445 rfl ?_
      refine rg_bipush F (pc := 446) (v := nI 6) dL_law_446 (by decide) ?_
      refine rg_ishr F (pc := 448) (v := y >>> ((nI 6) &&& 31)) dL_law_448 rfl ?_
      refine rg_iconst F (pc := 449) (v := nI 2) dL_law_449 (by decide) ?_
      refine rg_callSi F (pc := 450) (As := [.int (y >>> ((nI 6) &&& 31)), .int (nI 2)]) (rest := []) (c_below l D _ (y >>> ((nI 6) &&& 31)) 2 (by omega) (by omega)) q396 sq_L_below rfl rfl (Nat.le_of_ble_eq_true rfl) (Nat.le_of_ble_eq_true rfl) (Nat.le_of_ble_eq_true rfl) ⟨by show _ ≤ 610524; omega, by show _ ≤ 7270126; omega⟩ dL_law_450 (fun r9 M9 hp => ?_)
      refine rg_widen (k2 := k) (n2 := n) (by omega) (by omega) ?_
      obtain ⟨q450, hq450, hr9, hp⟩ := hp
      refine rg_top (v2 := .int (nI q450)) (by rw [hr9]) ?_
      refine rg_mem (M2 := M) hp ?_
      refine rg_nif_ne F (pc := 453) (tgt := 459) dL_law_453 (by decide) (by omega) (fun c453 => ?_) (fun c453 => ?_)
      · refine rg_aload_n F (pc := 459) dL_law_459 rfl ?_
        refine rg_bipush F (pc := 460) (v := nI 6) dL_law_460 (by decide) ?_
        refine rg_callVi F (pc := 462) (As := [.int (nI 6)]) (rest := []) (ci := 4) (c_count l D _ x P nW nL u 6 hV (by decide)) q409 vq_X3_count rfl hO1.2.1 rfl rfl (Nat.le_of_ble_eq_true rfl) (Nat.le_of_ble_eq_true rfl) (Nat.le_of_ble_eq_true rfl) ⟨by show _ ≤ 610524; omega, by show _ ≤ 7270126; omega⟩ dL_law_462 (fun r9 M9 hp => ?_)
        refine rg_widen (k2 := k) (n2 := n) (by omega) (by omega) ?_
        refine rg_top (v2 := .int (nI (zAll P nL))) (by first | (rw [hp.1]; done) | (rw [hp.1]; rfl)) ?_
        refine rg_mem (M2 := M) hp.2 ?_
        refine rg_istore F (pc := 465) (lv' := [some (.ref (rSb D)), some (.ref (x)), some (.int (nI tm)), some (.int (y)), some (.int (nI nL)), some (.int (nI nW)), some (.int (nI q49)), some (.int (nI q59)), some (.int (nI (zC P q49))), some (.long (zDig P nW nL)), none, some (.int (nI (zAll P nL))), none, none, none, none, none, none, none, none, none, none, none, none, none, none]) dL_law_465 (Nat.le_of_ble_eq_true rfl) rfl ?_
        refine rg_aload_n F (pc := 467) dL_law_467 rfl ?_
        refine rg_iconst F (pc := 468) (v := nI 5) dL_law_468 (by decide) ?_
        refine rg_callVi F (pc := 469) (As := [.int (nI 5)]) (rest := []) (ci := 4) (c_count l D _ x P nW nL u 5 hV (by decide)) q409 vq_X3_count rfl hO1.2.1 rfl rfl (Nat.le_of_ble_eq_true rfl) (Nat.le_of_ble_eq_true rfl) (Nat.le_of_ble_eq_true rfl) ⟨by show _ ≤ 610524; omega, by show _ ≤ 7270126; omega⟩ dL_law_469 (fun r9 M9 hp => ?_)
        refine rg_widen (k2 := k) (n2 := n) (by omega) (by omega) ?_
        refine rg_top (v2 := .int (nI (zLost P nL))) (by first | (rw [hp.1]; done) | (rw [hp.1]; rfl)) ?_
        refine rg_mem (M2 := M) hp.2 ?_
        refine rg_istore F (pc := 472) (lv' := [some (.ref (rSb D)), some (.ref (x)), some (.int (nI tm)), some (.int (y)), some (.int (nI nL)), some (.int (nI nW)), some (.int (nI q49)), some (.int (nI q59)), some (.int (nI (zC P q49))), some (.long (zDig P nW nL)), none, some (.int (nI (zAll P nL))), some (.int (nI (zLost P nL))), none, none, none, none, none, none, none, none, none, none, none, none, none]) dL_law_472 (Nat.le_of_ble_eq_true rfl) rfl ?_
        refine rg_iconst F (pc := 474) (v := nI 1) dL_law_474 (by decide) ?_
        refine rg_iload_n F (pc := 475) dL_law_475 rfl ?_
        refine rg_iconst F (pc := 476) (v := nI 5) dL_law_476 (by decide) ?_
        refine rg_ishr F (pc := 477) (v := y >>> ((nI 5) &&& 31)) dL_law_477 rfl ?_
        refine rg_bipush F (pc := 478) (v := nI 6) dL_law_478 (by decide) ?_
        refine rg_callSi F (pc := 480) (As := [.int (y >>> ((nI 5) &&& 31)), .int (nI 6)]) (rest := [.int (nI 1)]) (c_below l D _ (y >>> ((nI 5) &&& 31)) 6 (by omega) (by omega)) q396 sq_L_below rfl rfl (Nat.le_of_ble_eq_true rfl) (Nat.le_of_ble_eq_true rfl) (Nat.le_of_ble_eq_true rfl) ⟨by show _ ≤ 610524; omega, by show _ ≤ 7270126; omega⟩ dL_law_480 (fun r9 M9 hp => ?_)
        refine rg_widen (k2 := k) (n2 := n) (by omega) (by omega) ?_
        obtain ⟨q480, hq480, hr9, hp⟩ := hp
        refine rg_top (v2 := .int (nI q480)) (by rw [hr9]) ?_
        refine rg_mem (M2 := M) hp ?_
        refine rg_iadd F (pc := 483) (v := nI (1 + q480)) dL_law_483 (nI_add _ _) ?_
        refine rg_istore F (pc := 484) (lv' := [some (.ref (rSb D)), some (.ref (x)), some (.int (nI tm)), some (.int (y)), some (.int (nI nL)), some (.int (nI nW)), some (.int (nI q49)), some (.int (nI q59)), some (.int (nI (zC P q49))), some (.long (zDig P nW nL)), none, some (.int (nI (zAll P nL))), some (.int (nI (zLost P nL))), some (.int (nI (1 + q480))), none, none, none, none, none, none, none, none, none, none, none, none]) dL_law_484 (Nat.le_of_ble_eq_true rfl) rfl ?_
        refine rg_aload_n F (pc := 486) dL_law_486 rfl ?_
        refine rg_iload_n F (pc := 487) dL_law_487 rfl ?_
        refine rg_iconst F (pc := 488) (v := nI 4) dL_law_488 (by decide) ?_
        refine rg_ishr F (pc := 489) (v := y >>> ((nI 4) &&& 31)) dL_law_489 rfl ?_
        refine rg_iconst F (pc := 490) (v := nI 4) dL_law_490 (by decide) ?_
        refine rg_callSi F (pc := 491) (As := [.int (y >>> ((nI 4) &&& 31)), .int (nI 4)]) (rest := [.ref (x)]) (c_below l D _ (y >>> ((nI 4) &&& 31)) 4 (by omega) (by omega)) q396 sq_L_below rfl rfl (Nat.le_of_ble_eq_true rfl) (Nat.le_of_ble_eq_true rfl) (Nat.le_of_ble_eq_true rfl) ⟨by show _ ≤ 610524; omega, by show _ ≤ 7270126; omega⟩ dL_law_491 (fun r9 M9 hp => ?_)
        refine rg_widen (k2 := k) (n2 := n) (by omega) (by omega) ?_
        obtain ⟨q491, hq491, hr9, hp⟩ := hp
        refine rg_top (v2 := .int (nI q491)) (by rw [hr9]) ?_
        refine rg_mem (M2 := M) hp ?_
        refine rg_iload F (pc := 494) dL_law_494 rfl ?_
        refine rg_iload_n F (pc := 496) dL_law_496 rfl ?_
        refine rg_bipush F (pc := 497) (v := nI 6) dL_law_497 (by decide) ?_
        refine rg_ishr F (pc := 499) (v := y >>> ((nI 6) &&& 31)) dL_law_499 rfl ?_
        refine rg_bipush F (pc := 500) (v := nI 6) dL_law_500 (by decide) ?_
        refine rg_callSi F (pc := 502) (As := [.int (y >>> ((nI 6) &&& 31)), .int (nI 6)]) (rest := [.int (nI (1 + q480)), .int (nI q491), .ref (x)]) (c_below l D _ (y >>> ((nI 6) &&& 31)) 6 (by omega) (by omega)) q396 sq_L_below rfl rfl (Nat.le_of_ble_eq_true rfl) (Nat.le_of_ble_eq_true rfl) (Nat.le_of_ble_eq_true rfl) ⟨by show _ ≤ 610524; omega, by show _ ≤ 7270126; omega⟩ dL_law_502 (fun r9 M9 hp => ?_)
        refine rg_widen (k2 := k) (n2 := n) (by omega) (by omega) ?_
        obtain ⟨q502, hq502, hr9, hp⟩ := hp
        refine rg_top (v2 := .int (nI q502)) (by rw [hr9]) ?_
        refine rg_mem (M2 := M) hp ?_
        refine rg_callVi F (pc := 505) (As := [.int (nI q491), .int (nI (1 + q480)), .int (nI q502)]) (rest := []) (ci := 4) (c_line l D _ x P nW nL u q491 (1 + q480) q502 hV (by omega) (by omega) (by omega) (by omega) (by omega)) q402 vq_X3_line rfl hO1.2.1 rfl rfl (Nat.le_of_ble_eq_true rfl) (Nat.le_of_ble_eq_true rfl) (Nat.le_of_ble_eq_true rfl) ⟨by show _ ≤ 610524; omega, by show _ ≤ 7270126; omega⟩ dL_law_505 (fun r9 M1 hp => ?_)
        obtain ⟨hr9, ua, hVa⟩ := hp
        refine rg_top (v2 := .int (nI nL)) (by rw [hr9]) ?_
        have hO11 := cV_see hVa
        have hall := zAll_le hO1.1 nL (Nat.le_refl _)
        have hlo : zLost P nL ≤ 2000 := zCnt_le hO1.1 5
        refine rg_iload F (pc := 508) dL_law_508 rfl ?_
        refine rg_ncmp_ne F (pc := 510) (tgt := 539) dL_law_510 (by decide) (by omega) (by omega) (fun c510 => by exfalso; omega) (fun c510 => ?_)
        refine rg_aload_n F (pc := 513) dL_law_513 rfl ?_
        refine rg_iload F (pc := 514) dL_law_514 rfl ?_
        refine rg_iconst F (pc := 516) (v := nI 5) dL_law_516 (by decide) ?_
        refine rg_callVi F (pc := 517) (As := [.int (nI nL), .int (nI 5)]) (rest := []) (ci := 4) (c_told l D _ x (zNewL P nL q491 (1 + q480) q502) nW (nL + 1) ua nL 5 hVa (by omega) (by decide)) q412 vq_X3_told rfl hO11.2.1 rfl rfl (Nat.le_of_ble_eq_true rfl) (Nat.le_of_ble_eq_true rfl) (Nat.le_of_ble_eq_true rfl) ⟨by show _ ≤ 610524; omega, by show _ ≤ 7270126; omega⟩ dL_law_517 (fun r9 M9 hp => ?_)
        refine rg_widen (k2 := (k + 3)) (n2 := (n + 120)) (by omega) (by omega) ?_
        refine rg_top (v2 := .int (nI (zLost P nL))) (by rw [hp.1]; show Value.int (nI (zCa (zNewL P nL q491 (1 + q480) q502) nL)) = _; rw [zNewL_ca h1L]) ?_
        refine rg_mem (M2 := M1) hp.2 ?_
        refine rg_iload F (pc := 520) dL_law_520 rfl ?_
        refine rg_ncmp_ne F (pc := 522) (tgt := 539) dL_law_522 (by decide) (by omega) (by omega) (fun c522 => by exfalso; omega) (fun c522 => ?_)
        refine rg_aload_n F (pc := 525) dL_law_525 rfl ?_
        refine rg_bipush F (pc := 526) (v := nI 6) dL_law_526 (by decide) ?_
        refine rg_callVi F (pc := 528) (As := [.int (nI 6)]) (rest := []) (ci := 4) (c_count l D _ x (zNewL P nL q491 (1 + q480) q502) nW (nL + 1) ua 6 hVa (by decide)) q409 vq_X3_count rfl hO11.2.1 rfl rfl (Nat.le_of_ble_eq_true rfl) (Nat.le_of_ble_eq_true rfl) (Nat.le_of_ble_eq_true rfl) ⟨by show _ ≤ 610524; omega, by show _ ≤ 7270126; omega⟩ dL_law_528 (fun r9 M9 hp => ?_)
        refine rg_widen (k2 := (k + 3)) (n2 := (n + 120)) (by omega) (by omega) ?_
        refine rg_top (v2 := .int (nI (zAll P nL + (1 + q480)))) (by rw [hp.1]; show Value.int (nI (zAll (zNewL P nL q491 (1 + q480) q502) (nL + 1))) = _; rw [zNewL_all]) ?_
        refine rg_mem (M2 := M1) hp.2 ?_
        refine rg_iload F (pc := 531) dL_law_531 rfl ?_
        refine rg_iload F (pc := 533) dL_law_533 rfl ?_
        refine rg_iadd F (pc := 535) (v := nI ((zAll P nL) + (1 + q480))) dL_law_535 (nI_add _ _) ?_
        refine rg_ncmp_eq F (pc := 536) (tgt := 541) dL_law_536 (by decide) (by omega) (by omega) (fun c536 => ?_) (fun c536 => by exfalso; omega)
        refine rg_sub (lv' := [some (.ref (rSb D)), some (.ref (x)), some (.int (nI tm)), none, none, none, some (.int (nI q49)), none, none, none, none, none, none, none, none, none, none, none, none, none, none, none, none, none, none, none]) (by repeat' constructor) ?_
        refine rg_widen (k2 := k + 20) (n2 := n + 2000) (by omega) (by omega) ?_
        exact KK _ _ _ _ _ q49 hVa (by omega) (by omega) (by omega)
      · refine rg_goto F (pc := 456) (tgt := 541) dL_law_456 (by decide) ?_
        refine rg_sub (lv' := [some (.ref (rSb D)), some (.ref (x)), some (.int (nI tm)), none, none, none, some (.int (nI q49)), none, none, none, none, none, none, none, none, none, none, none, none, none, none, none, none, none, none, none]) (by repeat' constructor) ?_
        refine rg_widen (k2 := k + 20) (n2 := n + 2000) (by omega) (by omega) ?_
        exact KK _ _ _ _ _ q49 hV (by omega) (by omega) (by omega)
end LAW
