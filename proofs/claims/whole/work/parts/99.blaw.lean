/-! the law's own rows -/
theorem lc_self (x : Int64) : lg_cmp x x = nI 0 := by
  unfold lg_cmp
  rw [if_neg (fun h => absurd (Int64.lt_iff_toInt_lt.mp h) (Int.lt_irrefl _)), if_pos rfl]
  rfl
theorem and31 (y : Int32) : ∃ q, q < 32 ∧ y &&& nI 31 = nI q := by
  obtain ⟨a, -, rfl⟩ := wb_of32 y
  exact ⟨a &&& 31, Nat.and_lt_two_pow (n := 5) a (by decide), nx_and a 31⟩
section LROW
variable {p : Program} {l : Launch} {e : Env} {R : Room} {s : State} {m : MethodId} {args : Array Value} {below : List Frame} {meth : Method} {c : Code} {cc : ByteArray} {nLo : Nat} {own : String} {D : va_G} {A : Nat → Prop} {Q : State → Prop} {M : rMem} {k n pc : Nat} {lv : List (Option Value)} {st : List Value} {b L : Nat} {xs : Nat → Int32}
theorem rg_sld (F : rF p l e R s m args below meth c cc nLo own D A) (hX : va_X b L xs s s.heap) (hbl : b < s.heap.size) (hbA : ¬ A b) (hL : L ≤ 3072) {j : Nat} (hj : j < L) (hd : decode cc pc = .ok (.iaload, 1)) (kk : rG p l e R s m args below meth c D A nLo Q M k n lv (pc + 1) (.int (xs j) :: st)) : rG p l e R s m args below meth c D A nLo Q M k n lv pc (.int (nI j) :: .ref b :: st) := by
  intro H locs ls hS hl
  have h := kk H locs ls hS hl
  rw [← show (nI j).toNatClampNeg = j from nI_clamp (by omega)] at h
  exact va_sld F.1 F.2.1 hX hbl hbA hS.2.2 (vp_in_nI hj (by omega)) hd h
theorem rg_slen (F : rF p l e R s m args below meth c cc nLo own D A) (hX : va_X b L xs s s.heap) (hbl : b < s.heap.size) (hbA : ¬ A b) (hd : decode cc pc = .ok (.arraylength, 1)) (kk : rG p l e R s m args below meth c D A nLo Q M k n lv (pc + 1) (.int (nI L) :: st)) : rG p l e R s m args below meth c D A nLo Q M k n lv pc (.ref b :: st) := fun H locs ls hS hl =>
  va_slen F.1 F.2.1 hX hbl hbA hS.2.2 hd (kk H locs ls hS hl)
theorem rg_dcm9 (F : rF p l e R s m args below meth c cc nLo own D A) {x y : UInt64} {op : CmpOp} (hd : decode cc pc = .ok (.dcmp op, 1)) (kk : rG p l e R s m args below meth c D A nLo Q M k n lv (pc + 1) (.int (Op.cmpValue (FP.dcmp x y) op) :: st)) : rG p l e R s m args below meth c D A nLo Q M k n lv pc (.double y :: .double x :: st) := fun H locs ls hS hl =>
  lv_dcmp F.1 F.2.1 hd (kk H locs ls hS hl)
end LROW
/-- class, cell and reference stand apart, for one poem -/
def lsA (D : va_G) (M : rMem) (x mo o : Nat) : Prop := ∃ (MC MR : rMem) (v0 : Nat → Int64) (P : Poem) (nW nL : Nat) (u : Nat → Nat → Nat) (ad : Nat → Nat) (F : Nat → Nat → Int32) (t lo : Int32), M = mjoin (mjoin MC (mone o (oV D v0))) MR ∧ MC o = none ∧ mdis (mjoin MC (mone o (oV D v0))) MR ∧ cV D MC x P nW nL u ∧ mV D MR mo P nW nL ad F t lo
section LAW
variable {p : Program} {l : Launch} {e : Env} {s : State} {m : MethodId} {args : Array Value} {below : List Frame} {meth : Method} {c : Code} {D : va_G} {A : Nat → Prop} {Q : State → Prop} {M : rMem} {k n : Nat} {b x mo o i L : Nat} {xs : Nat → Int32}
set_option maxHeartbeats 4000000 in
set_option maxRecDepth 100000 in
theorem L_word (F : rF p l e room_1 s m args below meth c cL_law 9 RL D A) (hNc : rNc s) (hl9 : l.stackTraces = false) (hX : va_X b L xs s s.heap) (hbl : b < s.heap.size) (hbA : ¬ A b) (hL : L ≤ 3072) (hi : i + 6 ≤ L) (hk : k + 600 ≤ 601024) (hn : n + 8000 ≤ 7293034) (hLS : lsA D M x mo o) (KK : ∀ M' : rMem, lsA D M' x mo o → rG p l e room_1 s m args below meth c D A 9 Q M' (k + 600) (n + 8000) [some (.ref b), some (.ref x), some (.ref mo), some (.ref o), some (.int (nI i)), none, none, none, none] 1184 []) : rG p l e room_1 s m args below meth c D A 9 Q M k n [some (.ref b), some (.ref x), some (.ref mo), some (.ref o), some (.int (nI i)), none, none, none, none] 124 [] := by
  obtain ⟨MC, MR, v0, P, nW, nL, u, ad, Fn, t, lo, rfl, ho, hd, hc, hm⟩ := hLS
  refine rg_aload_n F (pc := 124) dL_law_124 rfl ?_
  refine rg_aload_n F (pc := 125) dL_law_125 rfl ?_
  refine rg_iload F (pc := 126) dL_law_126 rfl ?_
  refine rg_iconst F (pc := 128) (v := nI 1) dL_law_128 (by decide) ?_
  refine rg_iadd F (pc := 129) (v := nI (i + 1)) dL_law_129 (nI_add _ _) ?_
  refine rg_sld F hX hbl hbA hL (pc := 130) (j := i + 1) (by omega) dL_law_130 ?_
  refine rg_aload_n F (pc := 131) dL_law_131 rfl ?_
  refine rg_iload F (pc := 132) dL_law_132 rfl ?_
  refine rg_iconst F (pc := 134) (v := nI 2) dL_law_134 (by decide) ?_
  refine rg_iadd F (pc := 135) (v := nI (i + 2)) dL_law_135 (nI_add _ _) ?_
  refine rg_sld F hX hbl hbA hL (pc := 136) (j := i + 2) (by omega) dL_law_136 ?_
  refine rg_aload_n F (pc := 137) dL_law_137 rfl ?_
  refine rg_iload F (pc := 138) dL_law_138 rfl ?_
  refine rg_iconst F (pc := 140) (v := nI 3) dL_law_140 (by decide) ?_
  refine rg_iadd F (pc := 141) (v := nI (i + 3)) dL_law_141 (nI_add _ _) ?_
  refine rg_sld F hX hbl hbA hL (pc := 142) (j := i + 3) (by omega) dL_law_142 ?_
  refine rg_aload_n F (pc := 143) dL_law_143 rfl ?_
  refine rg_iload F (pc := 144) dL_law_144 rfl ?_
  refine rg_iconst F (pc := 146) (v := nI 4) dL_law_146 (by decide) ?_
  refine rg_iadd F (pc := 147) (v := nI (i + 4)) dL_law_147 (nI_add _ _) ?_
  refine rg_sld F hX hbl hbA hL (pc := 148) (j := i + 4) (by omega) dL_law_148 ?_
  refine rg_aload_n F (pc := 149) dL_law_149 rfl ?_
  refine rg_iload F (pc := 150) dL_law_150 rfl ?_
  refine rg_iconst F (pc := 152) (v := nI 5) dL_law_152 (by decide) ?_
  refine rg_iadd F (pc := 153) (v := nI (i + 5)) dL_law_153 (nI_add _ _) ?_
  refine rg_sld F hX hbl hbA hL (pc := 154) (j := i + 5) (by omega) dL_law_154 ?_
  refine rg_if_eq F (pc := 155) (tgt := 162) dL_law_155 (by decide) (fun c155 => ?_) (fun c155 => ?_)
  · refine rg_iconst F (pc := 162) (v := nI 0) dL_law_162 (by decide) ?_
    refine rg_aload_n F (pc := 163) dL_law_163 rfl ?_
    obtain ⟨kk, val, P2, nW2, nL2, lev, mc, ms, lev2, mc2, ms2, hk3, ⟨hl1, hl2, hl3⟩, ⟨hl4, hl5, hl6⟩, hH, hR⟩ := op_word l D x o mo ((xs (i + 1))) ((xs (i + 2))) ((xs (i + 3))) ((xs (i + 4))) (nI 0) MC MR v0 P nW nL u ad Fn t lo hl9 hc ho hm ⟨0, by decide, rfl⟩
    refine rg_fH F hNc (pc := 164) (M := mjoin MC (mone o (oV D v0))) (N := MR) (As := [.ref (x), .int ((xs (i + 1))), .int ((xs (i + 2))), .int ((xs (i + 3))), .int ((xs (i + 4))), .int (nI 0), .ref (o)]) (rest := []) hH q583 hq_word rfl rfl (Nat.le_of_ble_eq_true rfl) (by show lev + 1 ≤ 12; omega) (by show 8 + (8 + 11) + 32 * lev ≤ 462; omega) ⟨by show _ ≤ 601024; omega, by show _ ≤ 7293034; omega⟩ hd dL_law_164 (fun r1 M1 hp hdis => ?_)
    obtain ⟨hr1, u1, v1, hM1, ho1, hc1, hv1⟩ := hp
    refine rg_top (v2 := .int (nI kk)) (by rw [hr1]) ?_
    subst hM1
    refine rg_istore F (pc := 167) (lv' := [some (.ref (b)), some (.ref (x)), some (.ref (mo)), some (.ref (o)), some (.int (nI i)), some (.int (nI kk)), none, none, none]) dL_law_167 (Nat.le_of_ble_eq_true rfl) rfl ?_
    refine rg_aload_n F (pc := 169) dL_law_169 rfl ?_
    refine rg_aload_n F (pc := 170) dL_law_170 rfl ?_
    refine rg_iload F (pc := 171) dL_law_171 rfl ?_
    refine rg_iconst F (pc := 173) (v := nI 1) dL_law_173 (by decide) ?_
    refine rg_iadd F (pc := 174) (v := nI (i + 1)) dL_law_174 (nI_add _ _) ?_
    refine rg_sld F hX hbl hbA hL (pc := 175) (j := i + 1) (by omega) dL_law_175 ?_
    refine rg_aload_n F (pc := 176) dL_law_176 rfl ?_
    refine rg_iload F (pc := 177) dL_law_177 rfl ?_
    refine rg_iconst F (pc := 179) (v := nI 2) dL_law_179 (by decide) ?_
    refine rg_iadd F (pc := 180) (v := nI (i + 2)) dL_law_180 (nI_add _ _) ?_
    refine rg_sld F hX hbl hbA hL (pc := 181) (j := i + 2) (by omega) dL_law_181 ?_
    refine rg_aload_n F (pc := 182) dL_law_182 rfl ?_
    refine rg_iload F (pc := 183) dL_law_183 rfl ?_
    refine rg_iconst F (pc := 185) (v := nI 3) dL_law_185 (by decide) ?_
    refine rg_iadd F (pc := 186) (v := nI (i + 3)) dL_law_186 (nI_add _ _) ?_
    refine rg_sld F hX hbl hbA hL (pc := 187) (j := i + 3) (by omega) dL_law_187 ?_
    refine rg_aload_n F (pc := 188) dL_law_188 rfl ?_
    refine rg_iload F (pc := 189) dL_law_189 rfl ?_
    refine rg_iconst F (pc := 191) (v := nI 4) dL_law_191 (by decide) ?_
    refine rg_iadd F (pc := 192) (v := nI (i + 4)) dL_law_192 (nI_add _ _) ?_
    refine rg_sld F hX hbl hbA hL (pc := 193) (j := i + 4) (by omega) dL_law_193 ?_
    refine rg_aload_n F (pc := 194) dL_law_194 rfl ?_
    refine rg_iload F (pc := 195) dL_law_195 rfl ?_
    refine rg_iconst F (pc := 197) (v := nI 5) dL_law_197 (by decide) ?_
    refine rg_iadd F (pc := 198) (v := nI (i + 5)) dL_law_198 (nI_add _ _) ?_
    refine rg_sld F hX hbl hbA hL (pc := 199) (j := i + 5) (by omega) dL_law_199 ?_
    refine rg_if_eq F (pc := 200) (tgt := 207) dL_law_200 (by decide) (fun c200 => ?_) (fun c200 => absurd c155 c200)
    refine rg_iconst F (pc := 207) (v := nI 0) dL_law_207 (by decide) ?_
    refine rg_mem (mj_comm hdis) ?_
    refine rg_fVi F (pc := 208) (M := MR) (N := mjoin u1 (mone o (oV D v1))) (As := [.int ((xs (i + 1))), .int ((xs (i + 2))), .int ((xs (i + 3))), .int ((xs (i + 4))), .int (nI 0)]) (rest := []) (ci := 5) hR q586 vq_X4_word rfl hm.2.1.1 rfl rfl (Nat.le_of_ble_eq_true rfl) (by show lev2 + 1 ≤ 12; omega) (by show 8 + (6 + 11) + 32 * lev2 ≤ 462; omega) ⟨by show _ ≤ 601024; omega, by show _ ≤ 7293034; omega⟩ hdis.sym dL_law_208 (fun r2 M2 hq2 hdis2 => ?_)
    obtain ⟨⟨ad2, F2, lo2, hm2⟩, hrv⟩ := hq2
    refine rg_istore F (pc := 211) (lv' := [some (.ref (b)), some (.ref (x)), some (.ref (mo)), some (.ref (o)), some (.int (nI i)), some (.int (nI kk)), some (.int (r2)), none, none]) dL_law_211 (Nat.le_of_ble_eq_true rfl) rfl ?_
    refine rg_aload_n F (pc := 213) dL_law_213 rfl ?_
    refine rg_fVi F (pc := 214) (M := M2) (N := mjoin u1 (mone o (oV D v1))) (As := []) (rest := []) (ci := 5) (r_thrown l D M2 mo P2 nW2 nL2 ad2 F2 (nI kk) lo2 hm2) q589 vq_X4_thrown rfl hm2.2.1.1 rfl rfl (Nat.le_of_ble_eq_true rfl) (Nat.le_of_ble_eq_true rfl) (Nat.le_of_ble_eq_true rfl) ⟨by show _ ≤ 601024; omega, by show _ ≤ 7293034; omega⟩ hdis2 dL_law_214 (fun r3 M3 hq3 hdis3 => ?_)
    refine rg_top (v2 := .int (nI kk)) (by rw [hq3.1]) ?_
    refine rg_iload F (pc := 217) dL_law_217 rfl ?_
    refine rg_ncmp_eq F (pc := 219) (tgt := 224) dL_law_219 (by decide) (by omega) (by omega) (fun c219 => ?_) (fun c219 => by exfalso; omega)
    refine rg_iload F (pc := 224) dL_law_224 rfl ?_
    refine rg_nif_ne F (pc := 226) (tgt := 241) dL_law_226 (by decide) (by omega) (fun c226 => ?_) (fun c226 => ?_)
    · refine rg_goto F (pc := 241) (tgt := 1184) dL_law_241 (by decide) ?_
      refine rg_mem (mj_comm hdis3) ?_
      rw [hq3.2] at hdis3 ⊢
      obtain ⟨u2, hc2⟩ := hc1
      refine rg_sub (lv' := [some (.ref b), some (.ref x), some (.ref mo), some (.ref o), some (.int (nI i)), none, none, none, none]) (by repeat' constructor) ?_
      refine rg_widen (k2 := k + 600) (n2 := n + 8000) (by omega) (by omega) ?_
      exact KK _ ⟨u1, M2, v1, P2, nW2, nL2, u2, ad2, F2, nI kk, lo2, rfl, ho1, hdis3.sym, hc2, hm2⟩
    · refine rg_aload_n F (pc := 229) dL_law_229 rfl ?_
      refine rg_iconst F (pc := 230) (v := nI 0) dL_law_230 (by decide) ?_
      refine rg_lald F (pc := 231) (x := val.toInt64) (mj_in hdis3 (mj_in (mone_dis ho1) mone_eq)) (by decide) (by decide) (hv1 c226) dL_law_231 ?_
      refine rg_iload F (pc := 232) dL_law_232 rfl ?_
      refine rg_i2l F (pc := 234) (v := (r2).toInt64) dL_law_234 rfl ?_
      refine rg_lcmp F (pc := 235) (v := nI 0) dL_law_235 (by rw [hrv c226]; exact lc_self _) ?_
      refine rg_nif_eq F (pc := 236) (tgt := 241) dL_law_236 (by decide) (by omega) (fun c236 => ?_) (fun c236 => by exfalso; omega)
      refine rg_goto F (pc := 241) (tgt := 1184) dL_law_241 (by decide) ?_
      refine rg_mem (mj_comm hdis3) ?_
      rw [hq3.2] at hdis3 ⊢
      obtain ⟨u2, hc2⟩ := hc1
      refine rg_sub (lv' := [some (.ref b), some (.ref x), some (.ref mo), some (.ref o), some (.int (nI i)), none, none, none, none]) (by repeat' constructor) ?_
      refine rg_widen (k2 := k + 600) (n2 := n + 8000) (by omega) (by omega) ?_
      exact KK _ ⟨u1, M2, v1, P2, nW2, nL2, u2, ad2, F2, nI kk, lo2, rfl, ho1, hdis3.sym, hc2, hm2⟩
  · refine rg_iconst F (pc := 158) (v := nI 1) dL_law_158 (by decide) ?_
    refine rg_goto F (pc := 159) (tgt := 163) dL_law_159 (by decide) ?_
    refine rg_aload_n F (pc := 163) dL_law_163 rfl ?_
    obtain ⟨kk, val, P2, nW2, nL2, lev, mc, ms, lev2, mc2, ms2, hk3, ⟨hl1, hl2, hl3⟩, ⟨hl4, hl5, hl6⟩, hH, hR⟩ := op_word l D x o mo ((xs (i + 1))) ((xs (i + 2))) ((xs (i + 3))) ((xs (i + 4))) (nI 1) MC MR v0 P nW nL u ad Fn t lo hl9 hc ho hm ⟨1, by decide, rfl⟩
    refine rg_fH F hNc (pc := 164) (M := mjoin MC (mone o (oV D v0))) (N := MR) (As := [.ref (x), .int ((xs (i + 1))), .int ((xs (i + 2))), .int ((xs (i + 3))), .int ((xs (i + 4))), .int (nI 1), .ref (o)]) (rest := []) hH q583 hq_word rfl rfl (Nat.le_of_ble_eq_true rfl) (by show lev + 1 ≤ 12; omega) (by show 8 + (8 + 11) + 32 * lev ≤ 462; omega) ⟨by show _ ≤ 601024; omega, by show _ ≤ 7293034; omega⟩ hd dL_law_164 (fun r1 M1 hp hdis => ?_)
    obtain ⟨hr1, u1, v1, hM1, ho1, hc1, hv1⟩ := hp
    refine rg_top (v2 := .int (nI kk)) (by rw [hr1]) ?_
    subst hM1
    refine rg_istore F (pc := 167) (lv' := [some (.ref (b)), some (.ref (x)), some (.ref (mo)), some (.ref (o)), some (.int (nI i)), some (.int (nI kk)), none, none, none]) dL_law_167 (Nat.le_of_ble_eq_true rfl) rfl ?_
    refine rg_aload_n F (pc := 169) dL_law_169 rfl ?_
    refine rg_aload_n F (pc := 170) dL_law_170 rfl ?_
    refine rg_iload F (pc := 171) dL_law_171 rfl ?_
    refine rg_iconst F (pc := 173) (v := nI 1) dL_law_173 (by decide) ?_
    refine rg_iadd F (pc := 174) (v := nI (i + 1)) dL_law_174 (nI_add _ _) ?_
    refine rg_sld F hX hbl hbA hL (pc := 175) (j := i + 1) (by omega) dL_law_175 ?_
    refine rg_aload_n F (pc := 176) dL_law_176 rfl ?_
    refine rg_iload F (pc := 177) dL_law_177 rfl ?_
    refine rg_iconst F (pc := 179) (v := nI 2) dL_law_179 (by decide) ?_
    refine rg_iadd F (pc := 180) (v := nI (i + 2)) dL_law_180 (nI_add _ _) ?_
    refine rg_sld F hX hbl hbA hL (pc := 181) (j := i + 2) (by omega) dL_law_181 ?_
    refine rg_aload_n F (pc := 182) dL_law_182 rfl ?_
    refine rg_iload F (pc := 183) dL_law_183 rfl ?_
    refine rg_iconst F (pc := 185) (v := nI 3) dL_law_185 (by decide) ?_
    refine rg_iadd F (pc := 186) (v := nI (i + 3)) dL_law_186 (nI_add _ _) ?_
    refine rg_sld F hX hbl hbA hL (pc := 187) (j := i + 3) (by omega) dL_law_187 ?_
    refine rg_aload_n F (pc := 188) dL_law_188 rfl ?_
    refine rg_iload F (pc := 189) dL_law_189 rfl ?_
    refine rg_iconst F (pc := 191) (v := nI 4) dL_law_191 (by decide) ?_
    refine rg_iadd F (pc := 192) (v := nI (i + 4)) dL_law_192 (nI_add _ _) ?_
    refine rg_sld F hX hbl hbA hL (pc := 193) (j := i + 4) (by omega) dL_law_193 ?_
    refine rg_aload_n F (pc := 194) dL_law_194 rfl ?_
    refine rg_iload F (pc := 195) dL_law_195 rfl ?_
    refine rg_iconst F (pc := 197) (v := nI 5) dL_law_197 (by decide) ?_
    refine rg_iadd F (pc := 198) (v := nI (i + 5)) dL_law_198 (nI_add _ _) ?_
    refine rg_sld F hX hbl hbA hL (pc := 199) (j := i + 5) (by omega) dL_law_199 ?_
    refine rg_if_eq F (pc := 200) (tgt := 207) dL_law_200 (by decide) (fun c200 => absurd c200 c155) (fun c200 => ?_)
    refine rg_iconst F (pc := 203) (v := nI 1) dL_law_203 (by decide) ?_
    refine rg_goto F (pc := 204) (tgt := 208) dL_law_204 (by decide) ?_
    refine rg_mem (mj_comm hdis) ?_
    refine rg_fVi F (pc := 208) (M := MR) (N := mjoin u1 (mone o (oV D v1))) (As := [.int ((xs (i + 1))), .int ((xs (i + 2))), .int ((xs (i + 3))), .int ((xs (i + 4))), .int (nI 1)]) (rest := []) (ci := 5) hR q586 vq_X4_word rfl hm.2.1.1 rfl rfl (Nat.le_of_ble_eq_true rfl) (by show lev2 + 1 ≤ 12; omega) (by show 8 + (6 + 11) + 32 * lev2 ≤ 462; omega) ⟨by show _ ≤ 601024; omega, by show _ ≤ 7293034; omega⟩ hdis.sym dL_law_208 (fun r2 M2 hq2 hdis2 => ?_)
    obtain ⟨⟨ad2, F2, lo2, hm2⟩, hrv⟩ := hq2
    refine rg_istore F (pc := 211) (lv' := [some (.ref (b)), some (.ref (x)), some (.ref (mo)), some (.ref (o)), some (.int (nI i)), some (.int (nI kk)), some (.int (r2)), none, none]) dL_law_211 (Nat.le_of_ble_eq_true rfl) rfl ?_
    refine rg_aload_n F (pc := 213) dL_law_213 rfl ?_
    refine rg_fVi F (pc := 214) (M := M2) (N := mjoin u1 (mone o (oV D v1))) (As := []) (rest := []) (ci := 5) (r_thrown l D M2 mo P2 nW2 nL2 ad2 F2 (nI kk) lo2 hm2) q589 vq_X4_thrown rfl hm2.2.1.1 rfl rfl (Nat.le_of_ble_eq_true rfl) (Nat.le_of_ble_eq_true rfl) (Nat.le_of_ble_eq_true rfl) ⟨by show _ ≤ 601024; omega, by show _ ≤ 7293034; omega⟩ hdis2 dL_law_214 (fun r3 M3 hq3 hdis3 => ?_)
    refine rg_top (v2 := .int (nI kk)) (by rw [hq3.1]) ?_
    refine rg_iload F (pc := 217) dL_law_217 rfl ?_
    refine rg_ncmp_eq F (pc := 219) (tgt := 224) dL_law_219 (by decide) (by omega) (by omega) (fun c219 => ?_) (fun c219 => by exfalso; omega)
    refine rg_iload F (pc := 224) dL_law_224 rfl ?_
    refine rg_nif_ne F (pc := 226) (tgt := 241) dL_law_226 (by decide) (by omega) (fun c226 => ?_) (fun c226 => ?_)
    · refine rg_goto F (pc := 241) (tgt := 1184) dL_law_241 (by decide) ?_
      refine rg_mem (mj_comm hdis3) ?_
      rw [hq3.2] at hdis3 ⊢
      obtain ⟨u2, hc2⟩ := hc1
      refine rg_sub (lv' := [some (.ref b), some (.ref x), some (.ref mo), some (.ref o), some (.int (nI i)), none, none, none, none]) (by repeat' constructor) ?_
      refine rg_widen (k2 := k + 600) (n2 := n + 8000) (by omega) (by omega) ?_
      exact KK _ ⟨u1, M2, v1, P2, nW2, nL2, u2, ad2, F2, nI kk, lo2, rfl, ho1, hdis3.sym, hc2, hm2⟩
    · refine rg_aload_n F (pc := 229) dL_law_229 rfl ?_
      refine rg_iconst F (pc := 230) (v := nI 0) dL_law_230 (by decide) ?_
      refine rg_lald F (pc := 231) (x := val.toInt64) (mj_in hdis3 (mj_in (mone_dis ho1) mone_eq)) (by decide) (by decide) (hv1 c226) dL_law_231 ?_
      refine rg_iload F (pc := 232) dL_law_232 rfl ?_
      refine rg_i2l F (pc := 234) (v := (r2).toInt64) dL_law_234 rfl ?_
      refine rg_lcmp F (pc := 235) (v := nI 0) dL_law_235 (by rw [hrv c226]; exact lc_self _) ?_
      refine rg_nif_eq F (pc := 236) (tgt := 241) dL_law_236 (by decide) (by omega) (fun c236 => ?_) (fun c236 => by exfalso; omega)
      refine rg_goto F (pc := 241) (tgt := 1184) dL_law_241 (by decide) ?_
      refine rg_mem (mj_comm hdis3) ?_
      rw [hq3.2] at hdis3 ⊢
      obtain ⟨u2, hc2⟩ := hc1
      refine rg_sub (lv' := [some (.ref b), some (.ref x), some (.ref mo), some (.ref o), some (.int (nI i)), none, none, none, none]) (by repeat' constructor) ?_
      refine rg_widen (k2 := k + 600) (n2 := n + 8000) (by omega) (by omega) ?_
      exact KK _ ⟨u1, M2, v1, P2, nW2, nL2, u2, ad2, F2, nI kk, lo2, rfl, ho1, hdis3.sym, hc2, hm2⟩
set_option maxHeartbeats 4000000 in
set_option maxRecDepth 100000 in
theorem L_about (F : rF p l e room_1 s m args below meth c cL_law 9 RL D A) (hNc : rNc s) (hl9 : l.stackTraces = false) (hX : va_X b L xs s s.heap) (hbl : b < s.heap.size) (hbA : ¬ A b) (hL : L ≤ 3072) (hi : i + 6 ≤ L) (hk : k + 600 ≤ 601024) (hn : n + 8000 ≤ 7293034) (hLS : lsA D M x mo o) (KK : ∀ M' : rMem, lsA D M' x mo o → rG p l e room_1 s m args below meth c D A 9 Q M' (k + 600) (n + 8000) [some (.ref b), some (.ref x), some (.ref mo), some (.ref o), some (.int (nI i)), none, none, none, none] 1184 []) : rG p l e room_1 s m args below meth c D A 9 Q M k n [some (.ref b), some (.ref x), some (.ref mo), some (.ref o), some (.int (nI i)), none, none, none, none] 244 [] := by
  obtain ⟨MC, MR, v0, P, nW, nL, u, ad, Fn, t, lo, rfl, ho, hd, hc, hm⟩ := hLS
  refine rg_aload_n F (pc := 244) dL_law_244 rfl ?_
  refine rg_aload_n F (pc := 245) dL_law_245 rfl ?_
  refine rg_iload F (pc := 246) dL_law_246 rfl ?_
  refine rg_iconst F (pc := 248) (v := nI 1) dL_law_248 (by decide) ?_
  refine rg_iadd F (pc := 249) (v := nI (i + 1)) dL_law_249 (nI_add _ _) ?_
  refine rg_sld F hX hbl hbA hL (pc := 250) (j := i + 1) (by omega) dL_law_250 ?_
  refine rg_aload_n F (pc := 251) dL_law_251 rfl ?_
  refine rg_iload F (pc := 252) dL_law_252 rfl ?_
  refine rg_iconst F (pc := 254) (v := nI 2) dL_law_254 (by decide) ?_
  refine rg_iadd F (pc := 255) (v := nI (i + 2)) dL_law_255 (nI_add _ _) ?_
  refine rg_sld F hX hbl hbA hL (pc := 256) (j := i + 2) (by omega) dL_law_256 ?_
  refine rg_aload_n F (pc := 257) dL_law_257 rfl ?_
  obtain ⟨kk, val, P2, nW2, nL2, lev, mc, ms, lev2, mc2, ms2, hk3, ⟨hl1, hl2, hl3⟩, ⟨hl4, hl5, hl6⟩, hH, hR⟩ := op_about l D x o mo ((xs (i + 1))) ((xs (i + 2))) MC MR v0 P nW nL u ad Fn t lo hl9 hc ho hm
  refine rg_fH F hNc (pc := 258) (M := mjoin MC (mone o (oV D v0))) (N := MR) (As := [.ref (x), .int ((xs (i + 1))), .int ((xs (i + 2))), .ref (o)]) (rest := []) hH q592 hq_about rfl rfl (Nat.le_of_ble_eq_true rfl) (by show lev + 1 ≤ 12; omega) (by show 8 + (5 + 11) + 32 * lev ≤ 462; omega) ⟨by show _ ≤ 601024; omega, by show _ ≤ 7293034; omega⟩ hd dL_law_258 (fun r1 M1 hp hdis => ?_)
  obtain ⟨hr1, u1, v1, hM1, ho1, hc1, hv1⟩ := hp
  refine rg_top (v2 := .int (nI kk)) (by rw [hr1]) ?_
  subst hM1
  refine rg_istore F (pc := 261) (lv' := [some (.ref (b)), some (.ref (x)), some (.ref (mo)), some (.ref (o)), some (.int (nI i)), some (.int (nI kk)), none, none, none]) dL_law_261 (Nat.le_of_ble_eq_true rfl) rfl ?_
  refine rg_aload_n F (pc := 263) dL_law_263 rfl ?_
  refine rg_aload_n F (pc := 264) dL_law_264 rfl ?_
  refine rg_iload F (pc := 265) dL_law_265 rfl ?_
  refine rg_iconst F (pc := 267) (v := nI 1) dL_law_267 (by decide) ?_
  refine rg_iadd F (pc := 268) (v := nI (i + 1)) dL_law_268 (nI_add _ _) ?_
  refine rg_sld F hX hbl hbA hL (pc := 269) (j := i + 1) (by omega) dL_law_269 ?_
  refine rg_aload_n F (pc := 270) dL_law_270 rfl ?_
  refine rg_iload F (pc := 271) dL_law_271 rfl ?_
  refine rg_iconst F (pc := 273) (v := nI 2) dL_law_273 (by decide) ?_
  refine rg_iadd F (pc := 274) (v := nI (i + 2)) dL_law_274 (nI_add _ _) ?_
  refine rg_sld F hX hbl hbA hL (pc := 275) (j := i + 2) (by omega) dL_law_275 ?_
  refine rg_mem (mj_comm hdis) ?_
  refine rg_fVi F (pc := 276) (M := MR) (N := mjoin u1 (mone o (oV D v1))) (As := [.int ((xs (i + 1))), .int ((xs (i + 2)))]) (rest := []) (ci := 5) hR q594 vq_X4_about rfl hm.2.1.1 rfl rfl (Nat.le_of_ble_eq_true rfl) (by show lev2 + 1 ≤ 12; omega) (by show 8 + (3 + 11) + 32 * lev2 ≤ 462; omega) ⟨by show _ ≤ 601024; omega, by show _ ≤ 7293034; omega⟩ hdis.sym dL_law_276 (fun r2 M2 hq2 hdis2 => ?_)
  obtain ⟨⟨ad2, F2, lo2, hm2⟩, hrv⟩ := hq2
  refine rg_istore F (pc := 279) (lv' := [some (.ref (b)), some (.ref (x)), some (.ref (mo)), some (.ref (o)), some (.int (nI i)), some (.int (nI kk)), some (.int (r2)), none, none]) dL_law_279 (Nat.le_of_ble_eq_true rfl) rfl ?_
  refine rg_aload_n F (pc := 281) dL_law_281 rfl ?_
  refine rg_fVi F (pc := 282) (M := M2) (N := mjoin u1 (mone o (oV D v1))) (As := []) (rest := []) (ci := 5) (r_thrown l D M2 mo P2 nW2 nL2 ad2 F2 (nI kk) lo2 hm2) q589 vq_X4_thrown rfl hm2.2.1.1 rfl rfl (Nat.le_of_ble_eq_true rfl) (Nat.le_of_ble_eq_true rfl) (Nat.le_of_ble_eq_true rfl) ⟨by show _ ≤ 601024; omega, by show _ ≤ 7293034; omega⟩ hdis2 dL_law_282 (fun r3 M3 hq3 hdis3 => ?_)
  refine rg_top (v2 := .int (nI kk)) (by rw [hq3.1]) ?_
  refine rg_iload F (pc := 285) dL_law_285 rfl ?_
  refine rg_ncmp_eq F (pc := 287) (tgt := 292) dL_law_287 (by decide) (by omega) (by omega) (fun c287 => ?_) (fun c287 => by exfalso; omega)
  refine rg_iload F (pc := 292) dL_law_292 rfl ?_
  refine rg_nif_ne F (pc := 294) (tgt := 309) dL_law_294 (by decide) (by omega) (fun c294 => ?_) (fun c294 => ?_)
  · refine rg_goto F (pc := 309) (tgt := 1184) dL_law_309 (by decide) ?_
    refine rg_mem (mj_comm hdis3) ?_
    rw [hq3.2] at hdis3 ⊢
    obtain ⟨u2, hc2⟩ := hc1
    refine rg_sub (lv' := [some (.ref b), some (.ref x), some (.ref mo), some (.ref o), some (.int (nI i)), none, none, none, none]) (by repeat' constructor) ?_
    refine rg_widen (k2 := k + 600) (n2 := n + 8000) (by omega) (by omega) ?_
    exact KK _ ⟨u1, M2, v1, P2, nW2, nL2, u2, ad2, F2, nI kk, lo2, rfl, ho1, hdis3.sym, hc2, hm2⟩
  · refine rg_aload_n F (pc := 297) dL_law_297 rfl ?_
    refine rg_iconst F (pc := 298) (v := nI 0) dL_law_298 (by decide) ?_
    refine rg_lald F (pc := 299) (x := val.toInt64) (mj_in hdis3 (mj_in (mone_dis ho1) mone_eq)) (by decide) (by decide) (hv1 c294) dL_law_299 ?_
    refine rg_iload F (pc := 300) dL_law_300 rfl ?_
    refine rg_i2l F (pc := 302) (v := (r2).toInt64) dL_law_302 rfl ?_
    refine rg_lcmp F (pc := 303) (v := nI 0) dL_law_303 (by rw [hrv c294]; exact lc_self _) ?_
    refine rg_nif_eq F (pc := 304) (tgt := 309) dL_law_304 (by decide) (by omega) (fun c304 => ?_) (fun c304 => by exfalso; omega)
    refine rg_goto F (pc := 309) (tgt := 1184) dL_law_309 (by decide) ?_
    refine rg_mem (mj_comm hdis3) ?_
    rw [hq3.2] at hdis3 ⊢
    obtain ⟨u2, hc2⟩ := hc1
    refine rg_sub (lv' := [some (.ref b), some (.ref x), some (.ref mo), some (.ref o), some (.int (nI i)), none, none, none, none]) (by repeat' constructor) ?_
    refine rg_widen (k2 := k + 600) (n2 := n + 8000) (by omega) (by omega) ?_
    exact KK _ ⟨u1, M2, v1, P2, nW2, nL2, u2, ad2, F2, nI kk, lo2, rfl, ho1, hdis3.sym, hc2, hm2⟩
set_option maxHeartbeats 4000000 in
set_option maxRecDepth 100000 in
theorem L_line (F : rF p l e room_1 s m args below meth c cL_law 9 RL D A) (hNc : rNc s) (hl9 : l.stackTraces = false) (hX : va_X b L xs s s.heap) (hbl : b < s.heap.size) (hbA : ¬ A b) (hL : L ≤ 3072) (hi : i + 6 ≤ L) (hk : k + 600 ≤ 601024) (hn : n + 8000 ≤ 7293034) (hLS : lsA D M x mo o) (KK : ∀ M' : rMem, lsA D M' x mo o → rG p l e room_1 s m args below meth c D A 9 Q M' (k + 600) (n + 8000) [some (.ref b), some (.ref x), some (.ref mo), some (.ref o), some (.int (nI i)), none, none, none, none] 1184 []) : rG p l e room_1 s m args below meth c D A 9 Q M k n [some (.ref b), some (.ref x), some (.ref mo), some (.ref o), some (.int (nI i)), none, none, none, none] 312 [] := by
  obtain ⟨MC, MR, v0, P, nW, nL, u, ad, Fn, t, lo, rfl, ho, hd, hc, hm⟩ := hLS
  refine rg_aload_n F (pc := 312) dL_law_312 rfl ?_
  refine rg_aload_n F (pc := 313) dL_law_313 rfl ?_
  refine rg_iload F (pc := 314) dL_law_314 rfl ?_
  refine rg_iconst F (pc := 316) (v := nI 1) dL_law_316 (by decide) ?_
  refine rg_iadd F (pc := 317) (v := nI (i + 1)) dL_law_317 (nI_add _ _) ?_
  refine rg_sld F hX hbl hbA hL (pc := 318) (j := i + 1) (by omega) dL_law_318 ?_
  refine rg_aload_n F (pc := 319) dL_law_319 rfl ?_
  refine rg_iload F (pc := 320) dL_law_320 rfl ?_
  refine rg_iconst F (pc := 322) (v := nI 2) dL_law_322 (by decide) ?_
  refine rg_iadd F (pc := 323) (v := nI (i + 2)) dL_law_323 (nI_add _ _) ?_
  refine rg_sld F hX hbl hbA hL (pc := 324) (j := i + 2) (by omega) dL_law_324 ?_
  refine rg_aload_n F (pc := 325) dL_law_325 rfl ?_
  refine rg_iload F (pc := 326) dL_law_326 rfl ?_
  refine rg_iconst F (pc := 328) (v := nI 3) dL_law_328 (by decide) ?_
  refine rg_iadd F (pc := 329) (v := nI (i + 3)) dL_law_329 (nI_add _ _) ?_
  refine rg_sld F hX hbl hbA hL (pc := 330) (j := i + 3) (by omega) dL_law_330 ?_
  refine rg_aload_n F (pc := 331) dL_law_331 rfl ?_
  obtain ⟨kk, val, P2, nW2, nL2, lev, mc, ms, lev2, mc2, ms2, hk3, ⟨hl1, hl2, hl3⟩, ⟨hl4, hl5, hl6⟩, hH, hR⟩ := op_line l D x o mo ((xs (i + 1))) ((xs (i + 2))) ((xs (i + 3))) MC MR v0 P nW nL u ad Fn t lo hl9 hc ho hm
  refine rg_fH F hNc (pc := 332) (M := mjoin MC (mone o (oV D v0))) (N := MR) (As := [.ref (x), .int ((xs (i + 1))), .int ((xs (i + 2))), .int ((xs (i + 3))), .ref (o)]) (rest := []) hH q597 hq_line rfl rfl (Nat.le_of_ble_eq_true rfl) (by show lev + 1 ≤ 12; omega) (by show 8 + (6 + 11) + 32 * lev ≤ 462; omega) ⟨by show _ ≤ 601024; omega, by show _ ≤ 7293034; omega⟩ hd dL_law_332 (fun r1 M1 hp hdis => ?_)
  obtain ⟨hr1, u1, v1, hM1, ho1, hc1, hv1⟩ := hp
  refine rg_top (v2 := .int (nI kk)) (by rw [hr1]) ?_
  subst hM1
  refine rg_istore F (pc := 335) (lv' := [some (.ref (b)), some (.ref (x)), some (.ref (mo)), some (.ref (o)), some (.int (nI i)), some (.int (nI kk)), none, none, none]) dL_law_335 (Nat.le_of_ble_eq_true rfl) rfl ?_
  refine rg_aload_n F (pc := 337) dL_law_337 rfl ?_
  refine rg_aload_n F (pc := 338) dL_law_338 rfl ?_
  refine rg_iload F (pc := 339) dL_law_339 rfl ?_
  refine rg_iconst F (pc := 341) (v := nI 1) dL_law_341 (by decide) ?_
  refine rg_iadd F (pc := 342) (v := nI (i + 1)) dL_law_342 (nI_add _ _) ?_
  refine rg_sld F hX hbl hbA hL (pc := 343) (j := i + 1) (by omega) dL_law_343 ?_
  refine rg_aload_n F (pc := 344) dL_law_344 rfl ?_
  refine rg_iload F (pc := 345) dL_law_345 rfl ?_
  refine rg_iconst F (pc := 347) (v := nI 2) dL_law_347 (by decide) ?_
  refine rg_iadd F (pc := 348) (v := nI (i + 2)) dL_law_348 (nI_add _ _) ?_
  refine rg_sld F hX hbl hbA hL (pc := 349) (j := i + 2) (by omega) dL_law_349 ?_
  refine rg_aload_n F (pc := 350) dL_law_350 rfl ?_
  refine rg_iload F (pc := 351) dL_law_351 rfl ?_
  refine rg_iconst F (pc := 353) (v := nI 3) dL_law_353 (by decide) ?_
  refine rg_iadd F (pc := 354) (v := nI (i + 3)) dL_law_354 (nI_add _ _) ?_
  refine rg_sld F hX hbl hbA hL (pc := 355) (j := i + 3) (by omega) dL_law_355 ?_
  refine rg_mem (mj_comm hdis) ?_
  refine rg_fVi F (pc := 356) (M := MR) (N := mjoin u1 (mone o (oV D v1))) (As := [.int ((xs (i + 1))), .int ((xs (i + 2))), .int ((xs (i + 3)))]) (rest := []) (ci := 5) hR q599 vq_X4_line rfl hm.2.1.1 rfl rfl (Nat.le_of_ble_eq_true rfl) (by show lev2 + 1 ≤ 12; omega) (by show 8 + (4 + 11) + 32 * lev2 ≤ 462; omega) ⟨by show _ ≤ 601024; omega, by show _ ≤ 7293034; omega⟩ hdis.sym dL_law_356 (fun r2 M2 hq2 hdis2 => ?_)
  obtain ⟨⟨ad2, F2, lo2, hm2⟩, hrv⟩ := hq2
  refine rg_istore F (pc := 359) (lv' := [some (.ref (b)), some (.ref (x)), some (.ref (mo)), some (.ref (o)), some (.int (nI i)), some (.int (nI kk)), some (.int (r2)), none, none]) dL_law_359 (Nat.le_of_ble_eq_true rfl) rfl ?_
  refine rg_aload_n F (pc := 361) dL_law_361 rfl ?_
  refine rg_fVi F (pc := 362) (M := M2) (N := mjoin u1 (mone o (oV D v1))) (As := []) (rest := []) (ci := 5) (r_thrown l D M2 mo P2 nW2 nL2 ad2 F2 (nI kk) lo2 hm2) q589 vq_X4_thrown rfl hm2.2.1.1 rfl rfl (Nat.le_of_ble_eq_true rfl) (Nat.le_of_ble_eq_true rfl) (Nat.le_of_ble_eq_true rfl) ⟨by show _ ≤ 601024; omega, by show _ ≤ 7293034; omega⟩ hdis2 dL_law_362 (fun r3 M3 hq3 hdis3 => ?_)
  refine rg_top (v2 := .int (nI kk)) (by rw [hq3.1]) ?_
  refine rg_iload F (pc := 365) dL_law_365 rfl ?_
  refine rg_ncmp_eq F (pc := 367) (tgt := 372) dL_law_367 (by decide) (by omega) (by omega) (fun c367 => ?_) (fun c367 => by exfalso; omega)
  refine rg_iload F (pc := 372) dL_law_372 rfl ?_
  refine rg_nif_ne F (pc := 374) (tgt := 389) dL_law_374 (by decide) (by omega) (fun c374 => ?_) (fun c374 => ?_)
  · refine rg_goto F (pc := 389) (tgt := 1184) dL_law_389 (by decide) ?_
    refine rg_mem (mj_comm hdis3) ?_
    rw [hq3.2] at hdis3 ⊢
    obtain ⟨u2, hc2⟩ := hc1
    refine rg_sub (lv' := [some (.ref b), some (.ref x), some (.ref mo), some (.ref o), some (.int (nI i)), none, none, none, none]) (by repeat' constructor) ?_
    refine rg_widen (k2 := k + 600) (n2 := n + 8000) (by omega) (by omega) ?_
    exact KK _ ⟨u1, M2, v1, P2, nW2, nL2, u2, ad2, F2, nI kk, lo2, rfl, ho1, hdis3.sym, hc2, hm2⟩
  · refine rg_aload_n F (pc := 377) dL_law_377 rfl ?_
    refine rg_iconst F (pc := 378) (v := nI 0) dL_law_378 (by decide) ?_
    refine rg_lald F (pc := 379) (x := val.toInt64) (mj_in hdis3 (mj_in (mone_dis ho1) mone_eq)) (by decide) (by decide) (hv1 c374) dL_law_379 ?_
    refine rg_iload F (pc := 380) dL_law_380 rfl ?_
    refine rg_i2l F (pc := 382) (v := (r2).toInt64) dL_law_382 rfl ?_
    refine rg_lcmp F (pc := 383) (v := nI 0) dL_law_383 (by rw [hrv c374]; exact lc_self _) ?_
    refine rg_nif_eq F (pc := 384) (tgt := 389) dL_law_384 (by decide) (by omega) (fun c384 => ?_) (fun c384 => by exfalso; omega)
    refine rg_goto F (pc := 389) (tgt := 1184) dL_law_389 (by decide) ?_
    refine rg_mem (mj_comm hdis3) ?_
    rw [hq3.2] at hdis3 ⊢
    obtain ⟨u2, hc2⟩ := hc1
    refine rg_sub (lv' := [some (.ref b), some (.ref x), some (.ref mo), some (.ref o), some (.int (nI i)), none, none, none, none]) (by repeat' constructor) ?_
    refine rg_widen (k2 := k + 600) (n2 := n + 8000) (by omega) (by omega) ?_
    exact KK _ ⟨u1, M2, v1, P2, nW2, nL2, u2, ad2, F2, nI kk, lo2, rfl, ho1, hdis3.sym, hc2, hm2⟩
set_option maxHeartbeats 4000000 in
set_option maxRecDepth 100000 in
theorem L_write (F : rF p l e room_1 s m args below meth c cL_law 9 RL D A) (hNc : rNc s) (hl9 : l.stackTraces = false) (hX : va_X b L xs s s.heap) (hbl : b < s.heap.size) (hbA : ¬ A b) (hL : L ≤ 3072) (hi : i + 6 ≤ L) (hk : k + 600 ≤ 601024) (hn : n + 8000 ≤ 7293034) (hLS : lsA D M x mo o) (KK : ∀ M' : rMem, lsA D M' x mo o → rG p l e room_1 s m args below meth c D A 9 Q M' (k + 600) (n + 8000) [some (.ref b), some (.ref x), some (.ref mo), some (.ref o), some (.int (nI i)), none, none, none, none] 1184 []) : rG p l e room_1 s m args below meth c D A 9 Q M k n [some (.ref b), some (.ref x), some (.ref mo), some (.ref o), some (.int (nI i)), none, none, none, none] 392 [] := by
  obtain ⟨MC, MR, v0, P, nW, nL, u, ad, Fn, t, lo, rfl, ho, hd, hc, hm⟩ := hLS
  refine rg_aload_n F (pc := 392) dL_law_392 rfl ?_
  refine rg_aload_n F (pc := 393) dL_law_393 rfl ?_
  refine rg_iload F (pc := 394) dL_law_394 rfl ?_
  refine rg_iconst F (pc := 396) (v := nI 1) dL_law_396 (by decide) ?_
  refine rg_iadd F (pc := 397) (v := nI (i + 1)) dL_law_397 (nI_add _ _) ?_
  refine rg_sld F hX hbl hbA hL (pc := 398) (j := i + 1) (by omega) dL_law_398 ?_
  refine rg_aload_n F (pc := 399) dL_law_399 rfl ?_
  refine rg_iload F (pc := 400) dL_law_400 rfl ?_
  refine rg_iconst F (pc := 402) (v := nI 2) dL_law_402 (by decide) ?_
  refine rg_iadd F (pc := 403) (v := nI (i + 2)) dL_law_403 (nI_add _ _) ?_
  refine rg_sld F hX hbl hbA hL (pc := 404) (j := i + 2) (by omega) dL_law_404 ?_
  refine rg_aload_n F (pc := 405) dL_law_405 rfl ?_
  refine rg_iload F (pc := 406) dL_law_406 rfl ?_
  refine rg_iconst F (pc := 408) (v := nI 3) dL_law_408 (by decide) ?_
  refine rg_iadd F (pc := 409) (v := nI (i + 3)) dL_law_409 (nI_add _ _) ?_
  refine rg_sld F hX hbl hbA hL (pc := 410) (j := i + 3) (by omega) dL_law_410 ?_
  refine rg_aload_n F (pc := 411) dL_law_411 rfl ?_
  obtain ⟨kk, val, P2, nW2, nL2, lev, mc, ms, lev2, mc2, ms2, hk3, ⟨hl1, hl2, hl3⟩, ⟨hl4, hl5, hl6⟩, hH, hR⟩ := op_write l D x o mo ((xs (i + 1))) ((xs (i + 2))) ((xs (i + 3))) MC MR v0 P nW nL u ad Fn t lo hl9 hc ho hm
  refine rg_fH F hNc (pc := 412) (M := mjoin MC (mone o (oV D v0))) (N := MR) (As := [.ref (x), .int ((xs (i + 1))), .int ((xs (i + 2))), .int ((xs (i + 3))), .ref (o)]) (rest := []) hH q602 hq_write rfl rfl (Nat.le_of_ble_eq_true rfl) (by show lev + 1 ≤ 12; omega) (by show 8 + (6 + 11) + 32 * lev ≤ 462; omega) ⟨by show _ ≤ 601024; omega, by show _ ≤ 7293034; omega⟩ hd dL_law_412 (fun r1 M1 hp hdis => ?_)
  obtain ⟨hr1, u1, v1, hM1, ho1, hc1, hv1⟩ := hp
  refine rg_top (v2 := .int (nI kk)) (by rw [hr1]) ?_
  subst hM1
  refine rg_istore F (pc := 415) (lv' := [some (.ref (b)), some (.ref (x)), some (.ref (mo)), some (.ref (o)), some (.int (nI i)), some (.int (nI kk)), none, none, none]) dL_law_415 (Nat.le_of_ble_eq_true rfl) rfl ?_
  refine rg_aload_n F (pc := 417) dL_law_417 rfl ?_
  refine rg_aload_n F (pc := 418) dL_law_418 rfl ?_
  refine rg_iload F (pc := 419) dL_law_419 rfl ?_
  refine rg_iconst F (pc := 421) (v := nI 1) dL_law_421 (by decide) ?_
  refine rg_iadd F (pc := 422) (v := nI (i + 1)) dL_law_422 (nI_add _ _) ?_
  refine rg_sld F hX hbl hbA hL (pc := 423) (j := i + 1) (by omega) dL_law_423 ?_
  refine rg_aload_n F (pc := 424) dL_law_424 rfl ?_
  refine rg_iload F (pc := 425) dL_law_425 rfl ?_
  refine rg_iconst F (pc := 427) (v := nI 2) dL_law_427 (by decide) ?_
  refine rg_iadd F (pc := 428) (v := nI (i + 2)) dL_law_428 (nI_add _ _) ?_
  refine rg_sld F hX hbl hbA hL (pc := 429) (j := i + 2) (by omega) dL_law_429 ?_
  refine rg_aload_n F (pc := 430) dL_law_430 rfl ?_
  refine rg_iload F (pc := 431) dL_law_431 rfl ?_
  refine rg_iconst F (pc := 433) (v := nI 3) dL_law_433 (by decide) ?_
  refine rg_iadd F (pc := 434) (v := nI (i + 3)) dL_law_434 (nI_add _ _) ?_
  refine rg_sld F hX hbl hbA hL (pc := 435) (j := i + 3) (by omega) dL_law_435 ?_
  refine rg_mem (mj_comm hdis) ?_
  refine rg_fVi F (pc := 436) (M := MR) (N := mjoin u1 (mone o (oV D v1))) (As := [.int ((xs (i + 1))), .int ((xs (i + 2))), .int ((xs (i + 3)))]) (rest := []) (ci := 5) hR q604 vq_X4_write rfl hm.2.1.1 rfl rfl (Nat.le_of_ble_eq_true rfl) (by show lev2 + 1 ≤ 12; omega) (by show 8 + (4 + 11) + 32 * lev2 ≤ 462; omega) ⟨by show _ ≤ 601024; omega, by show _ ≤ 7293034; omega⟩ hdis.sym dL_law_436 (fun r2 M2 hq2 hdis2 => ?_)
  obtain ⟨⟨ad2, F2, lo2, hm2⟩, hrv⟩ := hq2
  refine rg_istore F (pc := 439) (lv' := [some (.ref (b)), some (.ref (x)), some (.ref (mo)), some (.ref (o)), some (.int (nI i)), some (.int (nI kk)), some (.int (r2)), none, none]) dL_law_439 (Nat.le_of_ble_eq_true rfl) rfl ?_
  refine rg_aload_n F (pc := 441) dL_law_441 rfl ?_
  refine rg_fVi F (pc := 442) (M := M2) (N := mjoin u1 (mone o (oV D v1))) (As := []) (rest := []) (ci := 5) (r_thrown l D M2 mo P2 nW2 nL2 ad2 F2 (nI kk) lo2 hm2) q589 vq_X4_thrown rfl hm2.2.1.1 rfl rfl (Nat.le_of_ble_eq_true rfl) (Nat.le_of_ble_eq_true rfl) (Nat.le_of_ble_eq_true rfl) ⟨by show _ ≤ 601024; omega, by show _ ≤ 7293034; omega⟩ hdis2 dL_law_442 (fun r3 M3 hq3 hdis3 => ?_)
  refine rg_top (v2 := .int (nI kk)) (by rw [hq3.1]) ?_
  refine rg_iload F (pc := 445) dL_law_445 rfl ?_
  refine rg_ncmp_eq F (pc := 447) (tgt := 452) dL_law_447 (by decide) (by omega) (by omega) (fun c447 => ?_) (fun c447 => by exfalso; omega)
  refine rg_iload F (pc := 452) dL_law_452 rfl ?_
  refine rg_nif_ne F (pc := 454) (tgt := 469) dL_law_454 (by decide) (by omega) (fun c454 => ?_) (fun c454 => ?_)
  · refine rg_goto F (pc := 469) (tgt := 1184) dL_law_469 (by decide) ?_
    refine rg_mem (mj_comm hdis3) ?_
    rw [hq3.2] at hdis3 ⊢
    obtain ⟨u2, hc2⟩ := hc1
    refine rg_sub (lv' := [some (.ref b), some (.ref x), some (.ref mo), some (.ref o), some (.int (nI i)), none, none, none, none]) (by repeat' constructor) ?_
    refine rg_widen (k2 := k + 600) (n2 := n + 8000) (by omega) (by omega) ?_
    exact KK _ ⟨u1, M2, v1, P2, nW2, nL2, u2, ad2, F2, nI kk, lo2, rfl, ho1, hdis3.sym, hc2, hm2⟩
  · refine rg_aload_n F (pc := 457) dL_law_457 rfl ?_
    refine rg_iconst F (pc := 458) (v := nI 0) dL_law_458 (by decide) ?_
    refine rg_lald F (pc := 459) (x := val.toInt64) (mj_in hdis3 (mj_in (mone_dis ho1) mone_eq)) (by decide) (by decide) (hv1 c454) dL_law_459 ?_
    refine rg_iload F (pc := 460) dL_law_460 rfl ?_
    refine rg_i2l F (pc := 462) (v := (r2).toInt64) dL_law_462 rfl ?_
    refine rg_lcmp F (pc := 463) (v := nI 0) dL_law_463 (by rw [hrv c454]; exact lc_self _) ?_
    refine rg_nif_eq F (pc := 464) (tgt := 469) dL_law_464 (by decide) (by omega) (fun c464 => ?_) (fun c464 => by exfalso; omega)
    refine rg_goto F (pc := 469) (tgt := 1184) dL_law_469 (by decide) ?_
    refine rg_mem (mj_comm hdis3) ?_
    rw [hq3.2] at hdis3 ⊢
    obtain ⟨u2, hc2⟩ := hc1
    refine rg_sub (lv' := [some (.ref b), some (.ref x), some (.ref mo), some (.ref o), some (.int (nI i)), none, none, none, none]) (by repeat' constructor) ?_
    refine rg_widen (k2 := k + 600) (n2 := n + 8000) (by omega) (by omega) ?_
    exact KK _ ⟨u1, M2, v1, P2, nW2, nL2, u2, ad2, F2, nI kk, lo2, rfl, ho1, hdis3.sym, hc2, hm2⟩
set_option maxHeartbeats 4000000 in
set_option maxRecDepth 100000 in
theorem L_strike (F : rF p l e room_1 s m args below meth c cL_law 9 RL D A) (hNc : rNc s) (hl9 : l.stackTraces = false) (hX : va_X b L xs s s.heap) (hbl : b < s.heap.size) (hbA : ¬ A b) (hL : L ≤ 3072) (hi : i + 6 ≤ L) (hk : k + 600 ≤ 601024) (hn : n + 8000 ≤ 7293034) (hLS : lsA D M x mo o) (KK : ∀ M' : rMem, lsA D M' x mo o → rG p l e room_1 s m args below meth c D A 9 Q M' (k + 600) (n + 8000) [some (.ref b), some (.ref x), some (.ref mo), some (.ref o), some (.int (nI i)), none, none, none, none] 1184 []) : rG p l e room_1 s m args below meth c D A 9 Q M k n [some (.ref b), some (.ref x), some (.ref mo), some (.ref o), some (.int (nI i)), none, none, none, none] 472 [] := by
  obtain ⟨MC, MR, v0, P, nW, nL, u, ad, Fn, t, lo, rfl, ho, hd, hc, hm⟩ := hLS
  refine rg_aload_n F (pc := 472) dL_law_472 rfl ?_
  refine rg_aload_n F (pc := 473) dL_law_473 rfl ?_
  refine rg_iload F (pc := 474) dL_law_474 rfl ?_
  refine rg_iconst F (pc := 476) (v := nI 1) dL_law_476 (by decide) ?_
  refine rg_iadd F (pc := 477) (v := nI (i + 1)) dL_law_477 (nI_add _ _) ?_
  refine rg_sld F hX hbl hbA hL (pc := 478) (j := i + 1) (by omega) dL_law_478 ?_
  refine rg_aload_n F (pc := 479) dL_law_479 rfl ?_
  obtain ⟨kk, val, P2, nW2, nL2, lev, mc, ms, lev2, mc2, ms2, hk3, ⟨hl1, hl2, hl3⟩, ⟨hl4, hl5, hl6⟩, hH, hR⟩ := op_strike l D x o mo ((xs (i + 1))) MC MR v0 P nW nL u ad Fn t lo hl9 hc ho hm
  refine rg_fH F hNc (pc := 480) (M := mjoin MC (mone o (oV D v0))) (N := MR) (As := [.ref (x), .int ((xs (i + 1))), .ref (o)]) (rest := []) hH q607 hq_strike rfl rfl (Nat.le_of_ble_eq_true rfl) (by show lev + 1 ≤ 12; omega) (by show 8 + (4 + 11) + 32 * lev ≤ 462; omega) ⟨by show _ ≤ 601024; omega, by show _ ≤ 7293034; omega⟩ hd dL_law_480 (fun r1 M1 hp hdis => ?_)
  obtain ⟨hr1, u1, v1, hM1, ho1, hc1, hv1⟩ := hp
  refine rg_top (v2 := .int (nI kk)) (by rw [hr1]) ?_
  subst hM1
  refine rg_istore F (pc := 483) (lv' := [some (.ref (b)), some (.ref (x)), some (.ref (mo)), some (.ref (o)), some (.int (nI i)), some (.int (nI kk)), none, none, none]) dL_law_483 (Nat.le_of_ble_eq_true rfl) rfl ?_
  refine rg_aload_n F (pc := 485) dL_law_485 rfl ?_
  refine rg_aload_n F (pc := 486) dL_law_486 rfl ?_
  refine rg_iload F (pc := 487) dL_law_487 rfl ?_
  refine rg_iconst F (pc := 489) (v := nI 1) dL_law_489 (by decide) ?_
  refine rg_iadd F (pc := 490) (v := nI (i + 1)) dL_law_490 (nI_add _ _) ?_
  refine rg_sld F hX hbl hbA hL (pc := 491) (j := i + 1) (by omega) dL_law_491 ?_
  refine rg_mem (mj_comm hdis) ?_
  refine rg_fVi F (pc := 492) (M := MR) (N := mjoin u1 (mone o (oV D v1))) (As := [.int ((xs (i + 1)))]) (rest := []) (ci := 5) hR q609 vq_X4_strike rfl hm.2.1.1 rfl rfl (Nat.le_of_ble_eq_true rfl) (by show lev2 + 1 ≤ 12; omega) (by show 8 + (2 + 11) + 32 * lev2 ≤ 462; omega) ⟨by show _ ≤ 601024; omega, by show _ ≤ 7293034; omega⟩ hdis.sym dL_law_492 (fun r2 M2 hq2 hdis2 => ?_)
  obtain ⟨⟨ad2, F2, lo2, hm2⟩, hrv⟩ := hq2
  refine rg_istore F (pc := 495) (lv' := [some (.ref (b)), some (.ref (x)), some (.ref (mo)), some (.ref (o)), some (.int (nI i)), some (.int (nI kk)), some (.int (r2)), none, none]) dL_law_495 (Nat.le_of_ble_eq_true rfl) rfl ?_
  refine rg_aload_n F (pc := 497) dL_law_497 rfl ?_
  refine rg_fVi F (pc := 498) (M := M2) (N := mjoin u1 (mone o (oV D v1))) (As := []) (rest := []) (ci := 5) (r_thrown l D M2 mo P2 nW2 nL2 ad2 F2 (nI kk) lo2 hm2) q589 vq_X4_thrown rfl hm2.2.1.1 rfl rfl (Nat.le_of_ble_eq_true rfl) (Nat.le_of_ble_eq_true rfl) (Nat.le_of_ble_eq_true rfl) ⟨by show _ ≤ 601024; omega, by show _ ≤ 7293034; omega⟩ hdis2 dL_law_498 (fun r3 M3 hq3 hdis3 => ?_)
  refine rg_top (v2 := .int (nI kk)) (by rw [hq3.1]) ?_
  refine rg_iload F (pc := 501) dL_law_501 rfl ?_
  refine rg_ncmp_eq F (pc := 503) (tgt := 508) dL_law_503 (by decide) (by omega) (by omega) (fun c503 => ?_) (fun c503 => by exfalso; omega)
  refine rg_iload F (pc := 508) dL_law_508 rfl ?_
  refine rg_nif_ne F (pc := 510) (tgt := 525) dL_law_510 (by decide) (by omega) (fun c510 => ?_) (fun c510 => ?_)
  · refine rg_goto F (pc := 525) (tgt := 1184) dL_law_525 (by decide) ?_
    refine rg_mem (mj_comm hdis3) ?_
    rw [hq3.2] at hdis3 ⊢
    obtain ⟨u2, hc2⟩ := hc1
    refine rg_sub (lv' := [some (.ref b), some (.ref x), some (.ref mo), some (.ref o), some (.int (nI i)), none, none, none, none]) (by repeat' constructor) ?_
    refine rg_widen (k2 := k + 600) (n2 := n + 8000) (by omega) (by omega) ?_
    exact KK _ ⟨u1, M2, v1, P2, nW2, nL2, u2, ad2, F2, nI kk, lo2, rfl, ho1, hdis3.sym, hc2, hm2⟩
  · refine rg_aload_n F (pc := 513) dL_law_513 rfl ?_
    refine rg_iconst F (pc := 514) (v := nI 0) dL_law_514 (by decide) ?_
    refine rg_lald F (pc := 515) (x := val.toInt64) (mj_in hdis3 (mj_in (mone_dis ho1) mone_eq)) (by decide) (by decide) (hv1 c510) dL_law_515 ?_
    refine rg_iload F (pc := 516) dL_law_516 rfl ?_
    refine rg_i2l F (pc := 518) (v := (r2).toInt64) dL_law_518 rfl ?_
    refine rg_lcmp F (pc := 519) (v := nI 0) dL_law_519 (by rw [hrv c510]; exact lc_self _) ?_
    refine rg_nif_eq F (pc := 520) (tgt := 525) dL_law_520 (by decide) (by omega) (fun c520 => ?_) (fun c520 => by exfalso; omega)
    refine rg_goto F (pc := 525) (tgt := 1184) dL_law_525 (by decide) ?_
    refine rg_mem (mj_comm hdis3) ?_
    rw [hq3.2] at hdis3 ⊢
    obtain ⟨u2, hc2⟩ := hc1
    refine rg_sub (lv' := [some (.ref b), some (.ref x), some (.ref mo), some (.ref o), some (.int (nI i)), none, none, none, none]) (by repeat' constructor) ?_
    refine rg_widen (k2 := k + 600) (n2 := n + 8000) (by omega) (by omega) ?_
    exact KK _ ⟨u1, M2, v1, P2, nW2, nL2, u2, ad2, F2, nI kk, lo2, rfl, ho1, hdis3.sym, hc2, hm2⟩
set_option maxHeartbeats 4000000 in
set_option maxRecDepth 100000 in
theorem L_written (F : rF p l e room_1 s m args below meth c cL_law 9 RL D A) (hNc : rNc s) (hl9 : l.stackTraces = false) (hX : va_X b L xs s s.heap) (hbl : b < s.heap.size) (hbA : ¬ A b) (hL : L ≤ 3072) (hi : i + 6 ≤ L) (hk : k + 600 ≤ 601024) (hn : n + 8000 ≤ 7293034) (hLS : lsA D M x mo o) (KK : ∀ M' : rMem, lsA D M' x mo o → rG p l e room_1 s m args below meth c D A 9 Q M' (k + 600) (n + 8000) [some (.ref b), some (.ref x), some (.ref mo), some (.ref o), some (.int (nI i)), none, none, none, none] 1184 []) : rG p l e room_1 s m args below meth c D A 9 Q M k n [some (.ref b), some (.ref x), some (.ref mo), some (.ref o), some (.int (nI i)), none, none, none, none] 528 [] := by
  obtain ⟨MC, MR, v0, P, nW, nL, u, ad, Fn, t, lo, rfl, ho, hd, hc, hm⟩ := hLS
  refine rg_aload_n F (pc := 528) dL_law_528 rfl ?_
  refine rg_aload_n F (pc := 529) dL_law_529 rfl ?_
  refine rg_iload F (pc := 530) dL_law_530 rfl ?_
  refine rg_iconst F (pc := 532) (v := nI 1) dL_law_532 (by decide) ?_
  refine rg_iadd F (pc := 533) (v := nI (i + 1)) dL_law_533 (nI_add _ _) ?_
  refine rg_sld F hX hbl hbA hL (pc := 534) (j := i + 1) (by omega) dL_law_534 ?_
  refine rg_aload_n F (pc := 535) dL_law_535 rfl ?_
  refine rg_iload F (pc := 536) dL_law_536 rfl ?_
  refine rg_iconst F (pc := 538) (v := nI 2) dL_law_538 (by decide) ?_
  refine rg_iadd F (pc := 539) (v := nI (i + 2)) dL_law_539 (nI_add _ _) ?_
  refine rg_sld F hX hbl hbA hL (pc := 540) (j := i + 2) (by omega) dL_law_540 ?_
  refine rg_aload_n F (pc := 541) dL_law_541 rfl ?_
  obtain ⟨kk, val, P2, nW2, nL2, lev, mc, ms, lev2, mc2, ms2, hk3, ⟨hl1, hl2, hl3⟩, ⟨hl4, hl5, hl6⟩, hH, hR⟩ := op_written l D x o mo ((xs (i + 1))) ((xs (i + 2))) MC MR v0 P nW nL u ad Fn t lo hl9 hc ho hm
  refine rg_fH F hNc (pc := 542) (M := mjoin MC (mone o (oV D v0))) (N := MR) (As := [.ref (x), .int ((xs (i + 1))), .int ((xs (i + 2))), .ref (o)]) (rest := []) hH q612 hq_written rfl rfl (Nat.le_of_ble_eq_true rfl) (by show lev + 1 ≤ 12; omega) (by show 8 + (5 + 11) + 32 * lev ≤ 462; omega) ⟨by show _ ≤ 601024; omega, by show _ ≤ 7293034; omega⟩ hd dL_law_542 (fun r1 M1 hp hdis => ?_)
  obtain ⟨hr1, u1, v1, hM1, ho1, hc1, hv1⟩ := hp
  refine rg_top (v2 := .int (nI kk)) (by rw [hr1]) ?_
  subst hM1
  refine rg_istore F (pc := 545) (lv' := [some (.ref (b)), some (.ref (x)), some (.ref (mo)), some (.ref (o)), some (.int (nI i)), some (.int (nI kk)), none, none, none]) dL_law_545 (Nat.le_of_ble_eq_true rfl) rfl ?_
  refine rg_aload_n F (pc := 547) dL_law_547 rfl ?_
  refine rg_aload_n F (pc := 548) dL_law_548 rfl ?_
  refine rg_iload F (pc := 549) dL_law_549 rfl ?_
  refine rg_iconst F (pc := 551) (v := nI 1) dL_law_551 (by decide) ?_
  refine rg_iadd F (pc := 552) (v := nI (i + 1)) dL_law_552 (nI_add _ _) ?_
  refine rg_sld F hX hbl hbA hL (pc := 553) (j := i + 1) (by omega) dL_law_553 ?_
  refine rg_aload_n F (pc := 554) dL_law_554 rfl ?_
  refine rg_iload F (pc := 555) dL_law_555 rfl ?_
  refine rg_iconst F (pc := 557) (v := nI 2) dL_law_557 (by decide) ?_
  refine rg_iadd F (pc := 558) (v := nI (i + 2)) dL_law_558 (nI_add _ _) ?_
  refine rg_sld F hX hbl hbA hL (pc := 559) (j := i + 2) (by omega) dL_law_559 ?_
  refine rg_mem (mj_comm hdis) ?_
  refine rg_fVi F (pc := 560) (M := MR) (N := mjoin u1 (mone o (oV D v1))) (As := [.int ((xs (i + 1))), .int ((xs (i + 2)))]) (rest := []) (ci := 5) hR q614 vq_X4_written rfl hm.2.1.1 rfl rfl (Nat.le_of_ble_eq_true rfl) (by show lev2 + 1 ≤ 12; omega) (by show 8 + (3 + 11) + 32 * lev2 ≤ 462; omega) ⟨by show _ ≤ 601024; omega, by show _ ≤ 7293034; omega⟩ hdis.sym dL_law_560 (fun r2 M2 hq2 hdis2 => ?_)
  obtain ⟨⟨ad2, F2, lo2, hm2⟩, hrv⟩ := hq2
  refine rg_istore F (pc := 563) (lv' := [some (.ref (b)), some (.ref (x)), some (.ref (mo)), some (.ref (o)), some (.int (nI i)), some (.int (nI kk)), some (.int (r2)), none, none]) dL_law_563 (Nat.le_of_ble_eq_true rfl) rfl ?_
  refine rg_aload_n F (pc := 565) dL_law_565 rfl ?_
  refine rg_fVi F (pc := 566) (M := M2) (N := mjoin u1 (mone o (oV D v1))) (As := []) (rest := []) (ci := 5) (r_thrown l D M2 mo P2 nW2 nL2 ad2 F2 (nI kk) lo2 hm2) q589 vq_X4_thrown rfl hm2.2.1.1 rfl rfl (Nat.le_of_ble_eq_true rfl) (Nat.le_of_ble_eq_true rfl) (Nat.le_of_ble_eq_true rfl) ⟨by show _ ≤ 601024; omega, by show _ ≤ 7293034; omega⟩ hdis2 dL_law_566 (fun r3 M3 hq3 hdis3 => ?_)
  refine rg_top (v2 := .int (nI kk)) (by rw [hq3.1]) ?_
  refine rg_iload F (pc := 569) dL_law_569 rfl ?_
  refine rg_ncmp_eq F (pc := 571) (tgt := 576) dL_law_571 (by decide) (by omega) (by omega) (fun c571 => ?_) (fun c571 => by exfalso; omega)
  refine rg_iload F (pc := 576) dL_law_576 rfl ?_
  refine rg_nif_ne F (pc := 578) (tgt := 593) dL_law_578 (by decide) (by omega) (fun c578 => ?_) (fun c578 => ?_)
  · refine rg_goto F (pc := 593) (tgt := 1184) dL_law_593 (by decide) ?_
    refine rg_mem (mj_comm hdis3) ?_
    rw [hq3.2] at hdis3 ⊢
    obtain ⟨u2, hc2⟩ := hc1
    refine rg_sub (lv' := [some (.ref b), some (.ref x), some (.ref mo), some (.ref o), some (.int (nI i)), none, none, none, none]) (by repeat' constructor) ?_
    refine rg_widen (k2 := k + 600) (n2 := n + 8000) (by omega) (by omega) ?_
    exact KK _ ⟨u1, M2, v1, P2, nW2, nL2, u2, ad2, F2, nI kk, lo2, rfl, ho1, hdis3.sym, hc2, hm2⟩
  · refine rg_aload_n F (pc := 581) dL_law_581 rfl ?_
    refine rg_iconst F (pc := 582) (v := nI 0) dL_law_582 (by decide) ?_
    refine rg_lald F (pc := 583) (x := val.toInt64) (mj_in hdis3 (mj_in (mone_dis ho1) mone_eq)) (by decide) (by decide) (hv1 c578) dL_law_583 ?_
    refine rg_iload F (pc := 584) dL_law_584 rfl ?_
    refine rg_i2l F (pc := 586) (v := (r2).toInt64) dL_law_586 rfl ?_
    refine rg_lcmp F (pc := 587) (v := nI 0) dL_law_587 (by rw [hrv c578]; exact lc_self _) ?_
    refine rg_nif_eq F (pc := 588) (tgt := 593) dL_law_588 (by decide) (by omega) (fun c588 => ?_) (fun c588 => by exfalso; omega)
    refine rg_goto F (pc := 593) (tgt := 1184) dL_law_593 (by decide) ?_
    refine rg_mem (mj_comm hdis3) ?_
    rw [hq3.2] at hdis3 ⊢
    obtain ⟨u2, hc2⟩ := hc1
    refine rg_sub (lv' := [some (.ref b), some (.ref x), some (.ref mo), some (.ref o), some (.int (nI i)), none, none, none, none]) (by repeat' constructor) ?_
    refine rg_widen (k2 := k + 600) (n2 := n + 8000) (by omega) (by omega) ?_
    exact KK _ ⟨u1, M2, v1, P2, nW2, nL2, u2, ad2, F2, nI kk, lo2, rfl, ho1, hdis3.sym, hc2, hm2⟩
set_option maxHeartbeats 4000000 in
set_option maxRecDepth 100000 in
theorem L_told (F : rF p l e room_1 s m args below meth c cL_law 9 RL D A) (hNc : rNc s) (hl9 : l.stackTraces = false) (hX : va_X b L xs s s.heap) (hbl : b < s.heap.size) (hbA : ¬ A b) (hL : L ≤ 3072) (hi : i + 6 ≤ L) (hk : k + 600 ≤ 601024) (hn : n + 8000 ≤ 7293034) (hLS : lsA D M x mo o) (KK : ∀ M' : rMem, lsA D M' x mo o → rG p l e room_1 s m args below meth c D A 9 Q M' (k + 600) (n + 8000) [some (.ref b), some (.ref x), some (.ref mo), some (.ref o), some (.int (nI i)), none, none, none, none] 1184 []) : rG p l e room_1 s m args below meth c D A 9 Q M k n [some (.ref b), some (.ref x), some (.ref mo), some (.ref o), some (.int (nI i)), none, none, none, none] 596 [] := by
  obtain ⟨MC, MR, v0, P, nW, nL, u, ad, Fn, t, lo, rfl, ho, hd, hc, hm⟩ := hLS
  refine rg_aload_n F (pc := 596) dL_law_596 rfl ?_
  refine rg_aload_n F (pc := 597) dL_law_597 rfl ?_
  refine rg_iload F (pc := 598) dL_law_598 rfl ?_
  refine rg_iconst F (pc := 600) (v := nI 1) dL_law_600 (by decide) ?_
  refine rg_iadd F (pc := 601) (v := nI (i + 1)) dL_law_601 (nI_add _ _) ?_
  refine rg_sld F hX hbl hbA hL (pc := 602) (j := i + 1) (by omega) dL_law_602 ?_
  refine rg_aload_n F (pc := 603) dL_law_603 rfl ?_
  refine rg_iload F (pc := 604) dL_law_604 rfl ?_
  refine rg_iconst F (pc := 606) (v := nI 2) dL_law_606 (by decide) ?_
  refine rg_iadd F (pc := 607) (v := nI (i + 2)) dL_law_607 (nI_add _ _) ?_
  refine rg_sld F hX hbl hbA hL (pc := 608) (j := i + 2) (by omega) dL_law_608 ?_
  refine rg_aload_n F (pc := 609) dL_law_609 rfl ?_
  obtain ⟨kk, val, P2, nW2, nL2, lev, mc, ms, lev2, mc2, ms2, hk3, ⟨hl1, hl2, hl3⟩, ⟨hl4, hl5, hl6⟩, hH, hR⟩ := op_told l D x o mo ((xs (i + 1))) ((xs (i + 2))) MC MR v0 P nW nL u ad Fn t lo hl9 hc ho hm
  refine rg_fH F hNc (pc := 610) (M := mjoin MC (mone o (oV D v0))) (N := MR) (As := [.ref (x), .int ((xs (i + 1))), .int ((xs (i + 2))), .ref (o)]) (rest := []) hH q617 hq_told rfl rfl (Nat.le_of_ble_eq_true rfl) (by show lev + 1 ≤ 12; omega) (by show 8 + (5 + 11) + 32 * lev ≤ 462; omega) ⟨by show _ ≤ 601024; omega, by show _ ≤ 7293034; omega⟩ hd dL_law_610 (fun r1 M1 hp hdis => ?_)
  obtain ⟨hr1, u1, v1, hM1, ho1, hc1, hv1⟩ := hp
  refine rg_top (v2 := .int (nI kk)) (by rw [hr1]) ?_
  subst hM1
  refine rg_istore F (pc := 613) (lv' := [some (.ref (b)), some (.ref (x)), some (.ref (mo)), some (.ref (o)), some (.int (nI i)), some (.int (nI kk)), none, none, none]) dL_law_613 (Nat.le_of_ble_eq_true rfl) rfl ?_
  refine rg_aload_n F (pc := 615) dL_law_615 rfl ?_
  refine rg_aload_n F (pc := 616) dL_law_616 rfl ?_
  refine rg_iload F (pc := 617) dL_law_617 rfl ?_
  refine rg_iconst F (pc := 619) (v := nI 1) dL_law_619 (by decide) ?_
  refine rg_iadd F (pc := 620) (v := nI (i + 1)) dL_law_620 (nI_add _ _) ?_
  refine rg_sld F hX hbl hbA hL (pc := 621) (j := i + 1) (by omega) dL_law_621 ?_
  refine rg_aload_n F (pc := 622) dL_law_622 rfl ?_
  refine rg_iload F (pc := 623) dL_law_623 rfl ?_
  refine rg_iconst F (pc := 625) (v := nI 2) dL_law_625 (by decide) ?_
  refine rg_iadd F (pc := 626) (v := nI (i + 2)) dL_law_626 (nI_add _ _) ?_
  refine rg_sld F hX hbl hbA hL (pc := 627) (j := i + 2) (by omega) dL_law_627 ?_
  refine rg_mem (mj_comm hdis) ?_
  refine rg_fVi F (pc := 628) (M := MR) (N := mjoin u1 (mone o (oV D v1))) (As := [.int ((xs (i + 1))), .int ((xs (i + 2)))]) (rest := []) (ci := 5) hR q619 vq_X4_told rfl hm.2.1.1 rfl rfl (Nat.le_of_ble_eq_true rfl) (by show lev2 + 1 ≤ 12; omega) (by show 8 + (3 + 11) + 32 * lev2 ≤ 462; omega) ⟨by show _ ≤ 601024; omega, by show _ ≤ 7293034; omega⟩ hdis.sym dL_law_628 (fun r2 M2 hq2 hdis2 => ?_)
  obtain ⟨⟨ad2, F2, lo2, hm2⟩, hrv⟩ := hq2
  refine rg_istore F (pc := 631) (lv' := [some (.ref (b)), some (.ref (x)), some (.ref (mo)), some (.ref (o)), some (.int (nI i)), some (.int (nI kk)), some (.int (r2)), none, none]) dL_law_631 (Nat.le_of_ble_eq_true rfl) rfl ?_
  refine rg_aload_n F (pc := 633) dL_law_633 rfl ?_
  refine rg_fVi F (pc := 634) (M := M2) (N := mjoin u1 (mone o (oV D v1))) (As := []) (rest := []) (ci := 5) (r_thrown l D M2 mo P2 nW2 nL2 ad2 F2 (nI kk) lo2 hm2) q589 vq_X4_thrown rfl hm2.2.1.1 rfl rfl (Nat.le_of_ble_eq_true rfl) (Nat.le_of_ble_eq_true rfl) (Nat.le_of_ble_eq_true rfl) ⟨by show _ ≤ 601024; omega, by show _ ≤ 7293034; omega⟩ hdis2 dL_law_634 (fun r3 M3 hq3 hdis3 => ?_)
  refine rg_top (v2 := .int (nI kk)) (by rw [hq3.1]) ?_
  refine rg_iload F (pc := 637) dL_law_637 rfl ?_
  refine rg_ncmp_eq F (pc := 639) (tgt := 644) dL_law_639 (by decide) (by omega) (by omega) (fun c639 => ?_) (fun c639 => by exfalso; omega)
  refine rg_iload F (pc := 644) dL_law_644 rfl ?_
  refine rg_nif_ne F (pc := 646) (tgt := 661) dL_law_646 (by decide) (by omega) (fun c646 => ?_) (fun c646 => ?_)
  · refine rg_goto F (pc := 661) (tgt := 1184) dL_law_661 (by decide) ?_
    refine rg_mem (mj_comm hdis3) ?_
    rw [hq3.2] at hdis3 ⊢
    obtain ⟨u2, hc2⟩ := hc1
    refine rg_sub (lv' := [some (.ref b), some (.ref x), some (.ref mo), some (.ref o), some (.int (nI i)), none, none, none, none]) (by repeat' constructor) ?_
    refine rg_widen (k2 := k + 600) (n2 := n + 8000) (by omega) (by omega) ?_
    exact KK _ ⟨u1, M2, v1, P2, nW2, nL2, u2, ad2, F2, nI kk, lo2, rfl, ho1, hdis3.sym, hc2, hm2⟩
  · refine rg_aload_n F (pc := 649) dL_law_649 rfl ?_
    refine rg_iconst F (pc := 650) (v := nI 0) dL_law_650 (by decide) ?_
    refine rg_lald F (pc := 651) (x := val.toInt64) (mj_in hdis3 (mj_in (mone_dis ho1) mone_eq)) (by decide) (by decide) (hv1 c646) dL_law_651 ?_
    refine rg_iload F (pc := 652) dL_law_652 rfl ?_
    refine rg_i2l F (pc := 654) (v := (r2).toInt64) dL_law_654 rfl ?_
    refine rg_lcmp F (pc := 655) (v := nI 0) dL_law_655 (by rw [hrv c646]; exact lc_self _) ?_
    refine rg_nif_eq F (pc := 656) (tgt := 661) dL_law_656 (by decide) (by omega) (fun c656 => ?_) (fun c656 => by exfalso; omega)
    refine rg_goto F (pc := 661) (tgt := 1184) dL_law_661 (by decide) ?_
    refine rg_mem (mj_comm hdis3) ?_
    rw [hq3.2] at hdis3 ⊢
    obtain ⟨u2, hc2⟩ := hc1
    refine rg_sub (lv' := [some (.ref b), some (.ref x), some (.ref mo), some (.ref o), some (.int (nI i)), none, none, none, none]) (by repeat' constructor) ?_
    refine rg_widen (k2 := k + 600) (n2 := n + 8000) (by omega) (by omega) ?_
    exact KK _ ⟨u1, M2, v1, P2, nW2, nL2, u2, ad2, F2, nI kk, lo2, rfl, ho1, hdis3.sym, hc2, hm2⟩
set_option maxHeartbeats 4000000 in
set_option maxRecDepth 100000 in
theorem L_stress (F : rF p l e room_1 s m args below meth c cL_law 9 RL D A) (hNc : rNc s) (hl9 : l.stackTraces = false) (hX : va_X b L xs s s.heap) (hbl : b < s.heap.size) (hbA : ¬ A b) (hL : L ≤ 3072) (hi : i + 6 ≤ L) (hk : k + 600 ≤ 601024) (hn : n + 8000 ≤ 7293034) (hLS : lsA D M x mo o) (KK : ∀ M' : rMem, lsA D M' x mo o → rG p l e room_1 s m args below meth c D A 9 Q M' (k + 600) (n + 8000) [some (.ref b), some (.ref x), some (.ref mo), some (.ref o), some (.int (nI i)), none, none, none, none] 1184 []) : rG p l e room_1 s m args below meth c D A 9 Q M k n [some (.ref b), some (.ref x), some (.ref mo), some (.ref o), some (.int (nI i)), none, none, none, none] 664 [] := by
  obtain ⟨MC, MR, v0, P, nW, nL, u, ad, Fn, t, lo, rfl, ho, hd, hc, hm⟩ := hLS
  refine rg_aload_n F (pc := 664) dL_law_664 rfl ?_
  refine rg_aload_n F (pc := 665) dL_law_665 rfl ?_
  refine rg_iload F (pc := 666) dL_law_666 rfl ?_
  refine rg_iconst F (pc := 668) (v := nI 1) dL_law_668 (by decide) ?_
  refine rg_iadd F (pc := 669) (v := nI (i + 1)) dL_law_669 (nI_add _ _) ?_
  refine rg_sld F hX hbl hbA hL (pc := 670) (j := i + 1) (by omega) dL_law_670 ?_
  refine rg_aload_n F (pc := 671) dL_law_671 rfl ?_
  refine rg_iload F (pc := 672) dL_law_672 rfl ?_
  refine rg_iconst F (pc := 674) (v := nI 2) dL_law_674 (by decide) ?_
  refine rg_iadd F (pc := 675) (v := nI (i + 2)) dL_law_675 (nI_add _ _) ?_
  refine rg_sld F hX hbl hbA hL (pc := 676) (j := i + 2) (by omega) dL_law_676 ?_
  refine rg_aload_n F (pc := 677) dL_law_677 rfl ?_
  obtain ⟨kk, val, P2, nW2, nL2, lev, mc, ms, lev2, mc2, ms2, hk3, ⟨hl1, hl2, hl3⟩, ⟨hl4, hl5, hl6⟩, hH, hR⟩ := op_stress l D x o mo ((xs (i + 1))) ((xs (i + 2))) MC MR v0 P nW nL u ad Fn t lo hl9 hc ho hm
  refine rg_fH F hNc (pc := 678) (M := mjoin MC (mone o (oV D v0))) (N := MR) (As := [.ref (x), .int ((xs (i + 1))), .int ((xs (i + 2))), .ref (o)]) (rest := []) hH q622 hq_stress rfl rfl (Nat.le_of_ble_eq_true rfl) (by show lev + 1 ≤ 12; omega) (by show 8 + (5 + 11) + 32 * lev ≤ 462; omega) ⟨by show _ ≤ 601024; omega, by show _ ≤ 7293034; omega⟩ hd dL_law_678 (fun r1 M1 hp hdis => ?_)
  obtain ⟨hr1, u1, v1, hM1, ho1, hc1, hv1⟩ := hp
  refine rg_top (v2 := .int (nI kk)) (by rw [hr1]) ?_
  subst hM1
  refine rg_istore F (pc := 681) (lv' := [some (.ref (b)), some (.ref (x)), some (.ref (mo)), some (.ref (o)), some (.int (nI i)), some (.int (nI kk)), none, none, none]) dL_law_681 (Nat.le_of_ble_eq_true rfl) rfl ?_
  refine rg_aload_n F (pc := 683) dL_law_683 rfl ?_
  refine rg_aload_n F (pc := 684) dL_law_684 rfl ?_
  refine rg_iload F (pc := 685) dL_law_685 rfl ?_
  refine rg_iconst F (pc := 687) (v := nI 1) dL_law_687 (by decide) ?_
  refine rg_iadd F (pc := 688) (v := nI (i + 1)) dL_law_688 (nI_add _ _) ?_
  refine rg_sld F hX hbl hbA hL (pc := 689) (j := i + 1) (by omega) dL_law_689 ?_
  refine rg_aload_n F (pc := 690) dL_law_690 rfl ?_
  refine rg_iload F (pc := 691) dL_law_691 rfl ?_
  refine rg_iconst F (pc := 693) (v := nI 2) dL_law_693 (by decide) ?_
  refine rg_iadd F (pc := 694) (v := nI (i + 2)) dL_law_694 (nI_add _ _) ?_
  refine rg_sld F hX hbl hbA hL (pc := 695) (j := i + 2) (by omega) dL_law_695 ?_
  refine rg_mem (mj_comm hdis) ?_
  refine rg_fVi F (pc := 696) (M := MR) (N := mjoin u1 (mone o (oV D v1))) (As := [.int ((xs (i + 1))), .int ((xs (i + 2)))]) (rest := []) (ci := 5) hR q624 vq_X4_stress rfl hm.2.1.1 rfl rfl (Nat.le_of_ble_eq_true rfl) (by show lev2 + 1 ≤ 12; omega) (by show 8 + (3 + 11) + 32 * lev2 ≤ 462; omega) ⟨by show _ ≤ 601024; omega, by show _ ≤ 7293034; omega⟩ hdis.sym dL_law_696 (fun r2 M2 hq2 hdis2 => ?_)
  obtain ⟨⟨ad2, F2, lo2, hm2⟩, hrv⟩ := hq2
  refine rg_istore F (pc := 699) (lv' := [some (.ref (b)), some (.ref (x)), some (.ref (mo)), some (.ref (o)), some (.int (nI i)), some (.int (nI kk)), some (.int (r2)), none, none]) dL_law_699 (Nat.le_of_ble_eq_true rfl) rfl ?_
  refine rg_aload_n F (pc := 701) dL_law_701 rfl ?_
  refine rg_fVi F (pc := 702) (M := M2) (N := mjoin u1 (mone o (oV D v1))) (As := []) (rest := []) (ci := 5) (r_thrown l D M2 mo P2 nW2 nL2 ad2 F2 (nI kk) lo2 hm2) q589 vq_X4_thrown rfl hm2.2.1.1 rfl rfl (Nat.le_of_ble_eq_true rfl) (Nat.le_of_ble_eq_true rfl) (Nat.le_of_ble_eq_true rfl) ⟨by show _ ≤ 601024; omega, by show _ ≤ 7293034; omega⟩ hdis2 dL_law_702 (fun r3 M3 hq3 hdis3 => ?_)
  refine rg_top (v2 := .int (nI kk)) (by rw [hq3.1]) ?_
  refine rg_iload F (pc := 705) dL_law_705 rfl ?_
  refine rg_ncmp_eq F (pc := 707) (tgt := 712) dL_law_707 (by decide) (by omega) (by omega) (fun c707 => ?_) (fun c707 => by exfalso; omega)
  refine rg_iload F (pc := 712) dL_law_712 rfl ?_
  refine rg_nif_ne F (pc := 714) (tgt := 729) dL_law_714 (by decide) (by omega) (fun c714 => ?_) (fun c714 => ?_)
  · refine rg_goto F (pc := 729) (tgt := 1184) dL_law_729 (by decide) ?_
    refine rg_mem (mj_comm hdis3) ?_
    rw [hq3.2] at hdis3 ⊢
    obtain ⟨u2, hc2⟩ := hc1
    refine rg_sub (lv' := [some (.ref b), some (.ref x), some (.ref mo), some (.ref o), some (.int (nI i)), none, none, none, none]) (by repeat' constructor) ?_
    refine rg_widen (k2 := k + 600) (n2 := n + 8000) (by omega) (by omega) ?_
    exact KK _ ⟨u1, M2, v1, P2, nW2, nL2, u2, ad2, F2, nI kk, lo2, rfl, ho1, hdis3.sym, hc2, hm2⟩
  · refine rg_aload_n F (pc := 717) dL_law_717 rfl ?_
    refine rg_iconst F (pc := 718) (v := nI 0) dL_law_718 (by decide) ?_
    refine rg_lald F (pc := 719) (x := val.toInt64) (mj_in hdis3 (mj_in (mone_dis ho1) mone_eq)) (by decide) (by decide) (hv1 c714) dL_law_719 ?_
    refine rg_iload F (pc := 720) dL_law_720 rfl ?_
    refine rg_i2l F (pc := 722) (v := (r2).toInt64) dL_law_722 rfl ?_
    refine rg_lcmp F (pc := 723) (v := nI 0) dL_law_723 (by rw [hrv c714]; exact lc_self _) ?_
    refine rg_nif_eq F (pc := 724) (tgt := 729) dL_law_724 (by decide) (by omega) (fun c724 => ?_) (fun c724 => by exfalso; omega)
    refine rg_goto F (pc := 729) (tgt := 1184) dL_law_729 (by decide) ?_
    refine rg_mem (mj_comm hdis3) ?_
    rw [hq3.2] at hdis3 ⊢
    obtain ⟨u2, hc2⟩ := hc1
    refine rg_sub (lv' := [some (.ref b), some (.ref x), some (.ref mo), some (.ref o), some (.int (nI i)), none, none, none, none]) (by repeat' constructor) ?_
    refine rg_widen (k2 := k + 600) (n2 := n + 8000) (by omega) (by omega) ?_
    exact KK _ ⟨u1, M2, v1, P2, nW2, nL2, u2, ad2, F2, nI kk, lo2, rfl, ho1, hdis3.sym, hc2, hm2⟩
set_option maxHeartbeats 4000000 in
set_option maxRecDepth 100000 in
theorem L_melted (F : rF p l e room_1 s m args below meth c cL_law 9 RL D A) (hNc : rNc s) (hl9 : l.stackTraces = false) (hX : va_X b L xs s s.heap) (hbl : b < s.heap.size) (hbA : ¬ A b) (hL : L ≤ 3072) (hi : i + 6 ≤ L) (hk : k + 600 ≤ 601024) (hn : n + 8000 ≤ 7293034) (hLS : lsA D M x mo o) (KK : ∀ M' : rMem, lsA D M' x mo o → rG p l e room_1 s m args below meth c D A 9 Q M' (k + 600) (n + 8000) [some (.ref b), some (.ref x), some (.ref mo), some (.ref o), some (.int (nI i)), none, none, none, none] 1184 []) : rG p l e room_1 s m args below meth c D A 9 Q M k n [some (.ref b), some (.ref x), some (.ref mo), some (.ref o), some (.int (nI i)), none, none, none, none] 732 [] := by
  obtain ⟨MC, MR, v0, P, nW, nL, u, ad, Fn, t, lo, rfl, ho, hd, hc, hm⟩ := hLS
  refine rg_aload_n F (pc := 732) dL_law_732 rfl ?_
  refine rg_aload_n F (pc := 733) dL_law_733 rfl ?_
  refine rg_iload F (pc := 734) dL_law_734 rfl ?_
  refine rg_iconst F (pc := 736) (v := nI 1) dL_law_736 (by decide) ?_
  refine rg_iadd F (pc := 737) (v := nI (i + 1)) dL_law_737 (nI_add _ _) ?_
  refine rg_sld F hX hbl hbA hL (pc := 738) (j := i + 1) (by omega) dL_law_738 ?_
  refine rg_aload_n F (pc := 739) dL_law_739 rfl ?_
  obtain ⟨kk, val, P2, nW2, nL2, lev, mc, ms, lev2, mc2, ms2, hk3, ⟨hl1, hl2, hl3⟩, ⟨hl4, hl5, hl6⟩, hH, hR⟩ := op_melted l D x o mo ((xs (i + 1))) MC MR v0 P nW nL u ad Fn t lo hl9 hc ho hm
  refine rg_fH F hNc (pc := 740) (M := mjoin MC (mone o (oV D v0))) (N := MR) (As := [.ref (x), .int ((xs (i + 1))), .ref (o)]) (rest := []) hH q627 hq_melted rfl rfl (Nat.le_of_ble_eq_true rfl) (by show lev + 1 ≤ 12; omega) (by show 8 + (4 + 11) + 32 * lev ≤ 462; omega) ⟨by show _ ≤ 601024; omega, by show _ ≤ 7293034; omega⟩ hd dL_law_740 (fun r1 M1 hp hdis => ?_)
  obtain ⟨hr1, u1, v1, hM1, ho1, hc1, hv1⟩ := hp
  refine rg_top (v2 := .int (nI kk)) (by rw [hr1]) ?_
  subst hM1
  refine rg_istore F (pc := 743) (lv' := [some (.ref (b)), some (.ref (x)), some (.ref (mo)), some (.ref (o)), some (.int (nI i)), some (.int (nI kk)), none, none, none]) dL_law_743 (Nat.le_of_ble_eq_true rfl) rfl ?_
  refine rg_aload_n F (pc := 745) dL_law_745 rfl ?_
  refine rg_aload_n F (pc := 746) dL_law_746 rfl ?_
  refine rg_iload F (pc := 747) dL_law_747 rfl ?_
  refine rg_iconst F (pc := 749) (v := nI 1) dL_law_749 (by decide) ?_
  refine rg_iadd F (pc := 750) (v := nI (i + 1)) dL_law_750 (nI_add _ _) ?_
  refine rg_sld F hX hbl hbA hL (pc := 751) (j := i + 1) (by omega) dL_law_751 ?_
  refine rg_mem (mj_comm hdis) ?_
  refine rg_fVi F (pc := 752) (M := MR) (N := mjoin u1 (mone o (oV D v1))) (As := [.int ((xs (i + 1)))]) (rest := []) (ci := 5) hR q629 vq_X4_melted rfl hm.2.1.1 rfl rfl (Nat.le_of_ble_eq_true rfl) (by show lev2 + 1 ≤ 12; omega) (by show 8 + (4 + 11) + 32 * lev2 ≤ 462; omega) ⟨by show _ ≤ 601024; omega, by show _ ≤ 7293034; omega⟩ hdis.sym dL_law_752 (fun r2 M2 hq2 hdis2 => ?_)
  obtain ⟨⟨ad2, F2, lo2, hm2⟩, hrv⟩ := hq2
  refine rg_istore F (pc := 755) (lv' := [some (.ref (b)), some (.ref (x)), some (.ref (mo)), some (.ref (o)), some (.int (nI i)), some (.int (nI kk)), some (.int (r2)), none, none]) dL_law_755 (Nat.le_of_ble_eq_true rfl) rfl ?_
  refine rg_aload_n F (pc := 757) dL_law_757 rfl ?_
  refine rg_fVi F (pc := 758) (M := M2) (N := mjoin u1 (mone o (oV D v1))) (As := []) (rest := []) (ci := 5) (r_thrown l D M2 mo P2 nW2 nL2 ad2 F2 (nI kk) lo2 hm2) q589 vq_X4_thrown rfl hm2.2.1.1 rfl rfl (Nat.le_of_ble_eq_true rfl) (Nat.le_of_ble_eq_true rfl) (Nat.le_of_ble_eq_true rfl) ⟨by show _ ≤ 601024; omega, by show _ ≤ 7293034; omega⟩ hdis2 dL_law_758 (fun r3 M3 hq3 hdis3 => ?_)
  refine rg_top (v2 := .int (nI kk)) (by rw [hq3.1]) ?_
  refine rg_iload F (pc := 761) dL_law_761 rfl ?_
  refine rg_ncmp_eq F (pc := 763) (tgt := 768) dL_law_763 (by decide) (by omega) (by omega) (fun c763 => ?_) (fun c763 => by exfalso; omega)
  refine rg_iload F (pc := 768) dL_law_768 rfl ?_
  refine rg_nif_ne F (pc := 770) (tgt := 785) dL_law_770 (by decide) (by omega) (fun c770 => ?_) (fun c770 => ?_)
  · refine rg_goto F (pc := 785) (tgt := 1184) dL_law_785 (by decide) ?_
    refine rg_mem (mj_comm hdis3) ?_
    rw [hq3.2] at hdis3 ⊢
    obtain ⟨u2, hc2⟩ := hc1
    refine rg_sub (lv' := [some (.ref b), some (.ref x), some (.ref mo), some (.ref o), some (.int (nI i)), none, none, none, none]) (by repeat' constructor) ?_
    refine rg_widen (k2 := k + 600) (n2 := n + 8000) (by omega) (by omega) ?_
    exact KK _ ⟨u1, M2, v1, P2, nW2, nL2, u2, ad2, F2, nI kk, lo2, rfl, ho1, hdis3.sym, hc2, hm2⟩
  · refine rg_aload_n F (pc := 773) dL_law_773 rfl ?_
    refine rg_iconst F (pc := 774) (v := nI 0) dL_law_774 (by decide) ?_
    refine rg_lald F (pc := 775) (x := val.toInt64) (mj_in hdis3 (mj_in (mone_dis ho1) mone_eq)) (by decide) (by decide) (hv1 c770) dL_law_775 ?_
    refine rg_iload F (pc := 776) dL_law_776 rfl ?_
    refine rg_i2l F (pc := 778) (v := (r2).toInt64) dL_law_778 rfl ?_
    refine rg_lcmp F (pc := 779) (v := nI 0) dL_law_779 (by rw [hrv c770]; exact lc_self _) ?_
    refine rg_nif_eq F (pc := 780) (tgt := 785) dL_law_780 (by decide) (by omega) (fun c780 => ?_) (fun c780 => by exfalso; omega)
    refine rg_goto F (pc := 785) (tgt := 1184) dL_law_785 (by decide) ?_
    refine rg_mem (mj_comm hdis3) ?_
    rw [hq3.2] at hdis3 ⊢
    obtain ⟨u2, hc2⟩ := hc1
    refine rg_sub (lv' := [some (.ref b), some (.ref x), some (.ref mo), some (.ref o), some (.int (nI i)), none, none, none, none]) (by repeat' constructor) ?_
    refine rg_widen (k2 := k + 600) (n2 := n + 8000) (by omega) (by omega) ?_
    exact KK _ ⟨u1, M2, v1, P2, nW2, nL2, u2, ad2, F2, nI kk, lo2, rfl, ho1, hdis3.sym, hc2, hm2⟩
set_option maxHeartbeats 4000000 in
set_option maxRecDepth 100000 in
theorem L_rhyme (F : rF p l e room_1 s m args below meth c cL_law 9 RL D A) (hNc : rNc s) (hl9 : l.stackTraces = false) (hX : va_X b L xs s s.heap) (hbl : b < s.heap.size) (hbA : ¬ A b) (hL : L ≤ 3072) (hi : i + 6 ≤ L) (hk : k + 600 ≤ 601024) (hn : n + 8000 ≤ 7293034) (hLS : lsA D M x mo o) (KK : ∀ M' : rMem, lsA D M' x mo o → rG p l e room_1 s m args below meth c D A 9 Q M' (k + 600) (n + 8000) [some (.ref b), some (.ref x), some (.ref mo), some (.ref o), some (.int (nI i)), none, none, none, none] 1184 []) : rG p l e room_1 s m args below meth c D A 9 Q M k n [some (.ref b), some (.ref x), some (.ref mo), some (.ref o), some (.int (nI i)), none, none, none, none] 788 [] := by
  obtain ⟨MC, MR, v0, P, nW, nL, u, ad, Fn, t, lo, rfl, ho, hd, hc, hm⟩ := hLS
  refine rg_aload_n F (pc := 788) dL_law_788 rfl ?_
  refine rg_aload_n F (pc := 789) dL_law_789 rfl ?_
  refine rg_iload F (pc := 790) dL_law_790 rfl ?_
  refine rg_iconst F (pc := 792) (v := nI 1) dL_law_792 (by decide) ?_
  refine rg_iadd F (pc := 793) (v := nI (i + 1)) dL_law_793 (nI_add _ _) ?_
  refine rg_sld F hX hbl hbA hL (pc := 794) (j := i + 1) (by omega) dL_law_794 ?_
  refine rg_aload_n F (pc := 795) dL_law_795 rfl ?_
  refine rg_iload F (pc := 796) dL_law_796 rfl ?_
  refine rg_iconst F (pc := 798) (v := nI 2) dL_law_798 (by decide) ?_
  refine rg_iadd F (pc := 799) (v := nI (i + 2)) dL_law_799 (nI_add _ _) ?_
  refine rg_sld F hX hbl hbA hL (pc := 800) (j := i + 2) (by omega) dL_law_800 ?_
  refine rg_aload_n F (pc := 801) dL_law_801 rfl ?_
  obtain ⟨kk, val, P2, nW2, nL2, lev, mc, ms, lev2, mc2, ms2, hk3, ⟨hl1, hl2, hl3⟩, ⟨hl4, hl5, hl6⟩, hH, hR⟩ := op_rhyme l D x o mo ((xs (i + 1))) ((xs (i + 2))) MC MR v0 P nW nL u ad Fn t lo hl9 hc ho hm
  refine rg_fH F hNc (pc := 802) (M := mjoin MC (mone o (oV D v0))) (N := MR) (As := [.ref (x), .int ((xs (i + 1))), .int ((xs (i + 2))), .ref (o)]) (rest := []) hH q632 hq_rhyme rfl rfl (Nat.le_of_ble_eq_true rfl) (by show lev + 1 ≤ 12; omega) (by show 8 + (5 + 11) + 32 * lev ≤ 462; omega) ⟨by show _ ≤ 601024; omega, by show _ ≤ 7293034; omega⟩ hd dL_law_802 (fun r1 M1 hp hdis => ?_)
  obtain ⟨hr1, u1, v1, hM1, ho1, hc1, hv1⟩ := hp
  refine rg_top (v2 := .int (nI kk)) (by rw [hr1]) ?_
  subst hM1
  refine rg_istore F (pc := 805) (lv' := [some (.ref (b)), some (.ref (x)), some (.ref (mo)), some (.ref (o)), some (.int (nI i)), some (.int (nI kk)), none, none, none]) dL_law_805 (Nat.le_of_ble_eq_true rfl) rfl ?_
  refine rg_aload_n F (pc := 807) dL_law_807 rfl ?_
  refine rg_aload_n F (pc := 808) dL_law_808 rfl ?_
  refine rg_iload F (pc := 809) dL_law_809 rfl ?_
  refine rg_iconst F (pc := 811) (v := nI 1) dL_law_811 (by decide) ?_
  refine rg_iadd F (pc := 812) (v := nI (i + 1)) dL_law_812 (nI_add _ _) ?_
  refine rg_sld F hX hbl hbA hL (pc := 813) (j := i + 1) (by omega) dL_law_813 ?_
  refine rg_aload_n F (pc := 814) dL_law_814 rfl ?_
  refine rg_iload F (pc := 815) dL_law_815 rfl ?_
  refine rg_iconst F (pc := 817) (v := nI 2) dL_law_817 (by decide) ?_
  refine rg_iadd F (pc := 818) (v := nI (i + 2)) dL_law_818 (nI_add _ _) ?_
  refine rg_sld F hX hbl hbA hL (pc := 819) (j := i + 2) (by omega) dL_law_819 ?_
  refine rg_mem (mj_comm hdis) ?_
  refine rg_fVi F (pc := 820) (M := MR) (N := mjoin u1 (mone o (oV D v1))) (As := [.int ((xs (i + 1))), .int ((xs (i + 2)))]) (rest := []) (ci := 5) hR q634 vq_X4_rhyme rfl hm.2.1.1 rfl rfl (Nat.le_of_ble_eq_true rfl) (by show lev2 + 1 ≤ 12; omega) (by show 8 + (3 + 11) + 32 * lev2 ≤ 462; omega) ⟨by show _ ≤ 601024; omega, by show _ ≤ 7293034; omega⟩ hdis.sym dL_law_820 (fun r2 M2 hq2 hdis2 => ?_)
  obtain ⟨⟨ad2, F2, lo2, hm2⟩, hrv⟩ := hq2
  refine rg_istore F (pc := 823) (lv' := [some (.ref (b)), some (.ref (x)), some (.ref (mo)), some (.ref (o)), some (.int (nI i)), some (.int (nI kk)), some (.int (r2)), none, none]) dL_law_823 (Nat.le_of_ble_eq_true rfl) rfl ?_
  refine rg_aload_n F (pc := 825) dL_law_825 rfl ?_
  refine rg_fVi F (pc := 826) (M := M2) (N := mjoin u1 (mone o (oV D v1))) (As := []) (rest := []) (ci := 5) (r_thrown l D M2 mo P2 nW2 nL2 ad2 F2 (nI kk) lo2 hm2) q589 vq_X4_thrown rfl hm2.2.1.1 rfl rfl (Nat.le_of_ble_eq_true rfl) (Nat.le_of_ble_eq_true rfl) (Nat.le_of_ble_eq_true rfl) ⟨by show _ ≤ 601024; omega, by show _ ≤ 7293034; omega⟩ hdis2 dL_law_826 (fun r3 M3 hq3 hdis3 => ?_)
  refine rg_top (v2 := .int (nI kk)) (by rw [hq3.1]) ?_
  refine rg_iload F (pc := 829) dL_law_829 rfl ?_
  refine rg_ncmp_eq F (pc := 831) (tgt := 836) dL_law_831 (by decide) (by omega) (by omega) (fun c831 => ?_) (fun c831 => by exfalso; omega)
  refine rg_iload F (pc := 836) dL_law_836 rfl ?_
  refine rg_nif_ne F (pc := 838) (tgt := 853) dL_law_838 (by decide) (by omega) (fun c838 => ?_) (fun c838 => ?_)
  · refine rg_goto F (pc := 853) (tgt := 1184) dL_law_853 (by decide) ?_
    refine rg_mem (mj_comm hdis3) ?_
    rw [hq3.2] at hdis3 ⊢
    obtain ⟨u2, hc2⟩ := hc1
    refine rg_sub (lv' := [some (.ref b), some (.ref x), some (.ref mo), some (.ref o), some (.int (nI i)), none, none, none, none]) (by repeat' constructor) ?_
    refine rg_widen (k2 := k + 600) (n2 := n + 8000) (by omega) (by omega) ?_
    exact KK _ ⟨u1, M2, v1, P2, nW2, nL2, u2, ad2, F2, nI kk, lo2, rfl, ho1, hdis3.sym, hc2, hm2⟩
  · refine rg_aload_n F (pc := 841) dL_law_841 rfl ?_
    refine rg_iconst F (pc := 842) (v := nI 0) dL_law_842 (by decide) ?_
    refine rg_lald F (pc := 843) (x := val.toInt64) (mj_in hdis3 (mj_in (mone_dis ho1) mone_eq)) (by decide) (by decide) (hv1 c838) dL_law_843 ?_
    refine rg_iload F (pc := 844) dL_law_844 rfl ?_
    refine rg_i2l F (pc := 846) (v := (r2).toInt64) dL_law_846 rfl ?_
    refine rg_lcmp F (pc := 847) (v := nI 0) dL_law_847 (by rw [hrv c838]; exact lc_self _) ?_
    refine rg_nif_eq F (pc := 848) (tgt := 853) dL_law_848 (by decide) (by omega) (fun c848 => ?_) (fun c848 => by exfalso; omega)
    refine rg_goto F (pc := 853) (tgt := 1184) dL_law_853 (by decide) ?_
    refine rg_mem (mj_comm hdis3) ?_
    rw [hq3.2] at hdis3 ⊢
    obtain ⟨u2, hc2⟩ := hc1
    refine rg_sub (lv' := [some (.ref b), some (.ref x), some (.ref mo), some (.ref o), some (.int (nI i)), none, none, none, none]) (by repeat' constructor) ?_
    refine rg_widen (k2 := k + 600) (n2 := n + 8000) (by omega) (by omega) ?_
    exact KK _ ⟨u1, M2, v1, P2, nW2, nL2, u2, ad2, F2, nI kk, lo2, rfl, ho1, hdis3.sym, hc2, hm2⟩
set_option maxHeartbeats 4000000 in
set_option maxRecDepth 100000 in
theorem L_scans (F : rF p l e room_1 s m args below meth c cL_law 9 RL D A) (hNc : rNc s) (hl9 : l.stackTraces = false) (hX : va_X b L xs s s.heap) (hbl : b < s.heap.size) (hbA : ¬ A b) (hL : L ≤ 3072) (hi : i + 6 ≤ L) (hk : k + 600 ≤ 601024) (hn : n + 8000 ≤ 7293034) (hLS : lsA D M x mo o) (KK : ∀ M' : rMem, lsA D M' x mo o → rG p l e room_1 s m args below meth c D A 9 Q M' (k + 600) (n + 8000) [some (.ref b), some (.ref x), some (.ref mo), some (.ref o), some (.int (nI i)), none, none, none, none] 1184 []) : rG p l e room_1 s m args below meth c D A 9 Q M k n [some (.ref b), some (.ref x), some (.ref mo), some (.ref o), some (.int (nI i)), none, none, none, none] 856 [] := by
  obtain ⟨MC, MR, v0, P, nW, nL, u, ad, Fn, t, lo, rfl, ho, hd, hc, hm⟩ := hLS
  refine rg_aload_n F (pc := 856) dL_law_856 rfl ?_
  refine rg_aload_n F (pc := 857) dL_law_857 rfl ?_
  refine rg_iload F (pc := 858) dL_law_858 rfl ?_
  refine rg_iconst F (pc := 860) (v := nI 1) dL_law_860 (by decide) ?_
  refine rg_iadd F (pc := 861) (v := nI (i + 1)) dL_law_861 (nI_add _ _) ?_
  refine rg_sld F hX hbl hbA hL (pc := 862) (j := i + 1) (by omega) dL_law_862 ?_
  refine rg_aload_n F (pc := 863) dL_law_863 rfl ?_
  obtain ⟨kk, val, P2, nW2, nL2, lev, mc, ms, lev2, mc2, ms2, hk3, ⟨hl1, hl2, hl3⟩, ⟨hl4, hl5, hl6⟩, hH, hR⟩ := op_scans l D x o mo ((xs (i + 1))) MC MR v0 P nW nL u ad Fn t lo hl9 hc ho hm
  refine rg_fH F hNc (pc := 864) (M := mjoin MC (mone o (oV D v0))) (N := MR) (As := [.ref (x), .int ((xs (i + 1))), .ref (o)]) (rest := []) hH q637 hq_scans rfl rfl (Nat.le_of_ble_eq_true rfl) (by show lev + 1 ≤ 12; omega) (by show 8 + (4 + 11) + 32 * lev ≤ 462; omega) ⟨by show _ ≤ 601024; omega, by show _ ≤ 7293034; omega⟩ hd dL_law_864 (fun r1 M1 hp hdis => ?_)
  obtain ⟨hr1, u1, v1, hM1, ho1, hc1, hv1⟩ := hp
  refine rg_top (v2 := .int (nI kk)) (by rw [hr1]) ?_
  subst hM1
  refine rg_istore F (pc := 867) (lv' := [some (.ref (b)), some (.ref (x)), some (.ref (mo)), some (.ref (o)), some (.int (nI i)), some (.int (nI kk)), none, none, none]) dL_law_867 (Nat.le_of_ble_eq_true rfl) rfl ?_
  refine rg_aload_n F (pc := 869) dL_law_869 rfl ?_
  refine rg_aload_n F (pc := 870) dL_law_870 rfl ?_
  refine rg_iload F (pc := 871) dL_law_871 rfl ?_
  refine rg_iconst F (pc := 873) (v := nI 1) dL_law_873 (by decide) ?_
  refine rg_iadd F (pc := 874) (v := nI (i + 1)) dL_law_874 (nI_add _ _) ?_
  refine rg_sld F hX hbl hbA hL (pc := 875) (j := i + 1) (by omega) dL_law_875 ?_
  refine rg_mem (mj_comm hdis) ?_
  refine rg_fVi F (pc := 876) (M := MR) (N := mjoin u1 (mone o (oV D v1))) (As := [.int ((xs (i + 1)))]) (rest := []) (ci := 5) hR q639 vq_X4_scans rfl hm.2.1.1 rfl rfl (Nat.le_of_ble_eq_true rfl) (by show lev2 + 1 ≤ 12; omega) (by show 8 + (6 + 11) + 32 * lev2 ≤ 462; omega) ⟨by show _ ≤ 601024; omega, by show _ ≤ 7293034; omega⟩ hdis.sym dL_law_876 (fun r2 M2 hq2 hdis2 => ?_)
  obtain ⟨⟨ad2, F2, lo2, hm2⟩, hrv⟩ := hq2
  refine rg_istore F (pc := 879) (lv' := [some (.ref (b)), some (.ref (x)), some (.ref (mo)), some (.ref (o)), some (.int (nI i)), some (.int (nI kk)), some (.int (r2)), none, none]) dL_law_879 (Nat.le_of_ble_eq_true rfl) rfl ?_
  refine rg_aload_n F (pc := 881) dL_law_881 rfl ?_
  refine rg_fVi F (pc := 882) (M := M2) (N := mjoin u1 (mone o (oV D v1))) (As := []) (rest := []) (ci := 5) (r_thrown l D M2 mo P2 nW2 nL2 ad2 F2 (nI kk) lo2 hm2) q589 vq_X4_thrown rfl hm2.2.1.1 rfl rfl (Nat.le_of_ble_eq_true rfl) (Nat.le_of_ble_eq_true rfl) (Nat.le_of_ble_eq_true rfl) ⟨by show _ ≤ 601024; omega, by show _ ≤ 7293034; omega⟩ hdis2 dL_law_882 (fun r3 M3 hq3 hdis3 => ?_)
  refine rg_top (v2 := .int (nI kk)) (by rw [hq3.1]) ?_
  refine rg_iload F (pc := 885) dL_law_885 rfl ?_
  refine rg_ncmp_eq F (pc := 887) (tgt := 892) dL_law_887 (by decide) (by omega) (by omega) (fun c887 => ?_) (fun c887 => by exfalso; omega)
  refine rg_iload F (pc := 892) dL_law_892 rfl ?_
  refine rg_nif_ne F (pc := 894) (tgt := 909) dL_law_894 (by decide) (by omega) (fun c894 => ?_) (fun c894 => ?_)
  · refine rg_goto F (pc := 909) (tgt := 1184) dL_law_909 (by decide) ?_
    refine rg_mem (mj_comm hdis3) ?_
    rw [hq3.2] at hdis3 ⊢
    obtain ⟨u2, hc2⟩ := hc1
    refine rg_sub (lv' := [some (.ref b), some (.ref x), some (.ref mo), some (.ref o), some (.int (nI i)), none, none, none, none]) (by repeat' constructor) ?_
    refine rg_widen (k2 := k + 600) (n2 := n + 8000) (by omega) (by omega) ?_
    exact KK _ ⟨u1, M2, v1, P2, nW2, nL2, u2, ad2, F2, nI kk, lo2, rfl, ho1, hdis3.sym, hc2, hm2⟩
  · refine rg_aload_n F (pc := 897) dL_law_897 rfl ?_
    refine rg_iconst F (pc := 898) (v := nI 0) dL_law_898 (by decide) ?_
    refine rg_lald F (pc := 899) (x := val.toInt64) (mj_in hdis3 (mj_in (mone_dis ho1) mone_eq)) (by decide) (by decide) (hv1 c894) dL_law_899 ?_
    refine rg_iload F (pc := 900) dL_law_900 rfl ?_
    refine rg_i2l F (pc := 902) (v := (r2).toInt64) dL_law_902 rfl ?_
    refine rg_lcmp F (pc := 903) (v := nI 0) dL_law_903 (by rw [hrv c894]; exact lc_self _) ?_
    refine rg_nif_eq F (pc := 904) (tgt := 909) dL_law_904 (by decide) (by omega) (fun c904 => ?_) (fun c904 => by exfalso; omega)
    refine rg_goto F (pc := 909) (tgt := 1184) dL_law_909 (by decide) ?_
    refine rg_mem (mj_comm hdis3) ?_
    rw [hq3.2] at hdis3 ⊢
    obtain ⟨u2, hc2⟩ := hc1
    refine rg_sub (lv' := [some (.ref b), some (.ref x), some (.ref mo), some (.ref o), some (.int (nI i)), none, none, none, none]) (by repeat' constructor) ?_
    refine rg_widen (k2 := k + 600) (n2 := n + 8000) (by omega) (by omega) ?_
    exact KK _ ⟨u1, M2, v1, P2, nW2, nL2, u2, ad2, F2, nI kk, lo2, rfl, ho1, hdis3.sym, hc2, hm2⟩
set_option maxHeartbeats 4000000 in
set_option maxRecDepth 100000 in
theorem L_count (F : rF p l e room_1 s m args below meth c cL_law 9 RL D A) (hNc : rNc s) (hl9 : l.stackTraces = false) (hX : va_X b L xs s s.heap) (hbl : b < s.heap.size) (hbA : ¬ A b) (hL : L ≤ 3072) (hi : i + 6 ≤ L) (hk : k + 600 ≤ 601024) (hn : n + 8000 ≤ 7293034) (hLS : lsA D M x mo o) (KK : ∀ M' : rMem, lsA D M' x mo o → rG p l e room_1 s m args below meth c D A 9 Q M' (k + 600) (n + 8000) [some (.ref b), some (.ref x), some (.ref mo), some (.ref o), some (.int (nI i)), none, none, none, none] 1184 []) : rG p l e room_1 s m args below meth c D A 9 Q M k n [some (.ref b), some (.ref x), some (.ref mo), some (.ref o), some (.int (nI i)), none, none, none, none] 912 [] := by
  obtain ⟨MC, MR, v0, P, nW, nL, u, ad, Fn, t, lo, rfl, ho, hd, hc, hm⟩ := hLS
  refine rg_aload_n F (pc := 912) dL_law_912 rfl ?_
  refine rg_aload_n F (pc := 913) dL_law_913 rfl ?_
  refine rg_iload F (pc := 914) dL_law_914 rfl ?_
  refine rg_iconst F (pc := 916) (v := nI 1) dL_law_916 (by decide) ?_
  refine rg_iadd F (pc := 917) (v := nI (i + 1)) dL_law_917 (nI_add _ _) ?_
  refine rg_sld F hX hbl hbA hL (pc := 918) (j := i + 1) (by omega) dL_law_918 ?_
  refine rg_aload_n F (pc := 919) dL_law_919 rfl ?_
  obtain ⟨kk, val, P2, nW2, nL2, lev, mc, ms, lev2, mc2, ms2, hk3, ⟨hl1, hl2, hl3⟩, ⟨hl4, hl5, hl6⟩, hH, hR⟩ := op_count l D x o mo ((xs (i + 1))) MC MR v0 P nW nL u ad Fn t lo hl9 hc ho hm
  refine rg_fH F hNc (pc := 920) (M := mjoin MC (mone o (oV D v0))) (N := MR) (As := [.ref (x), .int ((xs (i + 1))), .ref (o)]) (rest := []) hH q642 hq_count rfl rfl (Nat.le_of_ble_eq_true rfl) (by show lev + 1 ≤ 12; omega) (by show 8 + (4 + 11) + 32 * lev ≤ 462; omega) ⟨by show _ ≤ 601024; omega, by show _ ≤ 7293034; omega⟩ hd dL_law_920 (fun r1 M1 hp hdis => ?_)
  obtain ⟨hr1, u1, v1, hM1, ho1, hc1, hv1⟩ := hp
  refine rg_top (v2 := .int (nI kk)) (by rw [hr1]) ?_
  subst hM1
  refine rg_istore F (pc := 923) (lv' := [some (.ref (b)), some (.ref (x)), some (.ref (mo)), some (.ref (o)), some (.int (nI i)), some (.int (nI kk)), none, none, none]) dL_law_923 (Nat.le_of_ble_eq_true rfl) rfl ?_
  refine rg_aload_n F (pc := 925) dL_law_925 rfl ?_
  refine rg_aload_n F (pc := 926) dL_law_926 rfl ?_
  refine rg_iload F (pc := 927) dL_law_927 rfl ?_
  refine rg_iconst F (pc := 929) (v := nI 1) dL_law_929 (by decide) ?_
  refine rg_iadd F (pc := 930) (v := nI (i + 1)) dL_law_930 (nI_add _ _) ?_
  refine rg_sld F hX hbl hbA hL (pc := 931) (j := i + 1) (by omega) dL_law_931 ?_
  refine rg_mem (mj_comm hdis) ?_
  refine rg_fVi F (pc := 932) (M := MR) (N := mjoin u1 (mone o (oV D v1))) (As := [.int ((xs (i + 1)))]) (rest := []) (ci := 5) hR q644 vq_X4_count rfl hm.2.1.1 rfl rfl (Nat.le_of_ble_eq_true rfl) (by show lev2 + 1 ≤ 12; omega) (by show 8 + (2 + 11) + 32 * lev2 ≤ 462; omega) ⟨by show _ ≤ 601024; omega, by show _ ≤ 7293034; omega⟩ hdis.sym dL_law_932 (fun r2 M2 hq2 hdis2 => ?_)
  obtain ⟨⟨ad2, F2, lo2, hm2⟩, hrv⟩ := hq2
  refine rg_istore F (pc := 935) (lv' := [some (.ref (b)), some (.ref (x)), some (.ref (mo)), some (.ref (o)), some (.int (nI i)), some (.int (nI kk)), some (.int (r2)), none, none]) dL_law_935 (Nat.le_of_ble_eq_true rfl) rfl ?_
  refine rg_aload_n F (pc := 937) dL_law_937 rfl ?_
  refine rg_fVi F (pc := 938) (M := M2) (N := mjoin u1 (mone o (oV D v1))) (As := []) (rest := []) (ci := 5) (r_thrown l D M2 mo P2 nW2 nL2 ad2 F2 (nI kk) lo2 hm2) q589 vq_X4_thrown rfl hm2.2.1.1 rfl rfl (Nat.le_of_ble_eq_true rfl) (Nat.le_of_ble_eq_true rfl) (Nat.le_of_ble_eq_true rfl) ⟨by show _ ≤ 601024; omega, by show _ ≤ 7293034; omega⟩ hdis2 dL_law_938 (fun r3 M3 hq3 hdis3 => ?_)
  refine rg_top (v2 := .int (nI kk)) (by rw [hq3.1]) ?_
  refine rg_iload F (pc := 941) dL_law_941 rfl ?_
  refine rg_ncmp_eq F (pc := 943) (tgt := 948) dL_law_943 (by decide) (by omega) (by omega) (fun c943 => ?_) (fun c943 => by exfalso; omega)
  refine rg_iload F (pc := 948) dL_law_948 rfl ?_
  refine rg_nif_ne F (pc := 950) (tgt := 965) dL_law_950 (by decide) (by omega) (fun c950 => ?_) (fun c950 => ?_)
  · refine rg_goto F (pc := 965) (tgt := 1184) dL_law_965 (by decide) ?_
    refine rg_mem (mj_comm hdis3) ?_
    rw [hq3.2] at hdis3 ⊢
    obtain ⟨u2, hc2⟩ := hc1
    refine rg_sub (lv' := [some (.ref b), some (.ref x), some (.ref mo), some (.ref o), some (.int (nI i)), none, none, none, none]) (by repeat' constructor) ?_
    refine rg_widen (k2 := k + 600) (n2 := n + 8000) (by omega) (by omega) ?_
    exact KK _ ⟨u1, M2, v1, P2, nW2, nL2, u2, ad2, F2, nI kk, lo2, rfl, ho1, hdis3.sym, hc2, hm2⟩
  · refine rg_aload_n F (pc := 953) dL_law_953 rfl ?_
    refine rg_iconst F (pc := 954) (v := nI 0) dL_law_954 (by decide) ?_
    refine rg_lald F (pc := 955) (x := val.toInt64) (mj_in hdis3 (mj_in (mone_dis ho1) mone_eq)) (by decide) (by decide) (hv1 c950) dL_law_955 ?_
    refine rg_iload F (pc := 956) dL_law_956 rfl ?_
    refine rg_i2l F (pc := 958) (v := (r2).toInt64) dL_law_958 rfl ?_
    refine rg_lcmp F (pc := 959) (v := nI 0) dL_law_959 (by rw [hrv c950]; exact lc_self _) ?_
    refine rg_nif_eq F (pc := 960) (tgt := 965) dL_law_960 (by decide) (by omega) (fun c960 => ?_) (fun c960 => by exfalso; omega)
    refine rg_goto F (pc := 965) (tgt := 1184) dL_law_965 (by decide) ?_
    refine rg_mem (mj_comm hdis3) ?_
    rw [hq3.2] at hdis3 ⊢
    obtain ⟨u2, hc2⟩ := hc1
    refine rg_sub (lv' := [some (.ref b), some (.ref x), some (.ref mo), some (.ref o), some (.int (nI i)), none, none, none, none]) (by repeat' constructor) ?_
    refine rg_widen (k2 := k + 600) (n2 := n + 8000) (by omega) (by omega) ?_
    exact KK _ ⟨u1, M2, v1, P2, nW2, nL2, u2, ad2, F2, nI kk, lo2, rfl, ho1, hdis3.sym, hc2, hm2⟩
set_option maxHeartbeats 4000000 in
set_option maxRecDepth 100000 in
theorem L_tries (F : rF p l e room_1 s m args below meth c cL_law 9 RL D A) (hNc : rNc s) (hl9 : l.stackTraces = false) (hX : va_X b L xs s s.heap) (hbl : b < s.heap.size) (hbA : ¬ A b) (hL : L ≤ 3072) (hi : i + 6 ≤ L) (hk : k + 600 ≤ 601024) (hn : n + 8000 ≤ 7293034) (hLS : lsA D M x mo o) (KK : ∀ M' : rMem, lsA D M' x mo o → rG p l e room_1 s m args below meth c D A 9 Q M' (k + 600) (n + 8000) [some (.ref b), some (.ref x), some (.ref mo), some (.ref o), some (.int (nI i)), none, none, none, none] 1184 []) : rG p l e room_1 s m args below meth c D A 9 Q M k n [some (.ref b), some (.ref x), some (.ref mo), some (.ref o), some (.int (nI i)), none, none, none, none] 968 [] := by
  obtain ⟨MC, MR, v0, P, nW, nL, u, ad, Fn, t, lo, rfl, ho, hd, hc, hm⟩ := hLS
  refine rg_aload_n F (pc := 968) dL_law_968 rfl ?_
  refine rg_aload_n F (pc := 969) dL_law_969 rfl ?_
  refine rg_iload F (pc := 970) dL_law_970 rfl ?_
  refine rg_iconst F (pc := 972) (v := nI 1) dL_law_972 (by decide) ?_
  refine rg_iadd F (pc := 973) (v := nI (i + 1)) dL_law_973 (nI_add _ _) ?_
  refine rg_sld F hX hbl hbA hL (pc := 974) (j := i + 1) (by omega) dL_law_974 ?_
  refine rg_aload_n F (pc := 975) dL_law_975 rfl ?_
  refine rg_iload F (pc := 976) dL_law_976 rfl ?_
  refine rg_iconst F (pc := 978) (v := nI 2) dL_law_978 (by decide) ?_
  refine rg_iadd F (pc := 979) (v := nI (i + 2)) dL_law_979 (nI_add _ _) ?_
  refine rg_sld F hX hbl hbA hL (pc := 980) (j := i + 2) (by omega) dL_law_980 ?_
  refine rg_aload_n F (pc := 981) dL_law_981 rfl ?_
  refine rg_iload F (pc := 982) dL_law_982 rfl ?_
  refine rg_iconst F (pc := 984) (v := nI 3) dL_law_984 (by decide) ?_
  refine rg_iadd F (pc := 985) (v := nI (i + 3)) dL_law_985 (nI_add _ _) ?_
  refine rg_sld F hX hbl hbA hL (pc := 986) (j := i + 3) (by omega) dL_law_986 ?_
  refine rg_aload_n F (pc := 987) dL_law_987 rfl ?_
  obtain ⟨kk, val, P2, nW2, nL2, lev, mc, ms, lev2, mc2, ms2, hk3, ⟨hl1, hl2, hl3⟩, ⟨hl4, hl5, hl6⟩, hH, hR⟩ := op_tries l D x o mo ((xs (i + 1))) ((xs (i + 2))) ((xs (i + 3))) MC MR v0 P nW nL u ad Fn t lo hl9 hc ho hm
  refine rg_fH F hNc (pc := 988) (M := mjoin MC (mone o (oV D v0))) (N := MR) (As := [.ref (x), .int ((xs (i + 1))), .int ((xs (i + 2))), .int ((xs (i + 3))), .ref (o)]) (rest := []) hH q647 hq_tries rfl rfl (Nat.le_of_ble_eq_true rfl) (by show lev + 1 ≤ 12; omega) (by show 8 + (6 + 11) + 32 * lev ≤ 462; omega) ⟨by show _ ≤ 601024; omega, by show _ ≤ 7293034; omega⟩ hd dL_law_988 (fun r1 M1 hp hdis => ?_)
  obtain ⟨hr1, u1, v1, hM1, ho1, hc1, hv1⟩ := hp
  refine rg_top (v2 := .int (nI kk)) (by rw [hr1]) ?_
  subst hM1
  refine rg_istore F (pc := 991) (lv' := [some (.ref (b)), some (.ref (x)), some (.ref (mo)), some (.ref (o)), some (.int (nI i)), some (.int (nI kk)), none, none, none]) dL_law_991 (Nat.le_of_ble_eq_true rfl) rfl ?_
  refine rg_aload_n F (pc := 993) dL_law_993 rfl ?_
  refine rg_aload_n F (pc := 994) dL_law_994 rfl ?_
  refine rg_iload F (pc := 995) dL_law_995 rfl ?_
  refine rg_iconst F (pc := 997) (v := nI 1) dL_law_997 (by decide) ?_
  refine rg_iadd F (pc := 998) (v := nI (i + 1)) dL_law_998 (nI_add _ _) ?_
  refine rg_sld F hX hbl hbA hL (pc := 999) (j := i + 1) (by omega) dL_law_999 ?_
  refine rg_aload_n F (pc := 1000) dL_law_1000 rfl ?_
  refine rg_iload F (pc := 1001) dL_law_1001 rfl ?_
  refine rg_iconst F (pc := 1003) (v := nI 2) dL_law_1003 (by decide) ?_
  refine rg_iadd F (pc := 1004) (v := nI (i + 2)) dL_law_1004 (nI_add _ _) ?_
  refine rg_sld F hX hbl hbA hL (pc := 1005) (j := i + 2) (by omega) dL_law_1005 ?_
  refine rg_aload_n F (pc := 1006) dL_law_1006 rfl ?_
  refine rg_iload F (pc := 1007) dL_law_1007 rfl ?_
  refine rg_iconst F (pc := 1009) (v := nI 3) dL_law_1009 (by decide) ?_
  refine rg_iadd F (pc := 1010) (v := nI (i + 3)) dL_law_1010 (nI_add _ _) ?_
  refine rg_sld F hX hbl hbA hL (pc := 1011) (j := i + 3) (by omega) dL_law_1011 ?_
  refine rg_mem (mj_comm hdis) ?_
  refine rg_fVi F (pc := 1012) (M := MR) (N := mjoin u1 (mone o (oV D v1))) (As := [.int ((xs (i + 1))), .int ((xs (i + 2))), .int ((xs (i + 3)))]) (rest := []) (ci := 5) hR q649 vq_X4_tries rfl hm.2.1.1 rfl rfl (Nat.le_of_ble_eq_true rfl) (by show lev2 + 1 ≤ 12; omega) (by show 8 + (4 + 11) + 32 * lev2 ≤ 462; omega) ⟨by show _ ≤ 601024; omega, by show _ ≤ 7293034; omega⟩ hdis.sym dL_law_1012 (fun r2 M2 hq2 hdis2 => ?_)
  obtain ⟨⟨ad2, F2, lo2, hm2⟩, hrv⟩ := hq2
  refine rg_istore F (pc := 1015) (lv' := [some (.ref (b)), some (.ref (x)), some (.ref (mo)), some (.ref (o)), some (.int (nI i)), some (.int (nI kk)), some (.int (r2)), none, none]) dL_law_1015 (Nat.le_of_ble_eq_true rfl) rfl ?_
  refine rg_aload_n F (pc := 1017) dL_law_1017 rfl ?_
  refine rg_fVi F (pc := 1018) (M := M2) (N := mjoin u1 (mone o (oV D v1))) (As := []) (rest := []) (ci := 5) (r_thrown l D M2 mo P2 nW2 nL2 ad2 F2 (nI kk) lo2 hm2) q589 vq_X4_thrown rfl hm2.2.1.1 rfl rfl (Nat.le_of_ble_eq_true rfl) (Nat.le_of_ble_eq_true rfl) (Nat.le_of_ble_eq_true rfl) ⟨by show _ ≤ 601024; omega, by show _ ≤ 7293034; omega⟩ hdis2 dL_law_1018 (fun r3 M3 hq3 hdis3 => ?_)
  refine rg_top (v2 := .int (nI kk)) (by rw [hq3.1]) ?_
  refine rg_iload F (pc := 1021) dL_law_1021 rfl ?_
  refine rg_ncmp_eq F (pc := 1023) (tgt := 1028) dL_law_1023 (by decide) (by omega) (by omega) (fun c1023 => ?_) (fun c1023 => by exfalso; omega)
  refine rg_iload F (pc := 1028) dL_law_1028 rfl ?_
  refine rg_nif_ne F (pc := 1030) (tgt := 1045) dL_law_1030 (by decide) (by omega) (fun c1030 => ?_) (fun c1030 => ?_)
  · refine rg_goto F (pc := 1045) (tgt := 1184) dL_law_1045 (by decide) ?_
    refine rg_mem (mj_comm hdis3) ?_
    rw [hq3.2] at hdis3 ⊢
    obtain ⟨u2, hc2⟩ := hc1
    refine rg_sub (lv' := [some (.ref b), some (.ref x), some (.ref mo), some (.ref o), some (.int (nI i)), none, none, none, none]) (by repeat' constructor) ?_
    refine rg_widen (k2 := k + 600) (n2 := n + 8000) (by omega) (by omega) ?_
    exact KK _ ⟨u1, M2, v1, P2, nW2, nL2, u2, ad2, F2, nI kk, lo2, rfl, ho1, hdis3.sym, hc2, hm2⟩
  · refine rg_aload_n F (pc := 1033) dL_law_1033 rfl ?_
    refine rg_iconst F (pc := 1034) (v := nI 0) dL_law_1034 (by decide) ?_
    refine rg_lald F (pc := 1035) (x := val.toInt64) (mj_in hdis3 (mj_in (mone_dis ho1) mone_eq)) (by decide) (by decide) (hv1 c1030) dL_law_1035 ?_
    refine rg_iload F (pc := 1036) dL_law_1036 rfl ?_
    refine rg_i2l F (pc := 1038) (v := (r2).toInt64) dL_law_1038 rfl ?_
    refine rg_lcmp F (pc := 1039) (v := nI 0) dL_law_1039 (by rw [hrv c1030]; exact lc_self _) ?_
    refine rg_nif_eq F (pc := 1040) (tgt := 1045) dL_law_1040 (by decide) (by omega) (fun c1040 => ?_) (fun c1040 => by exfalso; omega)
    refine rg_goto F (pc := 1045) (tgt := 1184) dL_law_1045 (by decide) ?_
    refine rg_mem (mj_comm hdis3) ?_
    rw [hq3.2] at hdis3 ⊢
    obtain ⟨u2, hc2⟩ := hc1
    refine rg_sub (lv' := [some (.ref b), some (.ref x), some (.ref mo), some (.ref o), some (.int (nI i)), none, none, none, none]) (by repeat' constructor) ?_
    refine rg_widen (k2 := k + 600) (n2 := n + 8000) (by omega) (by omega) ?_
    exact KK _ ⟨u1, M2, v1, P2, nW2, nL2, u2, ad2, F2, nI kk, lo2, rfl, ho1, hdis3.sym, hc2, hm2⟩
set_option maxHeartbeats 4000000 in
set_option maxRecDepth 100000 in
theorem L_best (F : rF p l e room_1 s m args below meth c cL_law 9 RL D A) (hNc : rNc s) (hl9 : l.stackTraces = false) (hX : va_X b L xs s s.heap) (hbl : b < s.heap.size) (hbA : ¬ A b) (hL : L ≤ 3072) (hi : i + 6 ≤ L) (hk : k + 600 ≤ 601024) (hn : n + 8000 ≤ 7293034) (hLS : lsA D M x mo o) (KK : ∀ M' : rMem, lsA D M' x mo o → rG p l e room_1 s m args below meth c D A 9 Q M' (k + 600) (n + 8000) [some (.ref b), some (.ref x), some (.ref mo), some (.ref o), some (.int (nI i)), none, none, none, none] 1184 []) : rG p l e room_1 s m args below meth c D A 9 Q M k n [some (.ref b), some (.ref x), some (.ref mo), some (.ref o), some (.int (nI i)), none, none, none, none] 1048 [] := by
  obtain ⟨MC, MR, v0, P, nW, nL, u, ad, Fn, t, lo, rfl, ho, hd, hc, hm⟩ := hLS
  refine rg_aload_n F (pc := 1048) dL_law_1048 rfl ?_
  refine rg_aload_n F (pc := 1049) dL_law_1049 rfl ?_
  refine rg_iload F (pc := 1050) dL_law_1050 rfl ?_
  refine rg_iconst F (pc := 1052) (v := nI 1) dL_law_1052 (by decide) ?_
  refine rg_iadd F (pc := 1053) (v := nI (i + 1)) dL_law_1053 (nI_add _ _) ?_
  refine rg_sld F hX hbl hbA hL (pc := 1054) (j := i + 1) (by omega) dL_law_1054 ?_
  refine rg_aload_n F (pc := 1055) dL_law_1055 rfl ?_
  refine rg_iload F (pc := 1056) dL_law_1056 rfl ?_
  refine rg_iconst F (pc := 1058) (v := nI 2) dL_law_1058 (by decide) ?_
  refine rg_iadd F (pc := 1059) (v := nI (i + 2)) dL_law_1059 (nI_add _ _) ?_
  refine rg_sld F hX hbl hbA hL (pc := 1060) (j := i + 2) (by omega) dL_law_1060 ?_
  refine rg_aload_n F (pc := 1061) dL_law_1061 rfl ?_
  obtain ⟨kk, val, P2, nW2, nL2, lev, mc, ms, lev2, mc2, ms2, hk3, ⟨hl1, hl2, hl3⟩, ⟨hl4, hl5, hl6⟩, hH, hR⟩ := op_best l D x o mo ((xs (i + 1))) ((xs (i + 2))) MC MR v0 P nW nL u ad Fn t lo hl9 hc ho hm
  refine rg_fH F hNc (pc := 1062) (M := mjoin MC (mone o (oV D v0))) (N := MR) (As := [.ref (x), .int ((xs (i + 1))), .int ((xs (i + 2))), .ref (o)]) (rest := []) hH q652 hq_best rfl rfl (Nat.le_of_ble_eq_true rfl) (by show lev + 1 ≤ 12; omega) (by show 8 + (5 + 11) + 32 * lev ≤ 462; omega) ⟨by show _ ≤ 601024; omega, by show _ ≤ 7293034; omega⟩ hd dL_law_1062 (fun r1 M1 hp hdis => ?_)
  obtain ⟨hr1, u1, v1, hM1, ho1, hc1, hv1⟩ := hp
  refine rg_top (v2 := .int (nI kk)) (by rw [hr1]) ?_
  subst hM1
  refine rg_istore F (pc := 1065) (lv' := [some (.ref (b)), some (.ref (x)), some (.ref (mo)), some (.ref (o)), some (.int (nI i)), some (.int (nI kk)), none, none, none]) dL_law_1065 (Nat.le_of_ble_eq_true rfl) rfl ?_
  refine rg_aload_n F (pc := 1067) dL_law_1067 rfl ?_
  refine rg_aload_n F (pc := 1068) dL_law_1068 rfl ?_
  refine rg_iload F (pc := 1069) dL_law_1069 rfl ?_
  refine rg_iconst F (pc := 1071) (v := nI 1) dL_law_1071 (by decide) ?_
  refine rg_iadd F (pc := 1072) (v := nI (i + 1)) dL_law_1072 (nI_add _ _) ?_
  refine rg_sld F hX hbl hbA hL (pc := 1073) (j := i + 1) (by omega) dL_law_1073 ?_
  refine rg_aload_n F (pc := 1074) dL_law_1074 rfl ?_
  refine rg_iload F (pc := 1075) dL_law_1075 rfl ?_
  refine rg_iconst F (pc := 1077) (v := nI 2) dL_law_1077 (by decide) ?_
  refine rg_iadd F (pc := 1078) (v := nI (i + 2)) dL_law_1078 (nI_add _ _) ?_
  refine rg_sld F hX hbl hbA hL (pc := 1079) (j := i + 2) (by omega) dL_law_1079 ?_
  refine rg_mem (mj_comm hdis) ?_
  refine rg_fVi F (pc := 1080) (M := MR) (N := mjoin u1 (mone o (oV D v1))) (As := [.int ((xs (i + 1))), .int ((xs (i + 2)))]) (rest := []) (ci := 5) hR q654 vq_X4_best rfl hm.2.1.1 rfl rfl (Nat.le_of_ble_eq_true rfl) (by show lev2 + 1 ≤ 12; omega) (by show 8 + (7 + 11) + 32 * lev2 ≤ 462; omega) ⟨by show _ ≤ 601024; omega, by show _ ≤ 7293034; omega⟩ hdis.sym dL_law_1080 (fun r2 M2 hq2 hdis2 => ?_)
  obtain ⟨⟨ad2, F2, lo2, hm2⟩, hrv⟩ := hq2
  refine rg_istore F (pc := 1083) (lv' := [some (.ref (b)), some (.ref (x)), some (.ref (mo)), some (.ref (o)), some (.int (nI i)), some (.int (nI kk)), some (.int (r2)), none, none]) dL_law_1083 (Nat.le_of_ble_eq_true rfl) rfl ?_
  refine rg_aload_n F (pc := 1085) dL_law_1085 rfl ?_
  refine rg_fVi F (pc := 1086) (M := M2) (N := mjoin u1 (mone o (oV D v1))) (As := []) (rest := []) (ci := 5) (r_thrown l D M2 mo P2 nW2 nL2 ad2 F2 (nI kk) lo2 hm2) q589 vq_X4_thrown rfl hm2.2.1.1 rfl rfl (Nat.le_of_ble_eq_true rfl) (Nat.le_of_ble_eq_true rfl) (Nat.le_of_ble_eq_true rfl) ⟨by show _ ≤ 601024; omega, by show _ ≤ 7293034; omega⟩ hdis2 dL_law_1086 (fun r3 M3 hq3 hdis3 => ?_)
  refine rg_top (v2 := .int (nI kk)) (by rw [hq3.1]) ?_
  refine rg_iload F (pc := 1089) dL_law_1089 rfl ?_
  refine rg_ncmp_eq F (pc := 1091) (tgt := 1096) dL_law_1091 (by decide) (by omega) (by omega) (fun c1091 => ?_) (fun c1091 => by exfalso; omega)
  refine rg_iload F (pc := 1096) dL_law_1096 rfl ?_
  refine rg_nif_ne F (pc := 1098) (tgt := 1113) dL_law_1098 (by decide) (by omega) (fun c1098 => ?_) (fun c1098 => ?_)
  · refine rg_goto F (pc := 1113) (tgt := 1184) dL_law_1113 (by decide) ?_
    refine rg_mem (mj_comm hdis3) ?_
    rw [hq3.2] at hdis3 ⊢
    obtain ⟨u2, hc2⟩ := hc1
    refine rg_sub (lv' := [some (.ref b), some (.ref x), some (.ref mo), some (.ref o), some (.int (nI i)), none, none, none, none]) (by repeat' constructor) ?_
    refine rg_widen (k2 := k + 600) (n2 := n + 8000) (by omega) (by omega) ?_
    exact KK _ ⟨u1, M2, v1, P2, nW2, nL2, u2, ad2, F2, nI kk, lo2, rfl, ho1, hdis3.sym, hc2, hm2⟩
  · refine rg_aload_n F (pc := 1101) dL_law_1101 rfl ?_
    refine rg_iconst F (pc := 1102) (v := nI 0) dL_law_1102 (by decide) ?_
    refine rg_lald F (pc := 1103) (x := val.toInt64) (mj_in hdis3 (mj_in (mone_dis ho1) mone_eq)) (by decide) (by decide) (hv1 c1098) dL_law_1103 ?_
    refine rg_iload F (pc := 1104) dL_law_1104 rfl ?_
    refine rg_i2l F (pc := 1106) (v := (r2).toInt64) dL_law_1106 rfl ?_
    refine rg_lcmp F (pc := 1107) (v := nI 0) dL_law_1107 (by rw [hrv c1098]; exact lc_self _) ?_
    refine rg_nif_eq F (pc := 1108) (tgt := 1113) dL_law_1108 (by decide) (by omega) (fun c1108 => ?_) (fun c1108 => by exfalso; omega)
    refine rg_goto F (pc := 1113) (tgt := 1184) dL_law_1113 (by decide) ?_
    refine rg_mem (mj_comm hdis3) ?_
    rw [hq3.2] at hdis3 ⊢
    obtain ⟨u2, hc2⟩ := hc1
    refine rg_sub (lv' := [some (.ref b), some (.ref x), some (.ref mo), some (.ref o), some (.int (nI i)), none, none, none, none]) (by repeat' constructor) ?_
    refine rg_widen (k2 := k + 600) (n2 := n + 8000) (by omega) (by omega) ?_
    exact KK _ ⟨u1, M2, v1, P2, nW2, nL2, u2, ad2, F2, nI kk, lo2, rfl, ho1, hdis3.sym, hc2, hm2⟩
set_option maxHeartbeats 4000000 in
set_option maxRecDepth 100000 in
theorem L_worst (F : rF p l e room_1 s m args below meth c cL_law 9 RL D A) (hNc : rNc s) (hl9 : l.stackTraces = false) (hX : va_X b L xs s s.heap) (hbl : b < s.heap.size) (hbA : ¬ A b) (hL : L ≤ 3072) (hi : i + 6 ≤ L) (hk : k + 600 ≤ 601024) (hn : n + 8000 ≤ 7293034) (hLS : lsA D M x mo o) (KK : ∀ M' : rMem, lsA D M' x mo o → rG p l e room_1 s m args below meth c D A 9 Q M' (k + 600) (n + 8000) [some (.ref b), some (.ref x), some (.ref mo), some (.ref o), some (.int (nI i)), none, none, none, none] 1184 []) : rG p l e room_1 s m args below meth c D A 9 Q M k n [some (.ref b), some (.ref x), some (.ref mo), some (.ref o), some (.int (nI i)), none, none, none, none] 1116 [] := by
  obtain ⟨MC, MR, v0, P, nW, nL, u, ad, Fn, t, lo, rfl, ho, hd, hc, hm⟩ := hLS
  refine rg_aload_n F (pc := 1116) dL_law_1116 rfl ?_
  refine rg_mem mj_assoc ?_
  have hda := mdis_j.mp hd
  have hdm : mdis MC (mjoin (mone o (oV D v0)) MR) := (mdis_j.mpr ⟨(mone_dis ho).sym, hda.1.sym⟩).sym
  refine rg_fVi F (pc := 1117) (M := MC) (N := mjoin (mone o (oV D v0)) MR) (As := []) (rest := []) (ci := 4) (c_worst l D MC x P nW nL u hc) q657 vq_X3_worst rfl (cV_see hc).2.1 rfl rfl (Nat.le_of_ble_eq_true rfl) (Nat.le_of_ble_eq_true rfl) (Nat.le_of_ble_eq_true rfl) ⟨by show _ ≤ 601024; omega, by show _ ≤ 7293034; omega⟩ hdm dL_law_1117 (fun r1 M1 hp1 hdis => ?_)
  refine rg_top (v2 := .int ((zWo P nW nL nL).2)) (by rw [hp1.1]) ?_
  have ho1 : M1 o = none := dis_mone (mdis_j.mp hdis.sym).1.sym
  have hdr : mdis (mjoin M1 (mone o (oV D v0))) MR := mdis_j.mpr ⟨(mdis_j.mp hdis.sym).2.sym, hda.2⟩
  have hcx : cV D M1 x P nW nL u := hp1.2
  refine rg_aload_n F (pc := 1120) dL_law_1120 rfl ?_
  refine rg_mem (mj_assoc.symm.trans (mj_comm hdr)) ?_
  refine rg_fVi F (pc := 1121) (M := MR) (N := mjoin M1 (mone o (oV D v0))) (As := []) (rest := [.int ((zWo P nW nL nL).2)]) (ci := 5) (r_worst l D MR mo P nW nL ad Fn t lo hm) q660 vq_X4_worst rfl hm.2.1.1 rfl rfl (Nat.le_of_ble_eq_true rfl) (Nat.le_of_ble_eq_true rfl) (Nat.le_of_ble_eq_true rfl) ⟨by show _ ≤ 601024; omega, by show _ ≤ 7293034; omega⟩ hdr.sym dL_law_1121 (fun r2 M2 hq2 hdis2 => ?_)
  refine rg_top (v2 := .int ((zWo P nW nL nL).2)) (by rw [hq2.1]) ?_
  obtain ⟨-, hq3⟩ := hq2
  have hq4 : ∃ ad2 F2 lo2, mV D M2 mo P nW nL ad2 F2 (nI 0) lo2 := by obtain ⟨F2, lo2, h2⟩ := hq3; exact ⟨ad, F2, lo2, h2⟩
  refine rg_icmp_eq F (pc := 1124) (tgt := 1184) dL_law_1124 (by decide) (fun c1124 => ?_) (fun c1124 => absurd rfl c1124)
  refine rg_mem (mj_comm hdis2) ?_
  obtain ⟨ad2, F2, lo2, hm2⟩ := hq4
  refine rg_sub (lv' := [some (.ref b), some (.ref x), some (.ref mo), some (.ref o), some (.int (nI i)), none, none, none, none]) (by repeat' constructor) ?_
  refine rg_widen (k2 := k + 600) (n2 := n + 8000) (by omega) (by omega) ?_
  exact KK _ ⟨M1, M2, v0, P, nW, nL, u, ad2, F2, nI 0, lo2, rfl, ho1, hdis2.sym, hcx, hm2⟩
set_option maxHeartbeats 4000000 in
set_option maxRecDepth 100000 in
theorem L_mean (F : rF p l e room_1 s m args below meth c cL_law 9 RL D A) (hNc : rNc s) (hl9 : l.stackTraces = false) (hX : va_X b L xs s s.heap) (hbl : b < s.heap.size) (hbA : ¬ A b) (hL : L ≤ 3072) (hi : i + 6 ≤ L) (hk : k + 600 ≤ 601024) (hn : n + 8000 ≤ 7293034) (hLS : lsA D M x mo o) (KK : ∀ M' : rMem, lsA D M' x mo o → rG p l e room_1 s m args below meth c D A 9 Q M' (k + 600) (n + 8000) [some (.ref b), some (.ref x), some (.ref mo), some (.ref o), some (.int (nI i)), none, none, none, none] 1184 []) : rG p l e room_1 s m args below meth c D A 9 Q M k n [some (.ref b), some (.ref x), some (.ref mo), some (.ref o), some (.int (nI i)), none, none, none, none] 1129 [] := by
  obtain ⟨MC, MR, v0, P, nW, nL, u, ad, Fn, t, lo, rfl, ho, hd, hc, hm⟩ := hLS
  refine rg_aload_n F (pc := 1129) dL_law_1129 rfl ?_
  refine rg_mem mj_assoc ?_
  have hda := mdis_j.mp hd
  have hdm : mdis MC (mjoin (mone o (oV D v0)) MR) := (mdis_j.mpr ⟨(mone_dis ho).sym, hda.1.sym⟩).sym
  refine rg_fVd F (pc := 1130) (M := MC) (N := mjoin (mone o (oV D v0)) MR) (As := []) (rest := []) (ci := 4) (c_mean l D MC x P nW nL u hc) q663 vq_X3_mean rfl (cV_see hc).2.1 rfl rfl (Nat.le_of_ble_eq_true rfl) (Nat.le_of_ble_eq_true rfl) (Nat.le_of_ble_eq_true rfl) ⟨by show _ ≤ 601024; omega, by show _ ≤ 7293034; omega⟩ hdm dL_law_1130 (fun r1 M1 hp1 hdis => ?_)
  refine rg_top (v2 := .double (zMean P nL)) (by rw [hp1.1]) ?_
  refine rg_mem (M2 := mjoin MC (mjoin (mone o (oV D v0)) MR)) (by rw [hp1.2]) ?_
  rw [hp1.2] at hdis
  have ho1 : MC o = none := dis_mone (mdis_j.mp hdis.sym).1.sym
  have hdr : mdis (mjoin MC (mone o (oV D v0))) MR := mdis_j.mpr ⟨(mdis_j.mp hdis.sym).2.sym, hda.2⟩
  have hcx : cV D MC x P nW nL u := hc
  refine rg_dstore F (pc := 1133) (lv' := [some (.ref (b)), some (.ref (x)), some (.ref (mo)), some (.ref (o)), some (.int (nI i)), some (.double (zMean P nL)), none, none, none]) dL_law_1133 (Nat.le_of_ble_eq_true rfl) rfl ?_
  refine rg_aload_n F (pc := 1135) dL_law_1135 rfl ?_
  refine rg_mem (mj_assoc.symm.trans (mj_comm hdr)) ?_
  refine rg_fVd F (pc := 1136) (M := MR) (N := mjoin MC (mone o (oV D v0))) (As := []) (rest := []) (ci := 5) (r_mean l D MR mo P nW nL ad Fn t lo hm) q666 vq_X4_mean rfl hm.2.1.1 rfl rfl (Nat.le_of_ble_eq_true rfl) (Nat.le_of_ble_eq_true rfl) (Nat.le_of_ble_eq_true rfl) ⟨by show _ ≤ 601024; omega, by show _ ≤ 7293034; omega⟩ hdr.sym dL_law_1136 (fun r2 M2 hq2 hdis2 => ?_)
  refine rg_top (v2 := .double (zMean P nL)) (by rw [hq2.1]) ?_
  obtain ⟨-, hq3⟩ := hq2
  have hq4 : ∃ ad2 F2 lo2, mV D M2 mo P nW nL ad2 F2 (nI 0) lo2 := by obtain ⟨F2, lo2, h2⟩ := hq3; exact ⟨ad, F2, lo2, h2⟩
  refine rg_dstore F (pc := 1139) (lv' := [some (.ref (b)), some (.ref (x)), some (.ref (mo)), some (.ref (o)), some (.int (nI i)), some (.double (zMean P nL)), none, some (.double (zMean P nL)), none]) dL_law_1139 (Nat.le_of_ble_eq_true rfl) rfl ?_
  refine rg_dload F (pc := 1141) dL_law_1141 rfl ?_
  refine rg_dload F (pc := 1143) dL_law_1143 rfl ?_
  refine rg_dcm9 F (pc := 1145) (op := .l) dL_law_1145 ?_
  refine rg_if_eq F (pc := 1146) (tgt := 1167) dL_law_1146 (by decide) (fun c1146 => ?_) (fun c1146 => ?_)
  · refine rg_goto F (pc := 1167) (tgt := 1184) dL_law_1167 (by decide) ?_
    refine rg_mem (mj_comm hdis2) ?_
    obtain ⟨ad2, F2, lo2, hm2⟩ := hq4
    refine rg_sub (lv' := [some (.ref b), some (.ref x), some (.ref mo), some (.ref o), some (.int (nI i)), none, none, none, none]) (by repeat' constructor) ?_
    refine rg_widen (k2 := k + 600) (n2 := n + 8000) (by omega) (by omega) ?_
    exact KK _ ⟨MC, M2, v0, P, nW, nL, u, ad2, F2, nI 0, lo2, rfl, ho1, hdis2.sym, hcx, hm2⟩
  · refine rg_dload F (pc := 1149) dL_law_1149 rfl ?_
    refine rg_dload F (pc := 1151) dL_law_1151 rfl ?_
    refine rg_dcm9 F (pc := 1153) (op := .l) dL_law_1153 ?_
    refine rg_if_eq F (pc := 1154) (tgt := 1165) dL_law_1154 (by decide) (fun c1154 => absurd c1154 c1146) (fun c1154 => ?_)
    refine rg_dload F (pc := 1157) dL_law_1157 rfl ?_
    refine rg_dload F (pc := 1159) dL_law_1159 rfl ?_
    refine rg_dcm9 F (pc := 1161) (op := .l) dL_law_1161 ?_
    refine rg_if_ne F (pc := 1162) (tgt := 1167) dL_law_1162 (by decide) (fun c1162 => ?_) (fun c1162 => absurd c1162 c1146)
    refine rg_goto F (pc := 1167) (tgt := 1184) dL_law_1167 (by decide) ?_
    refine rg_mem (mj_comm hdis2) ?_
    obtain ⟨ad2, F2, lo2, hm2⟩ := hq4
    refine rg_sub (lv' := [some (.ref b), some (.ref x), some (.ref mo), some (.ref o), some (.int (nI i)), none, none, none, none]) (by repeat' constructor) ?_
    refine rg_widen (k2 := k + 600) (n2 := n + 8000) (by omega) (by omega) ?_
    exact KK _ ⟨MC, M2, v0, P, nW, nL, u, ad2, F2, nI 0, lo2, rfl, ho1, hdis2.sym, hcx, hm2⟩
set_option maxHeartbeats 4000000 in
set_option maxRecDepth 100000 in
theorem L_digest (F : rF p l e room_1 s m args below meth c cL_law 9 RL D A) (hNc : rNc s) (hl9 : l.stackTraces = false) (hX : va_X b L xs s s.heap) (hbl : b < s.heap.size) (hbA : ¬ A b) (hL : L ≤ 3072) (hi : i + 6 ≤ L) (hk : k + 600 ≤ 601024) (hn : n + 8000 ≤ 7293034) (hLS : lsA D M x mo o) (KK : ∀ M' : rMem, lsA D M' x mo o → rG p l e room_1 s m args below meth c D A 9 Q M' (k + 600) (n + 8000) [some (.ref b), some (.ref x), some (.ref mo), some (.ref o), some (.int (nI i)), none, none, none, none] 1184 []) : rG p l e room_1 s m args below meth c D A 9 Q M k n [some (.ref b), some (.ref x), some (.ref mo), some (.ref o), some (.int (nI i)), none, none, none, none] 1170 [] := by
  obtain ⟨MC, MR, v0, P, nW, nL, u, ad, Fn, t, lo, rfl, ho, hd, hc, hm⟩ := hLS
  refine rg_aload_n F (pc := 1170) dL_law_1170 rfl ?_
  refine rg_mem mj_assoc ?_
  have hda := mdis_j.mp hd
  have hdm : mdis MC (mjoin (mone o (oV D v0)) MR) := (mdis_j.mpr ⟨(mone_dis ho).sym, hda.1.sym⟩).sym
  refine rg_fVl F (pc := 1171) (M := MC) (N := mjoin (mone o (oV D v0)) MR) (As := []) (rest := []) (ci := 4) (c_digest l D MC x P nW nL u hc) q669 vq_X3_digest rfl (cV_see hc).2.1 rfl rfl (Nat.le_of_ble_eq_true rfl) (Nat.le_of_ble_eq_true rfl) (Nat.le_of_ble_eq_true rfl) ⟨by show _ ≤ 601024; omega, by show _ ≤ 7293034; omega⟩ hdm dL_law_1171 (fun r1 M1 hp1 hdis => ?_)
  refine rg_top (v2 := .long (zDig P nW nL)) (by rw [hp1.1]) ?_
  refine rg_mem (M2 := mjoin MC (mjoin (mone o (oV D v0)) MR)) (by rw [hp1.2]) ?_
  rw [hp1.2] at hdis
  have ho1 : MC o = none := dis_mone (mdis_j.mp hdis.sym).1.sym
  have hdr : mdis (mjoin MC (mone o (oV D v0))) MR := mdis_j.mpr ⟨(mdis_j.mp hdis.sym).2.sym, hda.2⟩
  have hcx : cV D MC x P nW nL u := hc
  refine rg_aload_n F (pc := 1174) dL_law_1174 rfl ?_
  refine rg_mem (mj_assoc.symm.trans (mj_comm hdr)) ?_
  refine rg_fVl F (pc := 1175) (M := MR) (N := mjoin MC (mone o (oV D v0))) (As := []) (rest := [.long (zDig P nW nL)]) (ci := 5) (r_digest l D MR mo P nW nL ad Fn t lo hm) q672 vq_X4_digest rfl hm.2.1.1 rfl rfl (Nat.le_of_ble_eq_true rfl) (Nat.le_of_ble_eq_true rfl) (Nat.le_of_ble_eq_true rfl) ⟨by show _ ≤ 601024; omega, by show _ ≤ 7293034; omega⟩ hdr.sym dL_law_1175 (fun r2 M2 hq2 hdis2 => ?_)
  refine rg_top (v2 := .long (zDig P nW nL)) (by rw [hq2.1]) ?_
  obtain ⟨-, hq3⟩ := hq2
  have hq4 : ∃ ad2 F2 lo2, mV D M2 mo P nW nL ad2 F2 (nI 0) lo2 := by obtain ⟨F2, lo2, h2⟩ := hq3; exact ⟨ad, F2, lo2, h2⟩
  refine rg_lcmp F (pc := 1178) (v := nI 0) dL_law_1178 (lc_self _) ?_
  refine rg_nif_eq F (pc := 1179) (tgt := 1184) dL_law_1179 (by decide) (by omega) (fun c1179 => ?_) (fun c1179 => by exfalso; omega)
  refine rg_mem (mj_comm hdis2) ?_
  obtain ⟨ad2, F2, lo2, hm2⟩ := hq4
  refine rg_sub (lv' := [some (.ref b), some (.ref x), some (.ref mo), some (.ref o), some (.int (nI i)), none, none, none, none]) (by repeat' constructor) ?_
  refine rg_widen (k2 := k + 600) (n2 := n + 8000) (by omega) (by omega) ?_
  exact KK _ ⟨MC, M2, v0, P, nW, nL, u, ad2, F2, nI 0, lo2, rfl, ho1, hdis2.sym, hcx, hm2⟩
end LAW
