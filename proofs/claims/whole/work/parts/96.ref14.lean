set_option maxHeartbeats 4000000 in
set_option maxRecDepth 100000 in
theorem r_init (l : Launch) (D : va_G) (M : rMem) (m : Nat) (hm : M m = some (.inr (5, [.int (nI 0), .int (nI 0), .null, .null, .null, .null, .null, .int (nI 0), .null, .null, .null, .null, .null, .null, .null, .null, .null, .null, .null, .null, .int (nI 0)]))) : CMv l D yX4_init cX4_init 1 2 17 750 M [.ref (m)] (fun M' => ∃ ad F lo, mV D M' m zP0 0 0 ad F (nI 0) lo) := by
  refine rM (lv0 := [some (.ref (m))]) (by decide) rfl rfl (Nat.le_of_ble_eq_true rfl) (fun P0 E0 S0 m0 as0 bl0 mt0 c0 A F hrt9 hnm => ?_)
  have hj0 : mJ D M m [.int (nI 0), .int (nI 0), .null, .null, .null, .null, .null, .int (nI 0), .null, .null, .null, .null, .null, .null, .null, .null, .null, .null, .null, .null, .int (nI 0)] [] := ⟨hm, fun q hq => absurd hq List.not_mem_nil, List.Pairwise.nil⟩
  refine rg_aload_n F (pc := 0) dX4_init_0 rfl ?_
  refine rg_objInit F (pc := 1) q582 q11 q12 dX4_init_1 (Nat.le_of_ble_eq_true rfl) (Nat.le_of_ble_eq_true rfl) ?_
  refine rg_aload_n F (pc := 4) dX4_init_4 rfl ?_
  refine rg_bipush F (pc := 5) (v := nI 30) dX4_init_5 (by decide) ?_
  refine rm_jn F hj0 (pc := 7) (N := 30) (Nat.le_of_ble_eq_true rfl) (Nat.le_of_ble_eq_true rfl) (Nat.le_of_ble_eq_true rfl) q409 dX4_init_7 (fun a0 Mn0 hn0 => ?_)
  refine rg_widen (k2 := 1) (n2 := 30) (by decide) (by decide) ?_
  refine rg_putF F (pc := 9) (ci := 5) (ty := tyX4 2) rfl inX4 tyX4 tyX4_ok nmX4 hn0.1 2 (by decide) q410 (fun _ h9 => h9) rfl (by rw [hnm]; rfl) rfl (tyX4_ok 2 (by decide)) rfl rfl (Nat.le_of_ble_eq_true rfl) dX4_init_9 ?_
  refine rm_jm hn0 (fs2 := [.int (nI 0), .int (nI 0), .ref (a0), .null, .null, .null, .null, .int (nI 0), .null, .null, .null, .null, .null, .null, .null, .null, .null, .null, .null, .null, .int (nI 0)]) rfl (fun Mp1 hp1 => ?_)
  refine rg_aload_n F (pc := 12) dX4_init_12 rfl ?_
  refine rg_bipush F (pc := 13) (v := nI 30) dX4_init_13 (by decide) ?_
  refine rm_jn F hp1 (pc := 15) (N := 30) (Nat.le_of_ble_eq_true rfl) (Nat.le_of_ble_eq_true rfl) (Nat.le_of_ble_eq_true rfl) q409 dX4_init_15 (fun a1 Mn1 hn1 => ?_)
  refine rg_widen (k2 := 2) (n2 := 60) (by decide) (by decide) ?_
  refine rg_putF F (pc := 17) (ci := 5) (ty := tyX4 3) rfl inX4 tyX4 tyX4_ok nmX4 hn1.1 3 (by decide) q411 (fun _ h9 => h9) rfl (by rw [hnm]; rfl) rfl (tyX4_ok 3 (by decide)) rfl rfl (Nat.le_of_ble_eq_true rfl) dX4_init_17 ?_
  refine rm_jm hn1 (fs2 := [.int (nI 0), .int (nI 0), .ref (a0), .ref (a1), .null, .null, .null, .int (nI 0), .null, .null, .null, .null, .null, .null, .null, .null, .null, .null, .null, .null, .int (nI 0)]) rfl (fun Mp2 hp2 => ?_)
  refine rg_aload_n F (pc := 20) dX4_init_20 rfl ?_
  refine rg_bipush F (pc := 21) (v := nI 30) dX4_init_21 (by decide) ?_
  refine rm_jn F hp2 (pc := 23) (N := 30) (Nat.le_of_ble_eq_true rfl) (Nat.le_of_ble_eq_true rfl) (Nat.le_of_ble_eq_true rfl) q409 dX4_init_23 (fun a2 Mn2 hn2 => ?_)
  refine rg_widen (k2 := 3) (n2 := 90) (by decide) (by decide) ?_
  refine rg_putF F (pc := 25) (ci := 5) (ty := tyX4 4) rfl inX4 tyX4 tyX4_ok nmX4 hn2.1 4 (by decide) q412 (fun _ h9 => h9) rfl (by rw [hnm]; rfl) rfl (tyX4_ok 4 (by decide)) rfl rfl (Nat.le_of_ble_eq_true rfl) dX4_init_25 ?_
  refine rm_jm hn2 (fs2 := [.int (nI 0), .int (nI 0), .ref (a0), .ref (a1), .ref (a2), .null, .null, .int (nI 0), .null, .null, .null, .null, .null, .null, .null, .null, .null, .null, .null, .null, .int (nI 0)]) rfl (fun Mp3 hp3 => ?_)
  refine rg_aload_n F (pc := 28) dX4_init_28 rfl ?_
  refine rg_bipush F (pc := 29) (v := nI 30) dX4_init_29 (by decide) ?_
  refine rm_jn F hp3 (pc := 31) (N := 30) (Nat.le_of_ble_eq_true rfl) (Nat.le_of_ble_eq_true rfl) (Nat.le_of_ble_eq_true rfl) q409 dX4_init_31 (fun a3 Mn3 hn3 => ?_)
  refine rg_widen (k2 := 4) (n2 := 120) (by decide) (by decide) ?_
  refine rg_putF F (pc := 33) (ci := 5) (ty := tyX4 5) rfl inX4 tyX4 tyX4_ok nmX4 hn3.1 5 (by decide) q413 (fun _ h9 => h9) rfl (by rw [hnm]; rfl) rfl (tyX4_ok 5 (by decide)) rfl rfl (Nat.le_of_ble_eq_true rfl) dX4_init_33 ?_
  refine rm_jm hn3 (fs2 := [.int (nI 0), .int (nI 0), .ref (a0), .ref (a1), .ref (a2), .ref (a3), .null, .int (nI 0), .null, .null, .null, .null, .null, .null, .null, .null, .null, .null, .null, .null, .int (nI 0)]) rfl (fun Mp4 hp4 => ?_)
  refine rg_aload_n F (pc := 36) dX4_init_36 rfl ?_
  refine rg_bipush F (pc := 37) (v := nI 30) dX4_init_37 (by decide) ?_
  refine rm_jn F hp4 (pc := 39) (N := 30) (Nat.le_of_ble_eq_true rfl) (Nat.le_of_ble_eq_true rfl) (Nat.le_of_ble_eq_true rfl) q409 dX4_init_39 (fun a4 Mn4 hn4 => ?_)
  refine rg_widen (k2 := 5) (n2 := 150) (by decide) (by decide) ?_
  refine rg_putF F (pc := 41) (ci := 5) (ty := tyX4 6) rfl inX4 tyX4 tyX4_ok nmX4 hn4.1 6 (by decide) q414 (fun _ h9 => h9) rfl (by rw [hnm]; rfl) rfl (tyX4_ok 6 (by decide)) rfl rfl (Nat.le_of_ble_eq_true rfl) dX4_init_41 ?_
  refine rm_jm hn4 (fs2 := [.int (nI 0), .int (nI 0), .ref (a0), .ref (a1), .ref (a2), .ref (a3), .ref (a4), .int (nI 0), .null, .null, .null, .null, .null, .null, .null, .null, .null, .null, .null, .null, .int (nI 0)]) rfl (fun Mp5 hp5 => ?_)
  refine rg_aload_n F (pc := 44) dX4_init_44 rfl ?_
  refine rg_bipush F (pc := 45) (v := nI 10) dX4_init_45 (by decide) ?_
  refine rm_jn F hp5 (pc := 47) (N := 10) (Nat.le_of_ble_eq_true rfl) (Nat.le_of_ble_eq_true rfl) (Nat.le_of_ble_eq_true rfl) q409 dX4_init_47 (fun a5 Mn5 hn5 => ?_)
  refine rg_widen (k2 := 6) (n2 := 160) (by decide) (by decide) ?_
  refine rg_putF F (pc := 49) (ci := 5) (ty := tyX4 8) rfl inX4 tyX4 tyX4_ok nmX4 hn5.1 8 (by decide) q440 (fun _ h9 => h9) rfl (by rw [hnm]; rfl) rfl (tyX4_ok 8 (by decide)) rfl rfl (Nat.le_of_ble_eq_true rfl) dX4_init_49 ?_
  refine rm_jm hn5 (fs2 := [.int (nI 0), .int (nI 0), .ref (a0), .ref (a1), .ref (a2), .ref (a3), .ref (a4), .int (nI 0), .ref (a5), .null, .null, .null, .null, .null, .null, .null, .null, .null, .null, .null, .int (nI 0)]) rfl (fun Mp6 hp6 => ?_)
  refine rg_aload_n F (pc := 52) dX4_init_52 rfl ?_
  refine rg_bipush F (pc := 53) (v := nI 10) dX4_init_53 (by decide) ?_
  refine rm_jn F hp6 (pc := 55) (N := 10) (Nat.le_of_ble_eq_true rfl) (Nat.le_of_ble_eq_true rfl) (Nat.le_of_ble_eq_true rfl) q409 dX4_init_55 (fun a6 Mn6 hn6 => ?_)
  refine rg_widen (k2 := 7) (n2 := 170) (by decide) (by decide) ?_
  refine rg_putF F (pc := 57) (ci := 5) (ty := tyX4 9) rfl inX4 tyX4 tyX4_ok nmX4 hn6.1 9 (by decide) q443 (fun _ h9 => h9) rfl (by rw [hnm]; rfl) rfl (tyX4_ok 9 (by decide)) rfl rfl (Nat.le_of_ble_eq_true rfl) dX4_init_57 ?_
  refine rm_jm hn6 (fs2 := [.int (nI 0), .int (nI 0), .ref (a0), .ref (a1), .ref (a2), .ref (a3), .ref (a4), .int (nI 0), .ref (a5), .ref (a6), .null, .null, .null, .null, .null, .null, .null, .null, .null, .null, .int (nI 0)]) rfl (fun Mp7 hp7 => ?_)
  refine rg_aload_n F (pc := 60) dX4_init_60 rfl ?_
  refine rg_bipush F (pc := 61) (v := nI 10) dX4_init_61 (by decide) ?_
  refine rm_jn F hp7 (pc := 63) (N := 10) (Nat.le_of_ble_eq_true rfl) (Nat.le_of_ble_eq_true rfl) (Nat.le_of_ble_eq_true rfl) q409 dX4_init_63 (fun a7 Mn7 hn7 => ?_)
  refine rg_widen (k2 := 8) (n2 := 180) (by decide) (by decide) ?_
  refine rg_putF F (pc := 65) (ci := 5) (ty := tyX4 10) rfl inX4 tyX4 tyX4_ok nmX4 hn7.1 10 (by decide) q471 (fun _ h9 => h9) rfl (by rw [hnm]; rfl) rfl (tyX4_ok 10 (by decide)) rfl rfl (Nat.le_of_ble_eq_true rfl) dX4_init_65 ?_
  refine rm_jm hn7 (fs2 := [.int (nI 0), .int (nI 0), .ref (a0), .ref (a1), .ref (a2), .ref (a3), .ref (a4), .int (nI 0), .ref (a5), .ref (a6), .ref (a7), .null, .null, .null, .null, .null, .null, .null, .null, .null, .int (nI 0)]) rfl (fun Mp8 hp8 => ?_)
  refine rg_aload_n F (pc := 68) dX4_init_68 rfl ?_
  refine rg_bipush F (pc := 69) (v := nI 10) dX4_init_69 (by decide) ?_
  refine rm_jn F hp8 (pc := 71) (N := 10) (Nat.le_of_ble_eq_true rfl) (Nat.le_of_ble_eq_true rfl) (Nat.le_of_ble_eq_true rfl) q409 dX4_init_71 (fun a8 Mn8 hn8 => ?_)
  refine rg_widen (k2 := 9) (n2 := 190) (by decide) (by decide) ?_
  refine rg_putF F (pc := 73) (ci := 5) (ty := tyX4 11) rfl inX4 tyX4 tyX4_ok nmX4 hn8.1 11 (by decide) q407 (fun _ h9 => h9) rfl (by rw [hnm]; rfl) rfl (tyX4_ok 11 (by decide)) rfl rfl (Nat.le_of_ble_eq_true rfl) dX4_init_73 ?_
  refine rm_jm hn8 (fs2 := [.int (nI 0), .int (nI 0), .ref (a0), .ref (a1), .ref (a2), .ref (a3), .ref (a4), .int (nI 0), .ref (a5), .ref (a6), .ref (a7), .ref (a8), .null, .null, .null, .null, .null, .null, .null, .null, .int (nI 0)]) rfl (fun Mp9 hp9 => ?_)
  refine rg_aload_n F (pc := 76) dX4_init_76 rfl ?_
  refine rg_bipush F (pc := 77) (v := nI 80) dX4_init_77 (by decide) ?_
  refine rm_jn F hp9 (pc := 79) (N := 80) (Nat.le_of_ble_eq_true rfl) (Nat.le_of_ble_eq_true rfl) (Nat.le_of_ble_eq_true rfl) q409 dX4_init_79 (fun a9 Mn9 hn9 => ?_)
  refine rg_widen (k2 := 10) (n2 := 270) (by decide) (by decide) ?_
  refine rg_putF F (pc := 81) (ci := 5) (ty := tyX4 12) rfl inX4 tyX4 tyX4_ok nmX4 hn9.1 12 (by decide) q408 (fun _ h9 => h9) rfl (by rw [hnm]; rfl) rfl (tyX4_ok 12 (by decide)) rfl rfl (Nat.le_of_ble_eq_true rfl) dX4_init_81 ?_
  refine rm_jm hn9 (fs2 := [.int (nI 0), .int (nI 0), .ref (a0), .ref (a1), .ref (a2), .ref (a3), .ref (a4), .int (nI 0), .ref (a5), .ref (a6), .ref (a7), .ref (a8), .ref (a9), .null, .null, .null, .null, .null, .null, .null, .int (nI 0)]) rfl (fun Mp10 hp10 => ?_)
  refine rg_aload_n F (pc := 84) dX4_init_84 rfl ?_
  refine rg_bipush F (pc := 85) (v := nI 10) dX4_init_85 (by decide) ?_
  refine rm_jn F hp10 (pc := 87) (N := 10) (Nat.le_of_ble_eq_true rfl) (Nat.le_of_ble_eq_true rfl) (Nat.le_of_ble_eq_true rfl) q409 dX4_init_87 (fun a10 Mn10 hn10 => ?_)
  refine rg_widen (k2 := 11) (n2 := 280) (by decide) (by decide) ?_
  refine rg_putF F (pc := 89) (ci := 5) (ty := tyX4 13) rfl inX4 tyX4 tyX4_ok nmX4 hn10.1 13 (by decide) q434 (fun _ h9 => h9) rfl (by rw [hnm]; rfl) rfl (tyX4_ok 13 (by decide)) rfl rfl (Nat.le_of_ble_eq_true rfl) dX4_init_89 ?_
  refine rm_jm hn10 (fs2 := [.int (nI 0), .int (nI 0), .ref (a0), .ref (a1), .ref (a2), .ref (a3), .ref (a4), .int (nI 0), .ref (a5), .ref (a6), .ref (a7), .ref (a8), .ref (a9), .ref (a10), .null, .null, .null, .null, .null, .null, .int (nI 0)]) rfl (fun Mp11 hp11 => ?_)
  refine rg_aload_n F (pc := 92) dX4_init_92 rfl ?_
  refine rg_bipush F (pc := 93) (v := nI 10) dX4_init_93 (by decide) ?_
  refine rm_jn F hp11 (pc := 95) (N := 10) (Nat.le_of_ble_eq_true rfl) (Nat.le_of_ble_eq_true rfl) (Nat.le_of_ble_eq_true rfl) q409 dX4_init_95 (fun a11 Mn11 hn11 => ?_)
  refine rg_widen (k2 := 12) (n2 := 290) (by decide) (by decide) ?_
  refine rg_putF F (pc := 97) (ci := 5) (ty := tyX4 14) rfl inX4 tyX4 tyX4_ok nmX4 hn11.1 14 (by decide) q433 (fun _ h9 => h9) rfl (by rw [hnm]; rfl) rfl (tyX4_ok 14 (by decide)) rfl rfl (Nat.le_of_ble_eq_true rfl) dX4_init_97 ?_
  refine rm_jm hn11 (fs2 := [.int (nI 0), .int (nI 0), .ref (a0), .ref (a1), .ref (a2), .ref (a3), .ref (a4), .int (nI 0), .ref (a5), .ref (a6), .ref (a7), .ref (a8), .ref (a9), .ref (a10), .ref (a11), .null, .null, .null, .null, .null, .int (nI 0)]) rfl (fun Mp12 hp12 => ?_)
  refine rg_aload_n F (pc := 100) dX4_init_100 rfl ?_
  refine rg_bipush F (pc := 101) (v := nI 10) dX4_init_101 (by decide) ?_
  refine rm_jn F hp12 (pc := 103) (N := 10) (Nat.le_of_ble_eq_true rfl) (Nat.le_of_ble_eq_true rfl) (Nat.le_of_ble_eq_true rfl) q409 dX4_init_103 (fun a12 Mn12 hn12 => ?_)
  refine rg_widen (k2 := 13) (n2 := 300) (by decide) (by decide) ?_
  refine rg_putF F (pc := 105) (ci := 5) (ty := tyX4 15) rfl inX4 tyX4 tyX4_ok nmX4 hn12.1 15 (by decide) q435 (fun _ h9 => h9) rfl (by rw [hnm]; rfl) rfl (tyX4_ok 15 (by decide)) rfl rfl (Nat.le_of_ble_eq_true rfl) dX4_init_105 ?_
  refine rm_jm hn12 (fs2 := [.int (nI 0), .int (nI 0), .ref (a0), .ref (a1), .ref (a2), .ref (a3), .ref (a4), .int (nI 0), .ref (a5), .ref (a6), .ref (a7), .ref (a8), .ref (a9), .ref (a10), .ref (a11), .ref (a12), .null, .null, .null, .null, .int (nI 0)]) rfl (fun Mp13 hp13 => ?_)
  refine rg_aload_n F (pc := 108) dX4_init_108 rfl ?_
  refine rg_bipush F (pc := 109) (v := nI 10) dX4_init_109 (by decide) ?_
  refine rm_jn F hp13 (pc := 111) (N := 10) (Nat.le_of_ble_eq_true rfl) (Nat.le_of_ble_eq_true rfl) (Nat.le_of_ble_eq_true rfl) q409 dX4_init_111 (fun a13 Mn13 hn13 => ?_)
  refine rg_widen (k2 := 14) (n2 := 310) (by decide) (by decide) ?_
  refine rg_putF F (pc := 113) (ci := 5) (ty := tyX4 16) rfl inX4 tyX4 tyX4_ok nmX4 hn13.1 16 (by decide) q437 (fun _ h9 => h9) rfl (by rw [hnm]; rfl) rfl (tyX4_ok 16 (by decide)) rfl rfl (Nat.le_of_ble_eq_true rfl) dX4_init_113 ?_
  refine rm_jm hn13 (fs2 := [.int (nI 0), .int (nI 0), .ref (a0), .ref (a1), .ref (a2), .ref (a3), .ref (a4), .int (nI 0), .ref (a5), .ref (a6), .ref (a7), .ref (a8), .ref (a9), .ref (a10), .ref (a11), .ref (a12), .ref (a13), .null, .null, .null, .int (nI 0)]) rfl (fun Mp14 hp14 => ?_)
  refine rg_aload_n F (pc := 116) dX4_init_116 rfl ?_
  refine rg_bipush F (pc := 117) (v := nI 10) dX4_init_117 (by decide) ?_
  refine rm_jn F hp14 (pc := 119) (N := 10) (Nat.le_of_ble_eq_true rfl) (Nat.le_of_ble_eq_true rfl) (Nat.le_of_ble_eq_true rfl) q409 dX4_init_119 (fun a14 Mn14 hn14 => ?_)
  refine rg_widen (k2 := 15) (n2 := 320) (by decide) (by decide) ?_
  refine rg_putF F (pc := 121) (ci := 5) (ty := tyX4 17) rfl inX4 tyX4 tyX4_ok nmX4 hn14.1 17 (by decide) q438 (fun _ h9 => h9) rfl (by rw [hnm]; rfl) rfl (tyX4_ok 17 (by decide)) rfl rfl (Nat.le_of_ble_eq_true rfl) dX4_init_121 ?_
  refine rm_jm hn14 (fs2 := [.int (nI 0), .int (nI 0), .ref (a0), .ref (a1), .ref (a2), .ref (a3), .ref (a4), .int (nI 0), .ref (a5), .ref (a6), .ref (a7), .ref (a8), .ref (a9), .ref (a10), .ref (a11), .ref (a12), .ref (a13), .ref (a14), .null, .null, .int (nI 0)]) rfl (fun Mp15 hp15 => ?_)
  refine rg_aload_n F (pc := 124) dX4_init_124 rfl ?_
  refine rg_bipush F (pc := 125) (v := nI 10) dX4_init_125 (by decide) ?_
  refine rm_jn F hp15 (pc := 127) (N := 10) (Nat.le_of_ble_eq_true rfl) (Nat.le_of_ble_eq_true rfl) (Nat.le_of_ble_eq_true rfl) q409 dX4_init_127 (fun a15 Mn15 hn15 => ?_)
  refine rg_widen (k2 := 16) (n2 := 330) (by decide) (by decide) ?_
  refine rg_putF F (pc := 129) (ci := 5) (ty := tyX4 18) rfl inX4 tyX4 tyX4_ok nmX4 hn15.1 18 (by decide) q442 (fun _ h9 => h9) rfl (by rw [hnm]; rfl) rfl (tyX4_ok 18 (by decide)) rfl rfl (Nat.le_of_ble_eq_true rfl) dX4_init_129 ?_
  refine rm_jm hn15 (fs2 := [.int (nI 0), .int (nI 0), .ref (a0), .ref (a1), .ref (a2), .ref (a3), .ref (a4), .int (nI 0), .ref (a5), .ref (a6), .ref (a7), .ref (a8), .ref (a9), .ref (a10), .ref (a11), .ref (a12), .ref (a13), .ref (a14), .ref (a15), .null, .int (nI 0)]) rfl (fun Mp16 hp16 => ?_)
  refine rg_aload_n F (pc := 132) dX4_init_132 rfl ?_
  refine rg_sipush F (pc := 133) (v := nI 320) dX4_init_133 (by decide) ?_
  refine rm_jn F hp16 (pc := 136) (N := 320) (Nat.le_of_ble_eq_true rfl) (Nat.le_of_ble_eq_true rfl) (Nat.le_of_ble_eq_true rfl) q409 dX4_init_136 (fun a16 Mn16 hn16 => ?_)
  refine rg_widen (k2 := 17) (n2 := 650) (by decide) (by decide) ?_
  refine rg_putF F (pc := 138) (ci := 5) (ty := tyX4 19) rfl inX4 tyX4 tyX4_ok nmX4 hn16.1 19 (by decide) q439 (fun _ h9 => h9) rfl (by rw [hnm]; rfl) rfl (tyX4_ok 19 (by decide)) rfl rfl (Nat.le_of_ble_eq_true rfl) dX4_init_138 ?_
  refine rm_jm hn16 (fs2 := [.int (nI 0), .int (nI 0), .ref (a0), .ref (a1), .ref (a2), .ref (a3), .ref (a4), .int (nI 0), .ref (a5), .ref (a6), .ref (a7), .ref (a8), .ref (a9), .ref (a10), .ref (a11), .ref (a12), .ref (a13), .ref (a14), .ref (a15), .ref (a16), .int (nI 0)]) rfl (fun Mp17 hp17 => ?_)
  exact rg_vret F (pc := 141) hrt9 (by decide) (by decide) dX4_init_141 ⟨(fun k => match k with | 0 => a0 | 1 => a1 | 2 => a2 | 3 => a3 | 4 => a4 | 5 => a5 | 6 => a6 | 7 => a7 | 8 => a8 | 9 => a9 | 10 => a10 | 11 => a11 | 12 => a12 | 13 => a13 | 14 => a14 | 15 => a15 | _ => a16), fun _ _ => 0, nI 0, zP0_ok, mJ_mA hp17 rfl (fun k hk => by rcases (show k = 0 ∨ k = 1 ∨ k = 2 ∨ k = 3 ∨ k = 4 ∨ k = 5 ∨ k = 6 ∨ k = 7 ∨ k = 8 ∨ k = 9 ∨ k = 10 ∨ k = 11 ∨ k = 12 ∨ k = 13 ∨ k = 14 ∨ k = 15 ∨ k = 16 by omega) with h | h | h | h | h | h | h | h | h | h | h | h | h | h | h | h | h <;> subst h <;> rfl), mB_0⟩
