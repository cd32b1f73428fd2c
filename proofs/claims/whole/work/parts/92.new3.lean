/-! TEXT 0; PolyBench's constructor -/
def X0T : List Int × List Int × List Int := ([-1, -2, -18], [-3, -4, -18, 9, -16], [80])
def B0c : Int → Int := bt 46 (fun i => gsc 0 i % 256)
theorem ptx_B0c : ptx (tkk B0c) = .inr X0T := by decide +kernel
def Z0 : SS := (fun _ _ => 0, fun _ _ => 0, fun _ _ => none)
theorem Z0_fr (n : Nat) : Fr Z0 n := fun _ _ => ⟨fun _ => rfl, rfl, rfl⟩
def st9 (x : Int) : SS := (setP (setP (setP (setP (setP (setP (setP (setP (setP (setP (setP (setP (setP (setP (setP (setP (setP (setP (setP (setP (setP (setP (setP (setP (setP (setP (setF (setP (setP (setF (setP (setP (setF (setP (setP (setF (setP (setP (setP (setP (setP (setP (setP (setP (setP (setP (setP (setP (setP (setP (setP (setP (setP (setP (setF (setP (setP (setP (setP (setP (setP (setP (setP (setP (setP (setP (setP (setP (setP (setP (setP (setP (setP (setP (setP (setP (setP (setP (setP (setP (setP (setP (setP (setP (setP (setP (setP (setP (setP (setP (setP (setP (setP (setF (setP (setP (setP (setP (setP (setP (setP (setP (setP (setP (setP Z0 0 2 (some 1)) 2 0 (some 3)) 0 3 (some 2)) 0 4 (some 4)) 5 0 (some 6)) 5 2 (some 7)) 5 3 (some 8)) 0 7 (some 5)) 0 9 (some 9)) 0 12 (some 10)) 0 14 (some 11)) 12 0 (prm x)) 0 0 (some 12)) 14 0 (some 15)) 13 1 (some 14)) 16 0 (some 17)) 13 2 (some 16)) 18 0 (some 19)) 13 3 (some 18)) 20 0 (some 21)) 13 4 (some 20)) 22 0 (some 23)) 13 5 (some 22)) 24 0 (some 25)) 13 6 (some 24)) 26 0 (some 27)) 13 7 (some 26)) 28 0 (some 29)) 13 8 (some 28)) 13 0 (some 12)) 0 1 (some 13)) 30 2 (some 31)) 30 3 (some 32)) 33 0 (some 34)) 30 5 (some 33)) 35 0 (some 36)) 30 6 (some 35)) 37 0 (some 38)) 30 7 (some 37)) 39 0 (some 40)) 30 8 (some 39)) 41 0 (some 42)) 30 9 (some 41)) 30 0 (some 12)) 30 1 (some 13)) 0 13 (some 30)) 44 0 (some 45)) 44 2 (some 46)) 44 4 (some 47)) 43 1 (some 44)) 43 4 (-1)) 43 0 (some 5)) 0 8 (some 43)) 48 0 (some 49)) 1 0 (some 48)) 50 0 (some 51)) 1 1 (some 50)) 52 0 (some 53)) 1 2 (some 52)) 54 0 (some 55)) 1 3 (some 54)) 56 0 (some 57)) 1 4 (some 56)) 58 0 (some 59)) 1 5 (some 58)) 60 0 (some 61)) 1 6 (some 60)) 62 0 (some 63)) 1 7 (some 62)) 64 0 (-1)) 64 2 (some 65)) 11 0 (some 64)) 66 0 (-1)) 66 2 (some 67)) 11 1 (some 66)) 68 0 (-1)) 68 2 (some 69)) 11 2 (some 68)) 70 0 (-1)) 70 2 (some 71)) 11 3 (some 70)) 72 0 (some 73)) 72 2 (some 74)) 72 4 (some 75)) 9 0 (some 72)) 76 0 (some 77)) 76 2 (some 78)) 76 4 (some 79)) 9 1 (some 76)) 80 0 (some 81)) 80 2 (some 82)) 80 4 (some 83)) 9 2 (some 80)) 84 0 (some 85)) 84 2 (some 86)) 84 4 (some 87)) 9 3 (some 84)) 88 0 (some 89)) 88 2 (some 90)) 88 4 (some 91)) 9 4 (some 88)) 92 0 (some 93)) 92 2 (some 94)) 92 4 (some 95)) 9 5 (some 92))
theorem st9_fr (x : Int) : Fr (st9 x) 96 := by
  unfold st9
  exact (by repeat' first | refine Fr_P ?_ (of_decide_eq_true rfl) | refine Fr_F ?_ (of_decide_eq_true rfl) | exact Z0_fr _)
set_option maxRecDepth 100000 in
set_option maxHeartbeats 4000000 in
theorem i_X9_init {g : GC} {x : Int} {Q : Option Value → GA → Nat → Prop} (hx : -2147483648 ≤ x ∧ x ≤ 2147483647) (hk : G g mX9_init 47 95 4184 214 [(0, gr g 0)] [] (hp g (shT 96) (st9 x)) 96 95 4184 Q) : GCall g mX9_init 47 95 4184 [gr g 0, .int (iI x)] (hp g (shT 1) Z0) 1 Q := by
  refine GCall.of (by decide) (Nat.le_of_ble_eq_true rfl) (ls := [(0, _), (1, _)]) rfl ?_
  refine S_aload_n (pc := 0) dX9_init_0 rfl ?_
  refine G_objInit (pc := 1) dX9_init_1 lkX9_3 oi_in oi_co rfl (Nat.le_of_ble_eq_true rfl) (by decide) ?_
  refine S_aload_n (pc := 4) dX9_init_4 rfl ?_
  refine G_bipush (pc := 5) dX9_init_5 rfl ?_
  refine T_newR (pc := 7) (t := 0) (N := 8) dX9_init_7 clX9_9 (by decide) rfl rfl (by omega) (by decide) (by repeat' first | refine Fr_P ?_ (of_decide_eq_true rfl) | refine Fr_F ?_ (of_decide_eq_true rfl) | exact Z0_fr _) rfl ?_
  refine S_putRF (pc := 10) dX9_init_10 fX9_11 rfl (shT_at (of_decide_eq_true rfl) rfl) rfl ⟨rfl, rfl⟩ ?_
  refine S_aload_n (pc := 13) dX9_init_13 rfl ?_
  refine T_new (pc := 14) (ci := 4) dX9_init_14 gcX4 clX9_9 inX4 niX4 (nf_X4 (by repeat' first | refine Fr_P ?_ (of_decide_eq_true rfl) | refine Fr_F ?_ (of_decide_eq_true rfl) | exact Z0_fr _)) (by decide) rfl ?_
  refine G_dup (pc := 17) dX9_init_17 rfl ?_
  refine G_bipush (pc := 18) dX9_init_18 rfl ?_
  refine G_callI (pc := 20) (d2 := 2) (mc2 := 1) (ms2 := 64) (As := [_]) dX9_init_20 kX4_init lkX9_15 rfl rfl (Nat.le_of_ble_eq_true rfl) ⟨by decide, by decide⟩ (by decide) ?_
  refine c_X4_T (N := 64) (of_decide_eq_true rfl) rfl (by repeat' first | refine Fr_P ?_ (of_decide_eq_true rfl) | refine Fr_F ?_ (of_decide_eq_true rfl) | exact Z0_fr _) rfl (of_decide_eq_true rfl) ?_
  show G _ _ _ _ _ _ _ _ _ _ _ _ _
  refine S_putRF (pc := 23) dX9_init_23 fX9_18 rfl (shT_at (of_decide_eq_true rfl) rfl) rfl ⟨rfl, rfl⟩ ?_
  refine S_aload_n (pc := 26) dX9_init_26 rfl ?_
  refine G_bipush (pc := 27) dX9_init_27 rfl ?_
  refine T_newR (pc := 29) (t := 3) (N := 8) dX9_init_29 clX9_22 (by decide) rfl rfl (by omega) (by decide) (by repeat' first | refine Fr_P ?_ (of_decide_eq_true rfl) | refine Fr_F ?_ (of_decide_eq_true rfl) | exact Z0_fr _) rfl ?_
  refine S_putRF (pc := 32) dX9_init_32 fX9_24 rfl (shT_at (of_decide_eq_true rfl) rfl) rfl ⟨rfl, rfl⟩ ?_
  refine S_aload_n (pc := 35) dX9_init_35 rfl ?_
  refine T_new (pc := 36) (ci := 6) dX9_init_36 gcX6 clX9_28 inX6 niX6 (nf_X6 (by repeat' first | refine Fr_P ?_ (of_decide_eq_true rfl) | refine Fr_F ?_ (of_decide_eq_true rfl) | exact Z0_fr _)) (by decide) rfl ?_
  refine G_dup (pc := 39) dX9_init_39 rfl ?_
  refine G_callIN (pc := 40) (d2 := 1) (mc2 := 3) (ms2 := 480) (As := []) dX9_init_40 kX6_init lkX9_30 rfl rfl (Nat.le_of_ble_eq_true rfl) ⟨by decide, by decide⟩ (by decide) ?_
  refine c_X6_init (by repeat' first | refine Fr_P ?_ (of_decide_eq_true rfl) | refine Fr_F ?_ (of_decide_eq_true rfl) | exact Z0_fr _) ?_
  show G _ _ _ _ _ _ _ _ _ _ _ _ _
  refine S_putRF (pc := 43) dX9_init_43 fX9_31 rfl (shT_at (of_decide_eq_true rfl) rfl) rfl ⟨rfl, rfl⟩ ?_
  refine S_aload_n (pc := 46) dX9_init_46 rfl ?_
  refine G_bipush (pc := 47) dX9_init_47 rfl ?_
  refine T_newR (pc := 49) (t := 2) (N := 6) dX9_init_49 clX9_35 (by decide) rfl rfl (by omega) (by decide) (by repeat' first | refine Fr_P ?_ (of_decide_eq_true rfl) | refine Fr_F ?_ (of_decide_eq_true rfl) | exact Z0_fr _) rfl ?_
  refine S_putRF (pc := 52) dX9_init_52 fX9_37 rfl (shT_at (of_decide_eq_true rfl) rfl) rfl ⟨rfl, rfl⟩ ?_
  refine S_aload_n (pc := 55) dX9_init_55 rfl ?_
  refine G_bipush (pc := 56) dX9_init_56 rfl ?_
  refine T_newI (pc := 58) (N := 6) dX9_init_58 ar_int rfl (by omega) (by decide) (by repeat' first | refine Fr_P ?_ (of_decide_eq_true rfl) | refine Fr_F ?_ (of_decide_eq_true rfl) | exact Z0_fr _) rfl ?_
  refine S_putRF (pc := 60) dX9_init_60 fX9_41 rfl (shT_at (of_decide_eq_true rfl) rfl) rfl ⟨rfl, rfl⟩ ?_
  refine S_aload_n (pc := 63) dX9_init_63 rfl ?_
  refine G_iconst (pc := 64) dX9_init_64 ?_
  refine T_newR (pc := 65) (t := 1) (N := 4) dX9_init_65 clX9_45 (by decide) rfl rfl (by omega) (by decide) (by repeat' first | refine Fr_P ?_ (of_decide_eq_true rfl) | refine Fr_F ?_ (of_decide_eq_true rfl) | exact Z0_fr _) rfl ?_
  refine S_putRF (pc := 68) dX9_init_68 fX9_47 rfl (shT_at (of_decide_eq_true rfl) rfl) rfl ⟨rfl, rfl⟩ ?_
  refine S_aload_n (pc := 71) dX9_init_71 rfl ?_
  refine T_new (pc := 72) (ci := 3) dX9_init_72 gcX3 clX9_51 inX3 niX3 (nf_X3 (by repeat' first | refine Fr_P ?_ (of_decide_eq_true rfl) | refine Fr_F ?_ (of_decide_eq_true rfl) | exact Z0_fr _)) (by decide) rfl ?_
  refine G_dup (pc := 75) dX9_init_75 rfl ?_
  refine G_iload_n (pc := 76) dX9_init_76 rfl ?_
  refine G_callI (pc := 77) (d2 := 3) (mc2 := 0) (ms2 := 0) (As := [_]) dX9_init_77 kX3_init lkX9_53 rfl rfl (Nat.le_of_ble_eq_true rfl) ⟨by decide, by decide⟩ (by decide) ?_
  refine c_X3_init (shT_at (of_decide_eq_true rfl) rfl) hx ?_
  show G _ _ _ _ _ _ _ _ _ _ _ _ _
  refine S_putRF (pc := 80) dX9_init_80 fX9_54 rfl (shT_at (of_decide_eq_true rfl) rfl) rfl ⟨rfl, rfl⟩ ?_
  refine S_aload_n (pc := 83) dX9_init_83 rfl ?_
  refine T_new (pc := 84) (ci := 0) dX9_init_84 gcX0 clX9_58 inX0 niX0 (nf_X0 (by repeat' first | refine Fr_P ?_ (of_decide_eq_true rfl) | refine Fr_F ?_ (of_decide_eq_true rfl) | exact Z0_fr _)) (by decide) rfl ?_
  refine G_dup (pc := 87) dX9_init_87 rfl ?_
  refine S_aload_n (pc := 88) dX9_init_88 rfl ?_
  refine S_getR (pc := 89) dX9_init_89 fX9_54 (shT_at (of_decide_eq_true rfl) rfl) rfl rfl ?_
  refine G_callI (pc := 92) (d2 := 3) (mc2 := 16) (ms2 := 466) (As := [_]) dX9_init_92 kX0_init lkX9_60 rfl rfl (Nat.le_of_ble_eq_true rfl) ⟨by decide, by decide⟩ (by decide) ?_
  refine c_X0_init (by repeat' first | refine Fr_P ?_ (of_decide_eq_true rfl) | refine Fr_F ?_ (of_decide_eq_true rfl) | exact Z0_fr _) ?_
  show G _ _ _ _ _ _ _ _ _ _ _ _ _
  refine S_putRF (pc := 95) dX9_init_95 fX9_63 rfl (shT_at (of_decide_eq_true rfl) rfl) rfl ⟨rfl, rfl⟩ ?_
  refine S_aload_n (pc := 98) dX9_init_98 rfl ?_
  refine T_new (pc := 99) (ci := 2) dX9_init_99 gcX2 clX9_67 inX2 niX2 (nf_X2 (by repeat' first | refine Fr_P ?_ (of_decide_eq_true rfl) | refine Fr_F ?_ (of_decide_eq_true rfl) | exact Z0_fr _)) (by decide) rfl ?_
  refine G_dup (pc := 102) dX9_init_102 rfl ?_
  refine S_aload_n (pc := 103) dX9_init_103 rfl ?_
  refine S_getR (pc := 104) dX9_init_104 fX9_54 (shT_at (of_decide_eq_true rfl) rfl) rfl rfl ?_
  refine S_aload_n (pc := 107) dX9_init_107 rfl ?_
  refine S_getR (pc := 108) dX9_init_108 fX9_63 (shT_at (of_decide_eq_true rfl) rfl) rfl rfl ?_
  refine G_callI (pc := 111) (d2 := 3) (mc2 := 12) (ms2 := 362) (As := [_, _]) dX9_init_111 kX2_init lkX9_69 rfl rfl (Nat.le_of_ble_eq_true rfl) ⟨by decide, by decide⟩ (by decide) ?_
  refine c_X2_init (by repeat' first | refine Fr_P ?_ (of_decide_eq_true rfl) | refine Fr_F ?_ (of_decide_eq_true rfl) | exact Z0_fr _) ?_
  show G _ _ _ _ _ _ _ _ _ _ _ _ _
  refine S_putRF (pc := 114) dX9_init_114 fX9_72 rfl (shT_at (of_decide_eq_true rfl) rfl) rfl ⟨rfl, rfl⟩ ?_
  refine S_aload_n (pc := 117) dX9_init_117 rfl ?_
  refine T_new (pc := 118) (ci := 1) dX9_init_118 gcX1 clX9_76 inX1 niX1 (nf_X1 (by repeat' first | refine Fr_P ?_ (of_decide_eq_true rfl) | refine Fr_F ?_ (of_decide_eq_true rfl) | exact Z0_fr _)) (by decide) rfl ?_
  refine G_dup (pc := 121) dX9_init_121 rfl ?_
  refine S_aload_n (pc := 122) dX9_init_122 rfl ?_
  refine S_getR (pc := 123) dX9_init_123 fX9_31 (shT_at (of_decide_eq_true rfl) rfl) rfl rfl ?_
  refine G_callI (pc := 126) (d2 := 2) (mc2 := 4) (ms2 := 329) (As := [_]) dX9_init_126 kX1_init lkX9_78 rfl rfl (Nat.le_of_ble_eq_true rfl) ⟨by decide, by decide⟩ (by decide) ?_
  refine c_X1_init (by repeat' first | refine Fr_P ?_ (of_decide_eq_true rfl) | refine Fr_F ?_ (of_decide_eq_true rfl) | exact Z0_fr _) ?_
  show G _ _ _ _ _ _ _ _ _ _ _ _ _
  refine S_putRF (pc := 129) dX9_init_129 fX9_81 rfl (shT_at (of_decide_eq_true rfl) rfl) rfl ⟨rfl, rfl⟩ ?_
  refine G_iconst (pc := 132) dX9_init_132 ?_
  refine G_istore_n (pc := 133) (ls' := [(2, _), (0, _), (1, _)]) dX9_init_133 (by decide) rfl ?_
  skip
  refine G_iload_n (pc := 134) dX9_init_134 rfl ?_
  refine G_bipush (pc := 135) dX9_init_135 rfl ?_
  refine G_icmp_ge_f (pc := 137) 161 dX9_init_137 rfl (by omega) (by decide) ?_
  refine S_aload_n (pc := 140) dX9_init_140 rfl ?_
  refine S_getR (pc := 141) dX9_init_141 fX9_11 (shT_at (of_decide_eq_true rfl) rfl) rfl rfl ?_
  refine G_iload_n (pc := 144) dX9_init_144 rfl ?_
  refine T_new (pc := 145) (ci := 4) dX9_init_145 gcX4 clX9_9 inX4 niX4 (nf_X4 (by repeat' first | refine Fr_P ?_ (of_decide_eq_true rfl) | refine Fr_F ?_ (of_decide_eq_true rfl) | exact Z0_fr _)) (by decide) rfl ?_
  refine G_dup (pc := 148) dX9_init_148 rfl ?_
  refine G_bipush (pc := 149) dX9_init_149 rfl ?_
  refine G_callI (pc := 151) (d2 := 2) (mc2 := 1) (ms2 := 32) (As := [_]) dX9_init_151 kX4_init lkX9_15 rfl rfl (Nat.le_of_ble_eq_true rfl) ⟨by decide, by decide⟩ (by decide) ?_
  refine c_X4_T (N := 32) (of_decide_eq_true rfl) rfl (by repeat' first | refine Fr_P ?_ (of_decide_eq_true rfl) | refine Fr_F ?_ (of_decide_eq_true rfl) | exact Z0_fr _) rfl (of_decide_eq_true rfl) ?_
  show G _ _ _ _ _ _ _ _ _ _ _ _ _
  refine S_aast (pc := 154) dX9_init_154 (shT_at (of_decide_eq_true rfl) rfl) rfl (shT_at (of_decide_eq_true rfl) rfl) rfl (by omega) ?_
  refine G_iinc (pc := 155) (ls' := [(2, _), (0, _), (1, _)]) dX9_init_155 rfl (by decide) rfl ?_
  refine G_goto (pc := 158) 134 dX9_init_158 rfl ?_
  skip
  refine G_iload_n (pc := 134) dX9_init_134 rfl ?_
  refine G_bipush (pc := 135) dX9_init_135 rfl ?_
  refine G_icmp_ge_f (pc := 137) 161 dX9_init_137 rfl (by omega) (by decide) ?_
  refine S_aload_n (pc := 140) dX9_init_140 rfl ?_
  refine S_getR (pc := 141) dX9_init_141 fX9_11 (shT_at (of_decide_eq_true rfl) rfl) rfl rfl ?_
  refine G_iload_n (pc := 144) dX9_init_144 rfl ?_
  refine T_new (pc := 145) (ci := 4) dX9_init_145 gcX4 clX9_9 inX4 niX4 (nf_X4 (by repeat' first | refine Fr_P ?_ (of_decide_eq_true rfl) | refine Fr_F ?_ (of_decide_eq_true rfl) | exact Z0_fr _)) (by decide) rfl ?_
  refine G_dup (pc := 148) dX9_init_148 rfl ?_
  refine G_bipush (pc := 149) dX9_init_149 rfl ?_
  refine G_callI (pc := 151) (d2 := 2) (mc2 := 1) (ms2 := 32) (As := [_]) dX9_init_151 kX4_init lkX9_15 rfl rfl (Nat.le_of_ble_eq_true rfl) ⟨by decide, by decide⟩ (by decide) ?_
  refine c_X4_T (N := 32) (of_decide_eq_true rfl) rfl (by repeat' first | refine Fr_P ?_ (of_decide_eq_true rfl) | refine Fr_F ?_ (of_decide_eq_true rfl) | exact Z0_fr _) rfl (of_decide_eq_true rfl) ?_
  show G _ _ _ _ _ _ _ _ _ _ _ _ _
  refine S_aast (pc := 154) dX9_init_154 (shT_at (of_decide_eq_true rfl) rfl) rfl (shT_at (of_decide_eq_true rfl) rfl) rfl (by omega) ?_
  refine G_iinc (pc := 155) (ls' := [(2, _), (0, _), (1, _)]) dX9_init_155 rfl (by decide) rfl ?_
  refine G_goto (pc := 158) 134 dX9_init_158 rfl ?_
  skip
  refine G_iload_n (pc := 134) dX9_init_134 rfl ?_
  refine G_bipush (pc := 135) dX9_init_135 rfl ?_
  refine G_icmp_ge_f (pc := 137) 161 dX9_init_137 rfl (by omega) (by decide) ?_
  refine S_aload_n (pc := 140) dX9_init_140 rfl ?_
  refine S_getR (pc := 141) dX9_init_141 fX9_11 (shT_at (of_decide_eq_true rfl) rfl) rfl rfl ?_
  refine G_iload_n (pc := 144) dX9_init_144 rfl ?_
  refine T_new (pc := 145) (ci := 4) dX9_init_145 gcX4 clX9_9 inX4 niX4 (nf_X4 (by repeat' first | refine Fr_P ?_ (of_decide_eq_true rfl) | refine Fr_F ?_ (of_decide_eq_true rfl) | exact Z0_fr _)) (by decide) rfl ?_
  refine G_dup (pc := 148) dX9_init_148 rfl ?_
  refine G_bipush (pc := 149) dX9_init_149 rfl ?_
  refine G_callI (pc := 151) (d2 := 2) (mc2 := 1) (ms2 := 32) (As := [_]) dX9_init_151 kX4_init lkX9_15 rfl rfl (Nat.le_of_ble_eq_true rfl) ⟨by decide, by decide⟩ (by decide) ?_
  refine c_X4_T (N := 32) (of_decide_eq_true rfl) rfl (by repeat' first | refine Fr_P ?_ (of_decide_eq_true rfl) | refine Fr_F ?_ (of_decide_eq_true rfl) | exact Z0_fr _) rfl (of_decide_eq_true rfl) ?_
  show G _ _ _ _ _ _ _ _ _ _ _ _ _
  refine S_aast (pc := 154) dX9_init_154 (shT_at (of_decide_eq_true rfl) rfl) rfl (shT_at (of_decide_eq_true rfl) rfl) rfl (by omega) ?_
  refine G_iinc (pc := 155) (ls' := [(2, _), (0, _), (1, _)]) dX9_init_155 rfl (by decide) rfl ?_
  refine G_goto (pc := 158) 134 dX9_init_158 rfl ?_
  skip
  refine G_iload_n (pc := 134) dX9_init_134 rfl ?_
  refine G_bipush (pc := 135) dX9_init_135 rfl ?_
  refine G_icmp_ge_f (pc := 137) 161 dX9_init_137 rfl (by omega) (by decide) ?_
  refine S_aload_n (pc := 140) dX9_init_140 rfl ?_
  refine S_getR (pc := 141) dX9_init_141 fX9_11 (shT_at (of_decide_eq_true rfl) rfl) rfl rfl ?_
  refine G_iload_n (pc := 144) dX9_init_144 rfl ?_
  refine T_new (pc := 145) (ci := 4) dX9_init_145 gcX4 clX9_9 inX4 niX4 (nf_X4 (by repeat' first | refine Fr_P ?_ (of_decide_eq_true rfl) | refine Fr_F ?_ (of_decide_eq_true rfl) | exact Z0_fr _)) (by decide) rfl ?_
  refine G_dup (pc := 148) dX9_init_148 rfl ?_
  refine G_bipush (pc := 149) dX9_init_149 rfl ?_
  refine G_callI (pc := 151) (d2 := 2) (mc2 := 1) (ms2 := 32) (As := [_]) dX9_init_151 kX4_init lkX9_15 rfl rfl (Nat.le_of_ble_eq_true rfl) ⟨by decide, by decide⟩ (by decide) ?_
  refine c_X4_T (N := 32) (of_decide_eq_true rfl) rfl (by repeat' first | refine Fr_P ?_ (of_decide_eq_true rfl) | refine Fr_F ?_ (of_decide_eq_true rfl) | exact Z0_fr _) rfl (of_decide_eq_true rfl) ?_
  show G _ _ _ _ _ _ _ _ _ _ _ _ _
  refine S_aast (pc := 154) dX9_init_154 (shT_at (of_decide_eq_true rfl) rfl) rfl (shT_at (of_decide_eq_true rfl) rfl) rfl (by omega) ?_
  refine G_iinc (pc := 155) (ls' := [(2, _), (0, _), (1, _)]) dX9_init_155 rfl (by decide) rfl ?_
  refine G_goto (pc := 158) 134 dX9_init_158 rfl ?_
  skip
  refine G_iload_n (pc := 134) dX9_init_134 rfl ?_
  refine G_bipush (pc := 135) dX9_init_135 rfl ?_
  refine G_icmp_ge_f (pc := 137) 161 dX9_init_137 rfl (by omega) (by decide) ?_
  refine S_aload_n (pc := 140) dX9_init_140 rfl ?_
  refine S_getR (pc := 141) dX9_init_141 fX9_11 (shT_at (of_decide_eq_true rfl) rfl) rfl rfl ?_
  refine G_iload_n (pc := 144) dX9_init_144 rfl ?_
  refine T_new (pc := 145) (ci := 4) dX9_init_145 gcX4 clX9_9 inX4 niX4 (nf_X4 (by repeat' first | refine Fr_P ?_ (of_decide_eq_true rfl) | refine Fr_F ?_ (of_decide_eq_true rfl) | exact Z0_fr _)) (by decide) rfl ?_
  refine G_dup (pc := 148) dX9_init_148 rfl ?_
  refine G_bipush (pc := 149) dX9_init_149 rfl ?_
  refine G_callI (pc := 151) (d2 := 2) (mc2 := 1) (ms2 := 32) (As := [_]) dX9_init_151 kX4_init lkX9_15 rfl rfl (Nat.le_of_ble_eq_true rfl) ⟨by decide, by decide⟩ (by decide) ?_
  refine c_X4_T (N := 32) (of_decide_eq_true rfl) rfl (by repeat' first | refine Fr_P ?_ (of_decide_eq_true rfl) | refine Fr_F ?_ (of_decide_eq_true rfl) | exact Z0_fr _) rfl (of_decide_eq_true rfl) ?_
  show G _ _ _ _ _ _ _ _ _ _ _ _ _
  refine S_aast (pc := 154) dX9_init_154 (shT_at (of_decide_eq_true rfl) rfl) rfl (shT_at (of_decide_eq_true rfl) rfl) rfl (by omega) ?_
  refine G_iinc (pc := 155) (ls' := [(2, _), (0, _), (1, _)]) dX9_init_155 rfl (by decide) rfl ?_
  refine G_goto (pc := 158) 134 dX9_init_158 rfl ?_
  skip
  refine G_iload_n (pc := 134) dX9_init_134 rfl ?_
  refine G_bipush (pc := 135) dX9_init_135 rfl ?_
  refine G_icmp_ge_f (pc := 137) 161 dX9_init_137 rfl (by omega) (by decide) ?_
  refine S_aload_n (pc := 140) dX9_init_140 rfl ?_
  refine S_getR (pc := 141) dX9_init_141 fX9_11 (shT_at (of_decide_eq_true rfl) rfl) rfl rfl ?_
  refine G_iload_n (pc := 144) dX9_init_144 rfl ?_
  refine T_new (pc := 145) (ci := 4) dX9_init_145 gcX4 clX9_9 inX4 niX4 (nf_X4 (by repeat' first | refine Fr_P ?_ (of_decide_eq_true rfl) | refine Fr_F ?_ (of_decide_eq_true rfl) | exact Z0_fr _)) (by decide) rfl ?_
  refine G_dup (pc := 148) dX9_init_148 rfl ?_
  refine G_bipush (pc := 149) dX9_init_149 rfl ?_
  refine G_callI (pc := 151) (d2 := 2) (mc2 := 1) (ms2 := 32) (As := [_]) dX9_init_151 kX4_init lkX9_15 rfl rfl (Nat.le_of_ble_eq_true rfl) ⟨by decide, by decide⟩ (by decide) ?_
  refine c_X4_T (N := 32) (of_decide_eq_true rfl) rfl (by repeat' first | refine Fr_P ?_ (of_decide_eq_true rfl) | refine Fr_F ?_ (of_decide_eq_true rfl) | exact Z0_fr _) rfl (of_decide_eq_true rfl) ?_
  show G _ _ _ _ _ _ _ _ _ _ _ _ _
  refine S_aast (pc := 154) dX9_init_154 (shT_at (of_decide_eq_true rfl) rfl) rfl (shT_at (of_decide_eq_true rfl) rfl) rfl (by omega) ?_
  refine G_iinc (pc := 155) (ls' := [(2, _), (0, _), (1, _)]) dX9_init_155 rfl (by decide) rfl ?_
  refine G_goto (pc := 158) 134 dX9_init_158 rfl ?_
  skip
  refine G_iload_n (pc := 134) dX9_init_134 rfl ?_
  refine G_bipush (pc := 135) dX9_init_135 rfl ?_
  refine G_icmp_ge_f (pc := 137) 161 dX9_init_137 rfl (by omega) (by decide) ?_
  refine S_aload_n (pc := 140) dX9_init_140 rfl ?_
  refine S_getR (pc := 141) dX9_init_141 fX9_11 (shT_at (of_decide_eq_true rfl) rfl) rfl rfl ?_
  refine G_iload_n (pc := 144) dX9_init_144 rfl ?_
  refine T_new (pc := 145) (ci := 4) dX9_init_145 gcX4 clX9_9 inX4 niX4 (nf_X4 (by repeat' first | refine Fr_P ?_ (of_decide_eq_true rfl) | refine Fr_F ?_ (of_decide_eq_true rfl) | exact Z0_fr _)) (by decide) rfl ?_
  refine G_dup (pc := 148) dX9_init_148 rfl ?_
  refine G_bipush (pc := 149) dX9_init_149 rfl ?_
  refine G_callI (pc := 151) (d2 := 2) (mc2 := 1) (ms2 := 32) (As := [_]) dX9_init_151 kX4_init lkX9_15 rfl rfl (Nat.le_of_ble_eq_true rfl) ⟨by decide, by decide⟩ (by decide) ?_
  refine c_X4_T (N := 32) (of_decide_eq_true rfl) rfl (by repeat' first | refine Fr_P ?_ (of_decide_eq_true rfl) | refine Fr_F ?_ (of_decide_eq_true rfl) | exact Z0_fr _) rfl (of_decide_eq_true rfl) ?_
  show G _ _ _ _ _ _ _ _ _ _ _ _ _
  refine S_aast (pc := 154) dX9_init_154 (shT_at (of_decide_eq_true rfl) rfl) rfl (shT_at (of_decide_eq_true rfl) rfl) rfl (by omega) ?_
  refine G_iinc (pc := 155) (ls' := [(2, _), (0, _), (1, _)]) dX9_init_155 rfl (by decide) rfl ?_
  refine G_goto (pc := 158) 134 dX9_init_158 rfl ?_
  skip
  refine G_iload_n (pc := 134) dX9_init_134 rfl ?_
  refine G_bipush (pc := 135) dX9_init_135 rfl ?_
  refine G_icmp_ge_f (pc := 137) 161 dX9_init_137 rfl (by omega) (by decide) ?_
  refine S_aload_n (pc := 140) dX9_init_140 rfl ?_
  refine S_getR (pc := 141) dX9_init_141 fX9_11 (shT_at (of_decide_eq_true rfl) rfl) rfl rfl ?_
  refine G_iload_n (pc := 144) dX9_init_144 rfl ?_
  refine T_new (pc := 145) (ci := 4) dX9_init_145 gcX4 clX9_9 inX4 niX4 (nf_X4 (by repeat' first | refine Fr_P ?_ (of_decide_eq_true rfl) | refine Fr_F ?_ (of_decide_eq_true rfl) | exact Z0_fr _)) (by decide) rfl ?_
  refine G_dup (pc := 148) dX9_init_148 rfl ?_
  refine G_bipush (pc := 149) dX9_init_149 rfl ?_
  refine G_callI (pc := 151) (d2 := 2) (mc2 := 1) (ms2 := 32) (As := [_]) dX9_init_151 kX4_init lkX9_15 rfl rfl (Nat.le_of_ble_eq_true rfl) ⟨by decide, by decide⟩ (by decide) ?_
  refine c_X4_T (N := 32) (of_decide_eq_true rfl) rfl (by repeat' first | refine Fr_P ?_ (of_decide_eq_true rfl) | refine Fr_F ?_ (of_decide_eq_true rfl) | exact Z0_fr _) rfl (of_decide_eq_true rfl) ?_
  show G _ _ _ _ _ _ _ _ _ _ _ _ _
  refine S_aast (pc := 154) dX9_init_154 (shT_at (of_decide_eq_true rfl) rfl) rfl (shT_at (of_decide_eq_true rfl) rfl) rfl (by omega) ?_
  refine G_iinc (pc := 155) (ls' := [(2, _), (0, _), (1, _)]) dX9_init_155 rfl (by decide) rfl ?_
  refine G_goto (pc := 158) 134 dX9_init_158 rfl ?_
  skip
  refine G_iload_n (pc := 134) dX9_init_134 rfl ?_
  refine G_bipush (pc := 135) dX9_init_135 rfl ?_
  refine G_icmp_ge_t (pc := 137) 161 dX9_init_137 rfl (by omega) (by decide) ?_
  refine G_iconst (pc := 161) dX9_init_161 ?_
  refine G_istore_n (pc := 162) (ls' := [(2, _), (0, _), (1, _)]) dX9_init_162 (by decide) rfl ?_
  skip
  refine G_iload_n (pc := 163) dX9_init_163 rfl ?_
  refine G_iconst (pc := 164) dX9_init_164 ?_
  refine G_icmp_ge_f (pc := 165) 187 dX9_init_165 rfl (by omega) (by decide) ?_
  refine S_aload_n (pc := 168) dX9_init_168 rfl ?_
  refine S_getR (pc := 169) dX9_init_169 fX9_47 (shT_at (of_decide_eq_true rfl) rfl) rfl rfl ?_
  refine G_iload_n (pc := 172) dX9_init_172 rfl ?_
  refine T_new (pc := 173) (ci := 5) dX9_init_173 gcX5 clX9_45 inX5 niX5 (nf_X5 (by repeat' first | refine Fr_P ?_ (of_decide_eq_true rfl) | refine Fr_F ?_ (of_decide_eq_true rfl) | exact Z0_fr _)) (by decide) rfl ?_
  refine G_dup (pc := 176) dX9_init_176 rfl ?_
  refine G_callIN (pc := 177) (d2 := 1) (mc2 := 1) (ms2 := 40) (As := []) dX9_init_177 kX5_init lkX9_85 rfl rfl (Nat.le_of_ble_eq_true rfl) ⟨by decide, by decide⟩ (by decide) ?_
  refine c_X5_T (of_decide_eq_true rfl) rfl (by repeat' first | refine Fr_P ?_ (of_decide_eq_true rfl) | refine Fr_F ?_ (of_decide_eq_true rfl) | exact Z0_fr _) rfl ?_
  show G _ _ _ _ _ _ _ _ _ _ _ _ _
  refine S_aast (pc := 180) dX9_init_180 (shT_at (of_decide_eq_true rfl) rfl) rfl (shT_at (of_decide_eq_true rfl) rfl) rfl (by omega) ?_
  refine G_iinc (pc := 181) (ls' := [(2, _), (0, _), (1, _)]) dX9_init_181 rfl (by decide) rfl ?_
  refine G_goto (pc := 184) 163 dX9_init_184 rfl ?_
  skip
  refine G_iload_n (pc := 163) dX9_init_163 rfl ?_
  refine G_iconst (pc := 164) dX9_init_164 ?_
  refine G_icmp_ge_f (pc := 165) 187 dX9_init_165 rfl (by omega) (by decide) ?_
  refine S_aload_n (pc := 168) dX9_init_168 rfl ?_
  refine S_getR (pc := 169) dX9_init_169 fX9_47 (shT_at (of_decide_eq_true rfl) rfl) rfl rfl ?_
  refine G_iload_n (pc := 172) dX9_init_172 rfl ?_
  refine T_new (pc := 173) (ci := 5) dX9_init_173 gcX5 clX9_45 inX5 niX5 (nf_X5 (by repeat' first | refine Fr_P ?_ (of_decide_eq_true rfl) | refine Fr_F ?_ (of_decide_eq_true rfl) | exact Z0_fr _)) (by decide) rfl ?_
  refine G_dup (pc := 176) dX9_init_176 rfl ?_
  refine G_callIN (pc := 177) (d2 := 1) (mc2 := 1) (ms2 := 40) (As := []) dX9_init_177 kX5_init lkX9_85 rfl rfl (Nat.le_of_ble_eq_true rfl) ⟨by decide, by decide⟩ (by decide) ?_
  refine c_X5_T (of_decide_eq_true rfl) rfl (by repeat' first | refine Fr_P ?_ (of_decide_eq_true rfl) | refine Fr_F ?_ (of_decide_eq_true rfl) | exact Z0_fr _) rfl ?_
  show G _ _ _ _ _ _ _ _ _ _ _ _ _
  refine S_aast (pc := 180) dX9_init_180 (shT_at (of_decide_eq_true rfl) rfl) rfl (shT_at (of_decide_eq_true rfl) rfl) rfl (by omega) ?_
  refine G_iinc (pc := 181) (ls' := [(2, _), (0, _), (1, _)]) dX9_init_181 rfl (by decide) rfl ?_
  refine G_goto (pc := 184) 163 dX9_init_184 rfl ?_
  skip
  refine G_iload_n (pc := 163) dX9_init_163 rfl ?_
  refine G_iconst (pc := 164) dX9_init_164 ?_
  refine G_icmp_ge_f (pc := 165) 187 dX9_init_165 rfl (by omega) (by decide) ?_
  refine S_aload_n (pc := 168) dX9_init_168 rfl ?_
  refine S_getR (pc := 169) dX9_init_169 fX9_47 (shT_at (of_decide_eq_true rfl) rfl) rfl rfl ?_
  refine G_iload_n (pc := 172) dX9_init_172 rfl ?_
  refine T_new (pc := 173) (ci := 5) dX9_init_173 gcX5 clX9_45 inX5 niX5 (nf_X5 (by repeat' first | refine Fr_P ?_ (of_decide_eq_true rfl) | refine Fr_F ?_ (of_decide_eq_true rfl) | exact Z0_fr _)) (by decide) rfl ?_
  refine G_dup (pc := 176) dX9_init_176 rfl ?_
  refine G_callIN (pc := 177) (d2 := 1) (mc2 := 1) (ms2 := 40) (As := []) dX9_init_177 kX5_init lkX9_85 rfl rfl (Nat.le_of_ble_eq_true rfl) ⟨by decide, by decide⟩ (by decide) ?_
  refine c_X5_T (of_decide_eq_true rfl) rfl (by repeat' first | refine Fr_P ?_ (of_decide_eq_true rfl) | refine Fr_F ?_ (of_decide_eq_true rfl) | exact Z0_fr _) rfl ?_
  show G _ _ _ _ _ _ _ _ _ _ _ _ _
  refine S_aast (pc := 180) dX9_init_180 (shT_at (of_decide_eq_true rfl) rfl) rfl (shT_at (of_decide_eq_true rfl) rfl) rfl (by omega) ?_
  refine G_iinc (pc := 181) (ls' := [(2, _), (0, _), (1, _)]) dX9_init_181 rfl (by decide) rfl ?_
  refine G_goto (pc := 184) 163 dX9_init_184 rfl ?_
  skip
  refine G_iload_n (pc := 163) dX9_init_163 rfl ?_
  refine G_iconst (pc := 164) dX9_init_164 ?_
  refine G_icmp_ge_f (pc := 165) 187 dX9_init_165 rfl (by omega) (by decide) ?_
  refine S_aload_n (pc := 168) dX9_init_168 rfl ?_
  refine S_getR (pc := 169) dX9_init_169 fX9_47 (shT_at (of_decide_eq_true rfl) rfl) rfl rfl ?_
  refine G_iload_n (pc := 172) dX9_init_172 rfl ?_
  refine T_new (pc := 173) (ci := 5) dX9_init_173 gcX5 clX9_45 inX5 niX5 (nf_X5 (by repeat' first | refine Fr_P ?_ (of_decide_eq_true rfl) | refine Fr_F ?_ (of_decide_eq_true rfl) | exact Z0_fr _)) (by decide) rfl ?_
  refine G_dup (pc := 176) dX9_init_176 rfl ?_
  refine G_callIN (pc := 177) (d2 := 1) (mc2 := 1) (ms2 := 40) (As := []) dX9_init_177 kX5_init lkX9_85 rfl rfl (Nat.le_of_ble_eq_true rfl) ⟨by decide, by decide⟩ (by decide) ?_
  refine c_X5_T (of_decide_eq_true rfl) rfl (by repeat' first | refine Fr_P ?_ (of_decide_eq_true rfl) | refine Fr_F ?_ (of_decide_eq_true rfl) | exact Z0_fr _) rfl ?_
  show G _ _ _ _ _ _ _ _ _ _ _ _ _
  refine S_aast (pc := 180) dX9_init_180 (shT_at (of_decide_eq_true rfl) rfl) rfl (shT_at (of_decide_eq_true rfl) rfl) rfl (by omega) ?_
  refine G_iinc (pc := 181) (ls' := [(2, _), (0, _), (1, _)]) dX9_init_181 rfl (by decide) rfl ?_
  refine G_goto (pc := 184) 163 dX9_init_184 rfl ?_
  skip
  refine G_iload_n (pc := 163) dX9_init_163 rfl ?_
  refine G_iconst (pc := 164) dX9_init_164 ?_
  refine G_icmp_ge_t (pc := 165) 187 dX9_init_165 rfl (by omega) (by decide) ?_
  refine G_iconst (pc := 187) dX9_init_187 ?_
  refine G_istore_n (pc := 188) (ls' := [(2, _), (0, _), (1, _)]) dX9_init_188 (by decide) rfl ?_
  skip
  refine G_iload_n (pc := 189) dX9_init_189 rfl ?_
  refine G_bipush (pc := 190) dX9_init_190 rfl ?_
  refine G_icmp_ge_f (pc := 192) 214 dX9_init_192 rfl (by omega) (by decide) ?_
  refine S_aload_n (pc := 195) dX9_init_195 rfl ?_
  refine S_getR (pc := 196) dX9_init_196 fX9_37 (shT_at (of_decide_eq_true rfl) rfl) rfl rfl ?_
  refine G_iload_n (pc := 199) dX9_init_199 rfl ?_
  refine T_new (pc := 200) (ci := 7) dX9_init_200 gcX7 clX9_35 inX7 niX7 (nf_X7 (by repeat' first | refine Fr_P ?_ (of_decide_eq_true rfl) | refine Fr_F ?_ (of_decide_eq_true rfl) | exact Z0_fr _)) (by decide) rfl ?_
  refine G_dup (pc := 203) dX9_init_203 rfl ?_
  refine G_callIN (pc := 204) (d2 := 1) (mc2 := 3) (ms2 := 323) (As := []) dX9_init_204 kX7_init lkX9_86 rfl rfl (Nat.le_of_ble_eq_true rfl) ⟨by decide, by decide⟩ (by decide) ?_
  refine c_X7_T (of_decide_eq_true rfl) rfl (by repeat' first | refine Fr_P ?_ (of_decide_eq_true rfl) | refine Fr_F ?_ (of_decide_eq_true rfl) | exact Z0_fr _) rfl rfl rfl ?_
  show G _ _ _ _ _ _ _ _ _ _ _ _ _
  refine S_aast (pc := 207) dX9_init_207 (shT_at (of_decide_eq_true rfl) rfl) rfl (shT_at (of_decide_eq_true rfl) rfl) rfl (by omega) ?_
  refine G_iinc (pc := 208) (ls' := [(2, _), (0, _), (1, _)]) dX9_init_208 rfl (by decide) rfl ?_
  refine G_goto (pc := 211) 189 dX9_init_211 rfl ?_
  skip
  refine G_iload_n (pc := 189) dX9_init_189 rfl ?_
  refine G_bipush (pc := 190) dX9_init_190 rfl ?_
  refine G_icmp_ge_f (pc := 192) 214 dX9_init_192 rfl (by omega) (by decide) ?_
  refine S_aload_n (pc := 195) dX9_init_195 rfl ?_
  refine S_getR (pc := 196) dX9_init_196 fX9_37 (shT_at (of_decide_eq_true rfl) rfl) rfl rfl ?_
  refine G_iload_n (pc := 199) dX9_init_199 rfl ?_
  refine T_new (pc := 200) (ci := 7) dX9_init_200 gcX7 clX9_35 inX7 niX7 (nf_X7 (by repeat' first | refine Fr_P ?_ (of_decide_eq_true rfl) | refine Fr_F ?_ (of_decide_eq_true rfl) | exact Z0_fr _)) (by decide) rfl ?_
  refine G_dup (pc := 203) dX9_init_203 rfl ?_
  refine G_callIN (pc := 204) (d2 := 1) (mc2 := 3) (ms2 := 323) (As := []) dX9_init_204 kX7_init lkX9_86 rfl rfl (Nat.le_of_ble_eq_true rfl) ⟨by decide, by decide⟩ (by decide) ?_
  refine c_X7_T (of_decide_eq_true rfl) rfl (by repeat' first | refine Fr_P ?_ (of_decide_eq_true rfl) | refine Fr_F ?_ (of_decide_eq_true rfl) | exact Z0_fr _) rfl rfl rfl ?_
  show G _ _ _ _ _ _ _ _ _ _ _ _ _
  refine S_aast (pc := 207) dX9_init_207 (shT_at (of_decide_eq_true rfl) rfl) rfl (shT_at (of_decide_eq_true rfl) rfl) rfl (by omega) ?_
  refine G_iinc (pc := 208) (ls' := [(2, _), (0, _), (1, _)]) dX9_init_208 rfl (by decide) rfl ?_
  refine G_goto (pc := 211) 189 dX9_init_211 rfl ?_
  skip
  refine G_iload_n (pc := 189) dX9_init_189 rfl ?_
  refine G_bipush (pc := 190) dX9_init_190 rfl ?_
  refine G_icmp_ge_f (pc := 192) 214 dX9_init_192 rfl (by omega) (by decide) ?_
  refine S_aload_n (pc := 195) dX9_init_195 rfl ?_
  refine S_getR (pc := 196) dX9_init_196 fX9_37 (shT_at (of_decide_eq_true rfl) rfl) rfl rfl ?_
  refine G_iload_n (pc := 199) dX9_init_199 rfl ?_
  refine T_new (pc := 200) (ci := 7) dX9_init_200 gcX7 clX9_35 inX7 niX7 (nf_X7 (by repeat' first | refine Fr_P ?_ (of_decide_eq_true rfl) | refine Fr_F ?_ (of_decide_eq_true rfl) | exact Z0_fr _)) (by decide) rfl ?_
  refine G_dup (pc := 203) dX9_init_203 rfl ?_
  refine G_callIN (pc := 204) (d2 := 1) (mc2 := 3) (ms2 := 323) (As := []) dX9_init_204 kX7_init lkX9_86 rfl rfl (Nat.le_of_ble_eq_true rfl) ⟨by decide, by decide⟩ (by decide) ?_
  refine c_X7_T (of_decide_eq_true rfl) rfl (by repeat' first | refine Fr_P ?_ (of_decide_eq_true rfl) | refine Fr_F ?_ (of_decide_eq_true rfl) | exact Z0_fr _) rfl rfl rfl ?_
  show G _ _ _ _ _ _ _ _ _ _ _ _ _
  refine S_aast (pc := 207) dX9_init_207 (shT_at (of_decide_eq_true rfl) rfl) rfl (shT_at (of_decide_eq_true rfl) rfl) rfl (by omega) ?_
  refine G_iinc (pc := 208) (ls' := [(2, _), (0, _), (1, _)]) dX9_init_208 rfl (by decide) rfl ?_
  refine G_goto (pc := 211) 189 dX9_init_211 rfl ?_
  skip
  refine G_iload_n (pc := 189) dX9_init_189 rfl ?_
  refine G_bipush (pc := 190) dX9_init_190 rfl ?_
  refine G_icmp_ge_f (pc := 192) 214 dX9_init_192 rfl (by omega) (by decide) ?_
  refine S_aload_n (pc := 195) dX9_init_195 rfl ?_
  refine S_getR (pc := 196) dX9_init_196 fX9_37 (shT_at (of_decide_eq_true rfl) rfl) rfl rfl ?_
  refine G_iload_n (pc := 199) dX9_init_199 rfl ?_
  refine T_new (pc := 200) (ci := 7) dX9_init_200 gcX7 clX9_35 inX7 niX7 (nf_X7 (by repeat' first | refine Fr_P ?_ (of_decide_eq_true rfl) | refine Fr_F ?_ (of_decide_eq_true rfl) | exact Z0_fr _)) (by decide) rfl ?_
  refine G_dup (pc := 203) dX9_init_203 rfl ?_
  refine G_callIN (pc := 204) (d2 := 1) (mc2 := 3) (ms2 := 323) (As := []) dX9_init_204 kX7_init lkX9_86 rfl rfl (Nat.le_of_ble_eq_true rfl) ⟨by decide, by decide⟩ (by decide) ?_
  refine c_X7_T (of_decide_eq_true rfl) rfl (by repeat' first | refine Fr_P ?_ (of_decide_eq_true rfl) | refine Fr_F ?_ (of_decide_eq_true rfl) | exact Z0_fr _) rfl rfl rfl ?_
  show G _ _ _ _ _ _ _ _ _ _ _ _ _
  refine S_aast (pc := 207) dX9_init_207 (shT_at (of_decide_eq_true rfl) rfl) rfl (shT_at (of_decide_eq_true rfl) rfl) rfl (by omega) ?_
  refine G_iinc (pc := 208) (ls' := [(2, _), (0, _), (1, _)]) dX9_init_208 rfl (by decide) rfl ?_
  refine G_goto (pc := 211) 189 dX9_init_211 rfl ?_
  skip
  refine G_iload_n (pc := 189) dX9_init_189 rfl ?_
  refine G_bipush (pc := 190) dX9_init_190 rfl ?_
  refine G_icmp_ge_f (pc := 192) 214 dX9_init_192 rfl (by omega) (by decide) ?_
  refine S_aload_n (pc := 195) dX9_init_195 rfl ?_
  refine S_getR (pc := 196) dX9_init_196 fX9_37 (shT_at (of_decide_eq_true rfl) rfl) rfl rfl ?_
  refine G_iload_n (pc := 199) dX9_init_199 rfl ?_
  refine T_new (pc := 200) (ci := 7) dX9_init_200 gcX7 clX9_35 inX7 niX7 (nf_X7 (by repeat' first | refine Fr_P ?_ (of_decide_eq_true rfl) | refine Fr_F ?_ (of_decide_eq_true rfl) | exact Z0_fr _)) (by decide) rfl ?_
  refine G_dup (pc := 203) dX9_init_203 rfl ?_
  refine G_callIN (pc := 204) (d2 := 1) (mc2 := 3) (ms2 := 323) (As := []) dX9_init_204 kX7_init lkX9_86 rfl rfl (Nat.le_of_ble_eq_true rfl) ⟨by decide, by decide⟩ (by decide) ?_
  refine c_X7_T (of_decide_eq_true rfl) rfl (by repeat' first | refine Fr_P ?_ (of_decide_eq_true rfl) | refine Fr_F ?_ (of_decide_eq_true rfl) | exact Z0_fr _) rfl rfl rfl ?_
  show G _ _ _ _ _ _ _ _ _ _ _ _ _
  refine S_aast (pc := 207) dX9_init_207 (shT_at (of_decide_eq_true rfl) rfl) rfl (shT_at (of_decide_eq_true rfl) rfl) rfl (by omega) ?_
  refine G_iinc (pc := 208) (ls' := [(2, _), (0, _), (1, _)]) dX9_init_208 rfl (by decide) rfl ?_
  refine G_goto (pc := 211) 189 dX9_init_211 rfl ?_
  skip
  refine G_iload_n (pc := 189) dX9_init_189 rfl ?_
  refine G_bipush (pc := 190) dX9_init_190 rfl ?_
  refine G_icmp_ge_f (pc := 192) 214 dX9_init_192 rfl (by omega) (by decide) ?_
  refine S_aload_n (pc := 195) dX9_init_195 rfl ?_
  refine S_getR (pc := 196) dX9_init_196 fX9_37 (shT_at (of_decide_eq_true rfl) rfl) rfl rfl ?_
  refine G_iload_n (pc := 199) dX9_init_199 rfl ?_
  refine T_new (pc := 200) (ci := 7) dX9_init_200 gcX7 clX9_35 inX7 niX7 (nf_X7 (by repeat' first | refine Fr_P ?_ (of_decide_eq_true rfl) | refine Fr_F ?_ (of_decide_eq_true rfl) | exact Z0_fr _)) (by decide) rfl ?_
  refine G_dup (pc := 203) dX9_init_203 rfl ?_
  refine G_callIN (pc := 204) (d2 := 1) (mc2 := 3) (ms2 := 323) (As := []) dX9_init_204 kX7_init lkX9_86 rfl rfl (Nat.le_of_ble_eq_true rfl) ⟨by decide, by decide⟩ (by decide) ?_
  refine c_X7_T (of_decide_eq_true rfl) rfl (by repeat' first | refine Fr_P ?_ (of_decide_eq_true rfl) | refine Fr_F ?_ (of_decide_eq_true rfl) | exact Z0_fr _) rfl rfl rfl ?_
  show G _ _ _ _ _ _ _ _ _ _ _ _ _
  refine S_aast (pc := 207) dX9_init_207 (shT_at (of_decide_eq_true rfl) rfl) rfl (shT_at (of_decide_eq_true rfl) rfl) rfl (by omega) ?_
  refine G_iinc (pc := 208) (ls' := [(2, _), (0, _), (1, _)]) dX9_init_208 rfl (by decide) rfl ?_
  refine G_goto (pc := 211) 189 dX9_init_211 rfl ?_
  skip
  refine G_iload_n (pc := 189) dX9_init_189 rfl ?_
  refine G_bipush (pc := 190) dX9_init_190 rfl ?_
  refine G_icmp_ge_t (pc := 192) 214 dX9_init_192 rfl (by omega) (by decide) ?_
  refine G_ls (ls' := [(0, _)]) (lsub_c rfl lsub_n) ?_
  exact hk
