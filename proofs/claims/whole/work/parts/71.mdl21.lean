/-! the Model: fill -/
/-- i over q, as the Model works it out -/
def bin (i : Int) : Nat → Int
  | 0 => 1
  | q + 1 => bin i q * (i - q) / (q + 1)
theorem bin_all : (List.range 16).all (fun i => (List.range 16).all (fun q => decide (0 ≤ bin (i : Int) q ∧ bin (i : Int) q ≤ 6435))) = true := by decide +kernel
theorem bin_bd {i : Int} {q : Nat} (hi : 0 ≤ i ∧ i ≤ 15) (hq : q ≤ 15) : 0 ≤ bin i q ∧ bin i q ≤ 6435 := by
  obtain ⟨a, rfl⟩ : ∃ a : Nat, i = a := ⟨i.toNat, by omega⟩
  exact of_decide_eq_true (List.all_eq_true.mp (List.all_eq_true.mp bin_all a (List.mem_range.mpr (by omega))) q (List.mem_range.mpr (by omega)))
/-- the numbers of the row of a place: at r, number i -/
def flr (p : Int) (xs : Int → Int) (r i : Int) : Int := if i < tah xs r r.toNat then 0 else bin i (tah xs r r.toNat).toNat % p * (xs r ^ (i - tah xs r r.toNat).toNat % p) % p
def flm (p m : Int) (xs vs : Int → Int) : Int → Int := fun k => if k - 17 * (k / 17) < m then flr p xs (k / 17) (k - 17 * (k / 17)) else if k - 17 * (k / 17) < 16 then 0 else vs (k / 17)
theorem flm_in {p m r i : Int} {xs vs : Int → Int} (hi : 0 ≤ i ∧ i < m) (hm : m ≤ 16) : flm p m xs vs (17 * r + i) = flr p xs r i := by
  unfold flm
  rw [show (17 * r + i) / 17 = r by omega, show 17 * r + i - 17 * r = i by omega, if_pos hi.2]
theorem flm_mid {p m r i : Int} {xs vs : Int → Int} (hi : 0 ≤ i ∧ i < 16) (hm : m ≤ i) : flm p m xs vs (17 * r + i) = 0 := by
  unfold flm
  rw [show (17 * r + i) / 17 = r by omega, show 17 * r + i - 17 * r = i by omega, if_neg (by omega), if_pos hi.2]
theorem flm_end {p m r : Int} {xs vs : Int → Int} (hm : m ≤ 16) : flm p m xs vs (17 * r + 16) = vs r := by
  unfold flm
  rw [show (17 * r + 16) / 17 = r by omega, show 17 * r + 16 - 17 * r = 16 by omega, if_neg (by omega), if_neg (by omega)]
theorem flr_red {p r i : Int} {xs : Int → Int} (hp : 0 < p) : 0 ≤ flr p xs r i ∧ flr p xs r i < p := by
  unfold flr
  split
  · omega
  · exact em_bd hp
theorem flm_red {p m : Int} {xs vs : Int → Int} (hp : 0 < p) (hv : Red p vs) : Red p (flm p m xs vs) := fun k => by
  unfold flm
  split
  · exact flr_red hp
  · split
    · omega
    · exact hv _
set_option maxRecDepth 100000 in
set_option maxHeartbeats 4000000 in
theorem l_X10_fillC {g : GC} {p m r t : Int} {sh : SH} {S : SS} {n : Nat} {Q : Option Value → GA → Nat → Prop} (hW : MdW p sh S) (hV : MpW p sh S m) (hr : 0 ≤ r ∧ r < m)
    (K : G g mX10_fill 4 0 0 61 [(3, .int (iI (tah (S.2.1 105) r r.toNat))), (2, .int (iI r)), (0, gr g 96), (1, .int (iI t))] [] (hp g sh S) n 0 0 Q) : ∀ (k q : Nat), q + k = r → G g mX10_fill 4 0 0 25 [(4, .int (iI q)), (3, .int (iI (tah (S.2.1 105) r q))), (2, .int (iI r)), (0, gr g 96), (1, .int (iI t))] [] (hp g sh S) n 0 0 Q := by
  have hW' := hW
  obtain ⟨hP, h96, hp1, p2, h97, hred⟩ := hW'
  have hV' := hV
  obtain ⟨q30, q31, h105, h106, hm, hmb, r105, r106⟩ := hV'
  have hpb := hP.bd
  intro k
  induction k with
  | zero =>
    intro q hq
    refine G_iload (pc := 25) dX10_fill_25 rfl ?_
    refine G_iload_n (pc := 27) dX10_fill_27 rfl ?_
    refine G_icmp_ge_t (pc := 28) 61 dX10_fill_28 rfl (by omega) (by omega) ?_
    refine G_ls (ls' := [(3, _), (2, _), (0, _), (1, _)]) (lsub_c rfl (lsub_c rfl (lsub_c rfl (lsub_c rfl lsub_n)))) ?_
    rw [show q = r.toNat by omega]
    exact K
  | succ k ih =>
    intro q hq
    have hx := r105 q
    have hy := r105 r
    have hn := ih (q + 1) (by omega)
    rw [show ((q + 1 : Nat) : Int) = q + 1 by omega] at hn
    refine G_iload (pc := 25) dX10_fill_25 rfl ?_
    refine G_iload_n (pc := 27) dX10_fill_27 rfl ?_
    refine G_icmp_ge_f (pc := 28) 61 dX10_fill_28 rfl (by omega) (by omega) ?_
    refine G_iload_n (pc := 31) dX10_fill_31 rfl ?_
    refine S_aload_n (pc := 32) dX10_fill_32 rfl ?_
    refine S_getR (pc := 33) dX10_fill_33 fX10_39 (by assumption) rfl (by assumption) ?_
    refine G_iload (pc := 36) dX10_fill_36 rfl ?_
    refine S_iald (pc := 38) dX10_fill_38 (by assumption) (by omega) ?_
    refine S_aload_n (pc := 39) dX10_fill_39 rfl ?_
    refine S_getR (pc := 40) dX10_fill_40 fX10_39 (by assumption) rfl (by assumption) ?_
    refine G_iload_n (pc := 43) dX10_fill_43 rfl ?_
    refine S_iald (pc := 44) dX10_fill_44 (by assumption) (by omega) ?_
    refine G_icmp_ne (pc := 45) 52 dX10_fill_45 rfl (by omega) (fun c45 => ?_) (fun c45 => ?_)
    · skip
      refine G_iconst (pc := 52) dX10_fill_52 ?_
      refine G_iadd (pc := 53) dX10_fill_53 ?_
      refine G_istore_n (pc := 54) (ls' := [(3, _), (4, _), (2, _), (0, _), (1, _)]) dX10_fill_54 (by decide) rfl ?_
      refine G_iinc (pc := 55) (ls' := [(4, _), (3, _), (2, _), (0, _), (1, _)]) dX10_fill_55 rfl (by decide) rfl ?_
      refine G_goto (pc := 58) 25 dX10_fill_58 rfl ?_
      unfold tah at hn
      first | (rw [if_pos (by omega)] at hn; exact hn) | (rw [if_neg (by omega)] at hn; exact hn)
    · skip
      refine G_iconst (pc := 48) dX10_fill_48 ?_
      refine G_goto (pc := 49) 53 dX10_fill_49 rfl ?_
      refine G_iadd (pc := 53) dX10_fill_53 ?_
      refine G_istore_n (pc := 54) (ls' := [(3, _), (4, _), (2, _), (0, _), (1, _)]) dX10_fill_54 (by decide) rfl ?_
      refine G_iinc (pc := 55) (ls' := [(4, _), (3, _), (2, _), (0, _), (1, _)]) dX10_fill_55 rfl (by decide) rfl ?_
      refine G_goto (pc := 58) 25 dX10_fill_58 rfl ?_
      unfold tah at hn
      first | (rw [if_pos (by omega)] at hn; exact hn) | (rw [if_neg (by omega)] at hn; exact hn)
set_option maxRecDepth 100000 in
set_option maxHeartbeats 4000000 in
theorem l_X10_fillB {g : GC} {i c r t : Int} {sh : SH} {S : SS} {n : Nat} {Q : Option Value → GA → Nat → Prop} (h96 : sh 96 = some (.inl 10)) (hi : 0 ≤ i ∧ i ≤ 15) (hc : 0 ≤ c ∧ c ≤ i)
    (K : G g mX10_fill 4 0 0 124 [(5, .long (iL (bin i c.toNat))), (4, .int (iI i)), (3, .int (iI c)), (2, .int (iI r)), (0, gr g 96), (1, .int (iI t))] [] (hp g sh S) n 0 0 Q) : ∀ (k q : Nat), q + k = c → G g mX10_fill 4 0 0 89 [(7, .int (iI q)), (5, .long (iL (bin i q))), (4, .int (iI i)), (3, .int (iI c)), (2, .int (iI r)), (0, gr g 96), (1, .int (iI t))] [] (hp g sh S) n 0 0 Q := by
  intro k
  induction k with
  | zero =>
    intro q hq
    refine G_iload (pc := 89) dX10_fill_89 rfl ?_
    refine G_iload_n (pc := 91) dX10_fill_91 rfl ?_
    refine G_icmp_ge_t (pc := 92) 124 dX10_fill_92 rfl (by omega) (by omega) ?_
    refine G_ls (ls' := [(5, _), (4, _), (3, _), (2, _), (0, _), (1, _)]) (lsub_c rfl (lsub_c rfl (lsub_c rfl (lsub_c rfl (lsub_c rfl (lsub_c rfl lsub_n)))))) ?_
    rw [show q = c.toNat by omega]
    exact K
  | succ k ih =>
    intro q hq
    have hb := bin_bd (q := q) hi (by omega)
    have hm : 0 ≤ bin i q * (i - q) ∧ bin i q * (i - q) ≤ 6435 * 15 := ⟨Int.mul_nonneg hb.1 (by omega), Int.mul_le_mul hb.2 (by omega) (by omega) (by omega)⟩
    have hn := ih (q + 1) (by omega)
    rw [show ((q + 1 : Nat) : Int) = q + 1 by omega, show bin i (q + 1) = bin i q * (i - q) / (q + 1) from rfl] at hn
    refine G_iload (pc := 89) dX10_fill_89 rfl ?_
    refine G_iload_n (pc := 91) dX10_fill_91 rfl ?_
    refine G_icmp_ge_f (pc := 92) 124 dX10_fill_92 rfl (by omega) (by omega) ?_
    refine G_iload (pc := 95) dX10_fill_95 rfl ?_
    refine G_iload_n (pc := 97) dX10_fill_97 rfl ?_
    refine G_icmp_lt_f (pc := 98) 124 dX10_fill_98 rfl (by omega) (by omega) ?_
    refine G_lload (pc := 101) dX10_fill_101 rfl ?_
    refine G_iload (pc := 103) dX10_fill_103 rfl ?_
    refine G_iload (pc := 105) dX10_fill_105 rfl ?_
    refine G_isub (pc := 107) dX10_fill_107 ?_
    refine G_i2l (pc := 108) dX10_fill_108 (by omega) ?_
    refine G_lmul (pc := 109) dX10_fill_109 ?_
    refine G_iload (pc := 110) dX10_fill_110 rfl ?_
    refine G_iconst (pc := 112) dX10_fill_112 ?_
    refine G_iadd (pc := 113) dX10_fill_113 ?_
    refine G_i2l (pc := 114) dX10_fill_114 (by omega) ?_
    refine G_ldiv (pc := 115) dX10_fill_115 (by omega) ?_
    rw [Int.tdiv_eq_ediv_of_nonneg hm.1]
    refine G_lstore (pc := 116) (ls' := [(5, _), (7, _), (4, _), (3, _), (2, _), (0, _), (1, _)]) dX10_fill_116 (by decide) rfl ?_
    refine G_iinc (pc := 118) (ls' := [(7, _), (5, _), (4, _), (3, _), (2, _), (0, _), (1, _)]) dX10_fill_118 rfl (by decide) rfl ?_
    refine G_goto (pc := 121) 89 dX10_fill_121 rfl ?_
    exact hn
set_option maxRecDepth 100000 in
set_option maxHeartbeats 4000000 in
theorem l_X10_fillI {g : GC} {p m r t : Int} {sh : SH} {S : SS} {n : Nat} {X A : Int → Int} {Q : Option Value → GA → Nat → Prop} (hW : MdW p sh S) (hV : MpW p sh S m) (hR : MrW p sh S) (hr : 0 ≤ r ∧ r < m) (hX : X = flm p m (S.2.1 105) (S.2.1 106))
    (K : G g mX10_fill 4 0 0 181 [(3, .int (iI (tah (S.2.1 105) r r.toNat))), (2, .int (iI r)), (0, gr g 96), (1, .int (iI t))] [] (hp g sh (putA S 107 (seg 0 (17 * r + m) X A))) n 0 0 Q) : ∀ (k : Nat) (i : Int), i + k = m → 0 ≤ i → G g mX10_fill 4 0 0 64 [(4, .int (iI i)), (3, .int (iI (tah (S.2.1 105) r r.toNat))), (2, .int (iI r)), (0, gr g 96), (1, .int (iI t))] [] (hp g sh (putA S 107 (seg 0 (17 * r + i) X A))) n 0 0 Q := by
  have hW' := hW
  obtain ⟨hP, h96, hp1, p2, h97, hred⟩ := hW'
  have hV' := hV
  obtain ⟨q30, q31, h105, h106, hm, hmb, r105, r106⟩ := hV'
  have hR' := hR
  obtain ⟨q32, q33, h107, h108, r107⟩ := hR'
  have hpb := hP.bd
  have htb := tah_bd (xs := S.2.1 105) (pl := r) r.toNat
  intro k
  induction k with
  | zero =>
    intro i hi h0
    have e : (putA S 107 (seg 0 (17 * r + i) X A)).1 96 29 = m := hm
    refine G_iload (pc := 64) dX10_fill_64 rfl ?_
    refine S_aload_n (pc := 66) dX10_fill_66 rfl ?_
    refine S_getI (pc := 67) dX10_fill_67 fX10_284 (by assumption) rfl ?_
    rw [e]
    refine G_icmp_ge_t (pc := 70) 181 dX10_fill_70 rfl (by omega) (by omega) ?_
    refine G_ls (ls' := [(3, _), (2, _), (0, _), (1, _)]) (lsub_c rfl (lsub_c rfl (lsub_c rfl (lsub_c rfl lsub_n)))) ?_
    rw [show i = m by omega]
    exact K
  | succ k ih =>
    intro i hi h0
    have e : (putA S 107 (seg 0 (17 * r + i) X A)).1 96 29 = m := hm
    have hn := ih (i + 1) (by omega) (by omega)
    have hv : flr p (S.2.1 105) r i = X (17 * r + i) := by rw [hX, flm_in (by omega) (by omega)]
    rw [show 17 * r + (i + 1) = 17 * r + i + 1 by omega, ← seg_S (by omega), ← hv] at hn
    unfold flr at hn
    by_cases hc : i < tah (S.2.1 105) r r.toNat
    · rw [if_pos hc] at hn
      refine G_iload (pc := 64) dX10_fill_64 rfl ?_
      refine S_aload_n (pc := 66) dX10_fill_66 rfl ?_
      refine S_getI (pc := 67) dX10_fill_67 fX10_284 (by assumption) rfl ?_
      rw [e]
      refine G_icmp_ge_f (pc := 70) 181 dX10_fill_70 rfl (by omega) (by omega) ?_
      refine G_iload (pc := 73) dX10_fill_73 rfl ?_
      refine G_iload_n (pc := 75) dX10_fill_75 rfl ?_
      refine G_icmp_ge_f (pc := 76) 83 dX10_fill_76 rfl (by omega) (by omega) ?_
      refine G_lconst (pc := 79) (v := 0) dX10_fill_79 rfl ?_
      refine G_goto (pc := 80) 84 dX10_fill_80 rfl ?_
      refine G_lstore (pc := 84) (ls' := [(5, _), (4, _), (3, _), (2, _), (0, _), (1, _)]) dX10_fill_84 (by decide) rfl ?_
      refine G_iconst (pc := 86) dX10_fill_86 ?_
      refine G_istore (pc := 87) (ls' := [(7, _), (5, _), (4, _), (3, _), (2, _), (0, _), (1, _)]) dX10_fill_87 (by decide) rfl ?_
      refine G_iload (pc := 89) dX10_fill_89 rfl ?_
      refine G_iload_n (pc := 91) dX10_fill_91 rfl ?_
      refine G_icmp_ge_f (pc := 92) 124 dX10_fill_92 rfl (by omega) (by omega) ?_
      refine G_iload (pc := 95) dX10_fill_95 rfl ?_
      refine G_iload_n (pc := 97) dX10_fill_97 rfl ?_
      refine G_icmp_lt_t (pc := 98) 124 dX10_fill_98 rfl (by omega) (by omega) ?_
      refine S_aload_n (pc := 124) dX10_fill_124 rfl ?_
      refine S_getR (pc := 125) dX10_fill_125 fX10_45 (by assumption) rfl (by assumption) ?_
      refine G_bipush (pc := 128) dX10_fill_128 rfl ?_
      refine G_iload_n (pc := 130) dX10_fill_130 rfl ?_
      refine G_imul (pc := 131) dX10_fill_131 ?_
      refine G_iload (pc := 132) dX10_fill_132 rfl ?_
      refine G_iadd (pc := 134) dX10_fill_134 ?_
      refine G_iload (pc := 135) dX10_fill_135 rfl ?_
      refine G_iload_n (pc := 137) dX10_fill_137 rfl ?_
      refine G_icmp_ge_f (pc := 138) 145 dX10_fill_138 rfl (by omega) (by omega) ?_
      refine G_iconst (pc := 141) dX10_fill_141 ?_
      refine G_goto (pc := 142) 174 dX10_fill_142 rfl ?_
      refine S_iast (pc := 174) dX10_fill_174 (by assumption) (by omega) ?_
      refine G_iinc (pc := 175) (ls' := [(4, _), (7, _), (5, _), (3, _), (2, _), (0, _), (1, _)]) dX10_fill_175 rfl (by decide) rfl ?_
      refine G_goto (pc := 178) 64 dX10_fill_178 rfl ?_
      refine G_ls (ls' := [(4, _), (3, _), (2, _), (0, _), (1, _)]) (lsub_c rfl (lsub_c rfl (lsub_c rfl (lsub_c rfl (lsub_c rfl lsub_n))))) ?_
      rw [setA_putA]
      exact hn
    · rw [if_neg hc] at hn
      have hb := bin_bd (i := i) (q := (tah (S.2.1 105) r r.toNat).toNat) (by omega) (by omega)
      have hbm := em_bd (z := bin i (tah (S.2.1 105) r r.toNat).toNat) (p := p) (by omega)
      have e1 : (putA S 107 (seg 0 (17 * r + i) X A)).1 96 1 = p := hp1
      have e5 : (putA S 107 (seg 0 (17 * r + i) X A)).2.1 105 r = S.2.1 105 r := by rw [putA_ne (by decide)]
      have hx := r105 r
      have hpw := em_bd (z := S.2.1 105 r ^ (i - tah (S.2.1 105) r r.toNat).toNat) (p := p) (by omega)
      have hmm := mul_bd hbm hpw hpb.2
      have K124 : G g mX10_fill 4 0 0 124 [(5, .long (iL (bin i (tah (S.2.1 105) r r.toNat).toNat))), (4, .int (iI i)), (3, .int (iI (tah (S.2.1 105) r r.toNat))), (2, .int (iI r)), (0, gr g 96), (1, .int (iI t))] [] (hp g sh (putA S 107 (seg 0 (17 * r + i) X A))) n 0 0 Q := by
        refine S_aload_n (pc := 124) dX10_fill_124 rfl ?_
        refine S_getR (pc := 125) dX10_fill_125 fX10_45 (by assumption) rfl (by assumption) ?_
        refine G_bipush (pc := 128) dX10_fill_128 rfl ?_
        refine G_iload_n (pc := 130) dX10_fill_130 rfl ?_
        refine G_imul (pc := 131) dX10_fill_131 ?_
        refine G_iload (pc := 132) dX10_fill_132 rfl ?_
        refine G_iadd (pc := 134) dX10_fill_134 ?_
        refine G_iload (pc := 135) dX10_fill_135 rfl ?_
        refine G_iload_n (pc := 137) dX10_fill_137 rfl ?_
        refine G_icmp_ge_t (pc := 138) 145 dX10_fill_138 rfl (by omega) (by omega) ?_
        refine G_lload (pc := 145) dX10_fill_145 rfl ?_
        refine S_aload_n (pc := 147) dX10_fill_147 rfl ?_
        refine S_getI (pc := 148) dX10_fill_148 fX10_64 (by assumption) rfl ?_
        rw [e1]
        refine G_i2l (pc := 151) dX10_fill_151 (by omega) ?_
        refine G_lrem (pc := 152) dX10_fill_152 (by omega) ?_
        rw [Int.tmod_eq_emod_of_nonneg hb.1]
        refine G_l2i (pc := 153) dX10_fill_153 ?_
        refine S_aload_n (pc := 154) dX10_fill_154 rfl ?_
        refine S_aload_n (pc := 155) dX10_fill_155 rfl ?_
        refine S_getR (pc := 156) dX10_fill_156 fX10_39 (by assumption) rfl (by assumption) ?_
        refine G_iload_n (pc := 159) dX10_fill_159 rfl ?_
        refine S_iald (pc := 160) dX10_fill_160 (by assumption) (by omega) ?_
        rw [e5]
        refine G_iload (pc := 161) dX10_fill_161 rfl ?_
        refine G_iload_n (pc := 163) dX10_fill_163 rfl ?_
        refine G_isub (pc := 164) dX10_fill_164 ?_
        refine S_callV (pc := 165) (ci := 10) (d2 := 1) (mc2 := 0) (ms2 := 0) (As := [_, _]) dX10_fill_165 kX10_raised lkX10_82 (by assumption) rfl rfl rfl (Nat.le_of_ble_eq_true rfl) ⟨by decide, by decide⟩ (by decide) ?_
        refine c_X10_raised (MdW_putA hW (by decide)) hx (by omega) ?_
        show G _ _ _ _ _ _ _ _ _ _ _ _ _
        refine G_imul (pc := 168) dX10_fill_168 ?_
        refine S_aload_n (pc := 169) dX10_fill_169 rfl ?_
        refine S_getI (pc := 170) dX10_fill_170 fX10_64 (by assumption) rfl ?_
        rw [e1]
        refine G_iremP (pc := 173) dX10_fill_173 (by omega) ?_
        refine S_iast (pc := 174) dX10_fill_174 (by assumption) (by omega) ?_
        refine G_iinc (pc := 175) (ls' := [(4, _), (5, _), (3, _), (2, _), (0, _), (1, _)]) dX10_fill_175 rfl (by decide) rfl ?_
        refine G_goto (pc := 178) 64 dX10_fill_178 rfl ?_
        refine G_ls (ls' := [(4, _), (3, _), (2, _), (0, _), (1, _)]) (lsub_c rfl (lsub_c rfl (lsub_c rfl (lsub_c rfl (lsub_c rfl lsub_n))))) ?_
        rw [setA_putA]
        exact hn
      have hB := l_X10_fillB (r := r) (t := t) h96 (by omega) (by omega) K124 (tah (S.2.1 105) r r.toNat).toNat 0 (by omega)
      refine G_iload (pc := 64) dX10_fill_64 rfl ?_
      refine S_aload_n (pc := 66) dX10_fill_66 rfl ?_
      refine S_getI (pc := 67) dX10_fill_67 fX10_284 (by assumption) rfl ?_
      rw [e]
      refine G_icmp_ge_f (pc := 70) 181 dX10_fill_70 rfl (by omega) (by omega) ?_
      refine G_iload (pc := 73) dX10_fill_73 rfl ?_
      refine G_iload_n (pc := 75) dX10_fill_75 rfl ?_
      refine G_icmp_ge_t (pc := 76) 83 dX10_fill_76 rfl (by omega) (by omega) ?_
      refine G_lconst (pc := 83) (v := 1) dX10_fill_83 rfl ?_
      refine G_lstore (pc := 84) (ls' := [(5, _), (4, _), (3, _), (2, _), (0, _), (1, _)]) dX10_fill_84 (by decide) rfl ?_
      refine G_iconst (pc := 86) dX10_fill_86 ?_
      refine G_istore (pc := 87) (ls' := [(7, _), (5, _), (4, _), (3, _), (2, _), (0, _), (1, _)]) dX10_fill_87 (by decide) rfl ?_
      exact hB
set_option maxRecDepth 100000 in
set_option maxHeartbeats 4000000 in
theorem l_X10_fillZ {g : GC} {p m r t : Int} {sh : SH} {S : SS} {n : Nat} {X A : Int → Int} {kv : Value} {Q : Option Value → GA → Nat → Prop} (hW : MdW p sh S) (hV : MpW p sh S m) (hR : MrW p sh S) (hr : 0 ≤ r ∧ r < m) (hX : X = flm p m (S.2.1 105) (S.2.1 106))
    (K : G g mX10_fill 4 0 0 213 [(2, .int (iI r)), (0, gr g 96), (1, .int (iI t))] [] (hp g sh (putA S 107 (seg 0 (17 * r + 16) X A))) n 0 0 Q) : ∀ (k : Nat) (i : Int), i + k = 16 → m ≤ i → G g mX10_fill 4 0 0 187 [(4, .int (iI i)), (2, .int (iI r)), (0, gr g 96), (1, .int (iI t))] [] (hp g sh (putA S 107 (seg 0 (17 * r + i) X A))) n 0 0 Q := by
  have hW' := hW
  obtain ⟨hP, h96, hp1, p2, h97, hred⟩ := hW'
  have hV' := hV
  obtain ⟨q30, q31, h105, h106, hm, hmb, r105, r106⟩ := hV'
  have hR' := hR
  obtain ⟨q32, q33, h107, h108, r107⟩ := hR'
  intro k
  induction k with
  | zero =>
    intro i hi h0
    refine G_iload (pc := 187) dX10_fill_187 rfl ?_
    refine G_bipush (pc := 189) dX10_fill_189 rfl ?_
    refine G_icmp_ge_t (pc := 191) 213 dX10_fill_191 rfl (by omega) (by omega) ?_
    refine G_ls (ls' := [(2, _), (0, _), (1, _)]) (lsub_c rfl (lsub_c rfl (lsub_c rfl lsub_n))) ?_
    rw [show i = 16 by omega]
    exact K
  | succ k ih =>
    intro i hi h0
    have hn := ih (i + 1) (by omega) (by omega)
    rw [show 17 * r + (i + 1) = 17 * r + i + 1 by omega, ← seg_S (by omega), hX, flm_mid (by omega) (by omega), ← hX] at hn
    refine G_iload (pc := 187) dX10_fill_187 rfl ?_
    refine G_bipush (pc := 189) dX10_fill_189 rfl ?_
    refine G_icmp_ge_f (pc := 191) 213 dX10_fill_191 rfl (by omega) (by omega) ?_
    refine S_aload_n (pc := 194) dX10_fill_194 rfl ?_
    refine S_getR (pc := 195) dX10_fill_195 fX10_45 (by assumption) rfl (by assumption) ?_
    refine G_bipush (pc := 198) dX10_fill_198 rfl ?_
    refine G_iload_n (pc := 200) dX10_fill_200 rfl ?_
    refine G_imul (pc := 201) dX10_fill_201 ?_
    refine G_iload (pc := 202) dX10_fill_202 rfl ?_
    refine G_iadd (pc := 204) dX10_fill_204 ?_
    refine G_iconst (pc := 205) dX10_fill_205 ?_
    refine S_iast (pc := 206) dX10_fill_206 (by assumption) (by omega) ?_
    refine G_iinc (pc := 207) (ls' := [(4, _), (2, _), (0, _), (1, _)]) dX10_fill_207 rfl (by decide) rfl ?_
    refine G_goto (pc := 210) 187 dX10_fill_210 rfl ?_
    rw [setA_putA]
    exact hn
set_option maxRecDepth 100000 in
set_option maxHeartbeats 4000000 in
theorem l_X10_fill {g : GC} {p m t : Int} {sh : SH} {S : SS} {n : Nat} {X A : Int → Int} {Q : Option Value → GA → Nat → Prop} (hW : MdW p sh S) (hV : MpW p sh S m) (hR : MrW p sh S) (hX : X = flm p m (S.2.1 105) (S.2.1 106)) (hA : Red p A)
    (K : G g mX10_fill 4 0 0 237 [(0, gr g 96), (1, .int (iI t))] [] (hp g sh (putA S 107 (seg 0 (17 * m) X A))) n 0 0 Q) : ∀ (k : Nat) (r : Int), r + k = m → 0 ≤ r → G g mX10_fill 4 0 0 12 [(2, .int (iI r)), (0, gr g 96), (1, .int (iI t))] [] (hp g sh (putA S 107 (seg 0 (17 * r) X A))) n 0 0 Q := by
  have hW' := hW
  obtain ⟨hP, h96, hp1, p2, h97, hred⟩ := hW'
  have hV' := hV
  obtain ⟨q30, q31, h105, h106, hm, hmb, r105, r106⟩ := hV'
  have hR' := hR
  obtain ⟨q32, q33, h107, h108, r107⟩ := hR'
  have hpb := hP.bd
  intro k
  induction k with
  | zero =>
    intro r hr h0
    have e : (putA S 107 (seg 0 (17 * r) X A)).1 96 29 = m := hm
    refine G_iload_n (pc := 12) dX10_fill_12 rfl ?_
    refine S_aload_n (pc := 13) dX10_fill_13 rfl ?_
    refine S_getI (pc := 14) dX10_fill_14 fX10_284 (by assumption) rfl ?_
    rw [e]
    refine G_icmp_ge_t (pc := 17) 237 dX10_fill_17 rfl (by omega) (by omega) ?_
    refine G_ls (ls' := [(0, _), (1, _)]) (lsub_c rfl (lsub_c rfl lsub_n)) ?_
    rw [show r = m by omega]
    exact K
  | succ k ih =>
    intro r hr h0
    have e : (putA S 107 (seg 0 (17 * r) X A)).1 96 29 = m := hm
    have hXr : Red p X := by rw [hX]; exact flm_red (by omega) r106
    have hn := ih (r + 1) (by omega) (by omega)
    rw [show 17 * (r + 1) = 17 * r + 16 + 1 by omega, ← seg_S (by omega)] at hn
    have K213 : G g mX10_fill 4 0 0 213 [(2, .int (iI r)), (0, gr g 96), (1, .int (iI t))] [] (hp g sh (putA S 107 (seg 0 (17 * r + 16) X A))) n 0 0 Q := by
      have e6 : (putA S 107 (seg 0 (17 * r + 16) X A)).2.1 106 r = X (17 * r + 16) := by rw [putA_ne (by decide), hX, flm_end (by omega)]
      refine S_aload_n (pc := 213) dX10_fill_213 rfl ?_
      refine S_getR (pc := 214) dX10_fill_214 fX10_45 (by assumption) rfl (by assumption) ?_
      refine G_bipush (pc := 217) dX10_fill_217 rfl ?_
      refine G_iload_n (pc := 219) dX10_fill_219 rfl ?_
      refine G_imul (pc := 220) dX10_fill_220 ?_
      refine G_bipush (pc := 221) dX10_fill_221 rfl ?_
      refine G_iadd (pc := 223) dX10_fill_223 ?_
      refine S_aload_n (pc := 224) dX10_fill_224 rfl ?_
      refine S_getR (pc := 225) dX10_fill_225 fX10_42 (by assumption) rfl (by assumption) ?_
      refine G_iload_n (pc := 228) dX10_fill_228 rfl ?_
      refine S_iald (pc := 229) dX10_fill_229 (by assumption) (by omega) ?_
      rw [e6]
      refine S_iast (pc := 230) dX10_fill_230 (by assumption) (by omega) ?_
      refine G_iinc (pc := 231) (ls' := [(2, _), (0, _), (1, _)]) dX10_fill_231 rfl (by decide) rfl ?_
      refine G_goto (pc := 234) 12 dX10_fill_234 rfl ?_
      rw [setA_putA]
      exact hn
    have hz := l_X10_fillZ (A := A) (kv := .int 0) hW hV hR ⟨h0, by omega⟩ hX K213 (16 - m).toNat m (by omega) (Int.le_refl _)
    have e2 : (putA S 107 (seg 0 (17 * r + m) X A)).1 96 29 = m := hm
    have K181 : G g mX10_fill 4 0 0 181 [(3, .int (iI (tah (S.2.1 105) r r.toNat))), (2, .int (iI r)), (0, gr g 96), (1, .int (iI t))] [] (hp g sh (putA S 107 (seg 0 (17 * r + m) X A))) n 0 0 Q := by
      refine S_aload_n (pc := 181) dX10_fill_181 rfl ?_
      refine S_getI (pc := 182) dX10_fill_182 fX10_284 (by assumption) rfl ?_
      rw [e2]
      refine G_istore (pc := 185) (ls' := [(4, _), (3, _), (2, _), (0, _), (1, _)]) dX10_fill_185 (by decide) rfl ?_
      refine G_ls (ls' := [(4, _), (2, _), (0, _), (1, _)]) (lsub_c rfl (lsub_c rfl (lsub_c rfl (lsub_c rfl lsub_n)))) ?_
      exact hz
    have hi := l_X10_fillI (A := A) hW hV hR ⟨h0, by omega⟩ hX K181 m.toNat 0 (by omega) (Int.le_refl _)
    rw [Int.add_zero] at hi
    have K61 : G g mX10_fill 4 0 0 61 [(3, .int (iI (tah ((putA S 107 (seg 0 (17 * r) X A)).2.1 105) r r.toNat))), (2, .int (iI r)), (0, gr g 96), (1, .int (iI t))] [] (hp g sh (putA S 107 (seg 0 (17 * r) X A))) n 0 0 Q := by
      rw [putA_ne (a := 107) (b := 105) (by decide)]
      refine G_iconst (pc := 61) dX10_fill_61 ?_
      refine G_istore (pc := 62) (ls' := [(4, _), (3, _), (2, _), (0, _), (1, _)]) dX10_fill_62 (by decide) rfl ?_
      exact hi
    have hc := l_X10_fillC (S := putA S 107 (seg 0 (17 * r) X A)) (MdW_putA hW (by decide)) (MpW_scr (MScr_107 MScr_rf (by rw [hp1]; exact seg_red hXr hA)) hV) ⟨h0, by omega⟩ K61 r.toNat 0 (by omega)
    refine G_iload_n (pc := 12) dX10_fill_12 rfl ?_
    refine S_aload_n (pc := 13) dX10_fill_13 rfl ?_
    refine S_getI (pc := 14) dX10_fill_14 fX10_284 (by assumption) rfl ?_
    rw [e]
    refine G_icmp_ge_f (pc := 17) 237 dX10_fill_17 rfl (by omega) (by omega) ?_
    refine G_iconst (pc := 20) dX10_fill_20 ?_
    refine G_istore_n (pc := 21) (ls' := [(3, _), (2, _), (0, _), (1, _)]) dX10_fill_21 (by decide) rfl ?_
    refine G_iconst (pc := 22) dX10_fill_22 ?_
    refine G_istore (pc := 23) (ls' := [(4, _), (3, _), (2, _), (0, _), (1, _)]) dX10_fill_23 (by decide) rfl ?_
    exact hc
theorem Sol_congr {p many U : Int} {A B x : Int → Int} (hU : 0 ≤ U ∧ U ≤ 16) (h : ∀ r : Int, 0 ≤ r → r < many → ∀ j : Int, 0 ≤ j → j ≤ 16 → A (17 * r + j) = B (17 * r + j)) : Sol p many U A x ↔ Sol p many U B x := by
  have e : ∀ r : Int, 0 ≤ r → r < many → rwv A x U r = rwv B x U r := fun r h0 h1 => by
    unfold rwv
    rw [h r h0 h1 16 (by omega) (by omega), csum_congr (fun j k1 k2 => by show A (17 * r + j) * x j = B (17 * r + j) * x j; rw [h r h0 h1 j k1 (by omega)])]
  exact ⟨fun q r h0 h1 => e r h0 h1 ▸ q r h0 h1, fun q r h0 h1 => (e r h0 h1).symm ▸ q r h0 h1⟩
set_option maxRecDepth 100000 in
set_option maxHeartbeats 4000000 in
theorem c_X10_fill {g : GC} {p m t : Int} {sh : SH} {S : SS} {n : Nat} {Q : Option Value → GA → Nat → Prop} (hW : MdW p sh S) (hV : MpW p sh S m) (hR : MrW p sh S) (ht : -2147483648 ≤ t ∧ t ≤ 2147483647) (hex : ∃ x : Int → Int, Sol p m m (flm p m (S.2.1 105) (S.2.1 106)) x) (h0 : ¬ (0 ≤ t ∧ t < 8) → Q (some (.int (iI (-2)))) (hp g sh S) n)
    (h1 : (0 ≤ t ∧ t < 8) → ∀ (S' : SS) (x : Int → Int), MScr S S' → MdW p sh S' → MrW p sh S' → Red p x → (∀ j : Int, (j < 0 ∨ m ≤ j) → x j = 0) → Sol p m m (flm p m (S.2.1 105) (S.2.1 106)) x → Q (some (.int (iI (plen x 80)))) (hp g sh (mset S' t x)) n) : GCall g mX10_fill 4 0 0 [gr g 96, .int (iI t)] (hp g sh S) n Q := by
  have hW' := hW
  obtain ⟨hP, h96, hp1, p2, h97, hred⟩ := hW'
  have hV' := hV
  obtain ⟨q30, q31, h105, h106, hm, hmb, r105, r106⟩ := hV'
  have hpb := hP.bd
  have hXr : Red p (flm p m (S.2.1 105) (S.2.1 106)) := flm_red (by omega) r106
  have hFr : Red p (seg 0 (17 * m) (flm p m (S.2.1 105) (S.2.1 106)) (S.2.1 107)) := seg_red hXr hR.2.2.2.2
  have hcg : ∀ x : Int → Int, Sol p m m ((putA S 107 (seg 0 (17 * m) (flm p m (S.2.1 105) (S.2.1 106)) (S.2.1 107))).2.1 107) x ↔ Sol p m m (flm p m (S.2.1 105) (S.2.1 106)) x := fun x => by
    rw [putA_at]
    exact Sol_congr (by omega) (fun r g1 g2 j g3 g4 => seg_in (by omega))
  refine GCall.of (by decide) (Nat.le_of_ble_eq_true rfl) (ls := [(0, _), (1, _)]) rfl ?_
  have hgo : (0 ≤ t ∧ t < 8) → ∀ (S' : SS) (x : Int → Int) (v : Int), MScr S S' → MdW p sh S' → MrW p sh S' → mg S' 8 = x → Red p x → (∀ j : Int, (j < 0 ∨ m ≤ j) → x j = 0) → Sol p m m (flm p m (S.2.1 105) (S.2.1 106)) x → G g mX10_fill 4 0 0 251 [(0, gr g 96), (1, .int (iI t))] [.int (iI v)] (hp g sh S') n 0 0 Q := by
    intro htt S' x v hs W2 R2 hx xr xz xs
    have h96' := W2.2.1
    refine G_istore_n (pc := 251) (ls' := [(2, _), (0, _), (1, _)]) dX10_fill_251 (by decide) rfl ?_
    refine S_aload_n (pc := 252) dX10_fill_252 rfl ?_
    refine G_iload_n (pc := 253) dX10_fill_253 rfl ?_
    refine G_bipush (pc := 254) dX10_fill_254 rfl ?_
    refine S_callV (pc := 256) (ci := 10) (d2 := 2) (mc2 := 0) (ms2 := 0) (As := [_, _]) dX10_fill_256 kX10_comes lkX10_109 (by assumption) rfl rfl rfl (Nat.le_of_ble_eq_true rfl) ⟨by decide, by decide⟩ (by decide) ?_
    refine c_X10_comes W2 (by omega) (by omega) ?_
    rw [hx]
    show G _ _ _ _ _ _ _ _ _ _ _ _ _
    refine G_iret (pc := 259) dX10_fill_259 rfl (by decide) ?_
    exact h1 htt S' x hs W2 R2 xr xz xs
  have K : (0 ≤ t ∧ t < 8) → G g mX10_fill 4 0 0 237 [(0, gr g 96), (1, .int (iI t))] [] (hp g sh (putA S 107 (seg 0 (17 * m) (flm p m (S.2.1 105) (S.2.1 106)) (S.2.1 107)))) n 0 0 Q := by
    intro htt
    have e : (putA S 107 (seg 0 (17 * m) (flm p m (S.2.1 105) (S.2.1 106)) (S.2.1 107))).1 96 29 = m := hm
    refine S_aload_n (pc := 237) dX10_fill_237 rfl ?_
    refine S_aload_n (pc := 238) dX10_fill_238 rfl ?_
    refine S_getI (pc := 239) dX10_fill_239 fX10_284 (by assumption) rfl ?_
    rw [e]
    refine S_aload_n (pc := 242) dX10_fill_242 rfl ?_
    refine S_getI (pc := 243) dX10_fill_243 fX10_284 (by assumption) rfl ?_
    rw [e]
    refine G_bipush (pc := 246) dX10_fill_246 rfl ?_
    refine S_callV (pc := 248) (ci := 10) (d2 := 3) (mc2 := 0) (ms2 := 0) (As := [_, _, _]) dX10_fill_248 kX10_solve lkX10_290 (by assumption) rfl rfl rfl (Nat.le_of_ble_eq_true rfl) ⟨by decide, by decide⟩ (by decide) ?_
    refine c_X10_solve (MdW_putA hW (by decide)) (MrW_107 hR hFr) hmb hmb (by omega) (fun S' x g1 g2 g3 g4 g5 g6 g7 => ?_) (fun S' g1 g2 g3 g4 => ?_)
    · exact hgo htt S' x 1 (MScr_tr (MScr_107 MScr_rf (by rw [hp1]; exact hFr)) g1) g2 g3 g4 g5 g6 ((hcg x).mp g7)
    · exact absurd hex (fun ⟨x, hx⟩ => g4 x ((hcg x).mpr hx))
    skip
  refine G_iload_n (pc := 0) dX10_fill_0 rfl ?_
  refine G_callS (pc := 1) (d2 := 2) (mc2 := 0) (ms2 := 0) (As := [_]) dX10_fill_1 kX10_isPoly lkX10_98 rfl rfl (Nat.le_of_ble_eq_true rfl) ⟨by decide, by decide⟩ (by decide) ?_
  refine c_X10_isPoly (by omega) (fun w1 => ?_) (fun w1 => ?_)
  · show G _ _ _ _ _ _ _ _ _ _ _ _ _
    refine G_if_ne_t (pc := 4) 10 dX10_fill_4 rfl (by decide) (by decide) ?_
    refine G_iconst (pc := 10) dX10_fill_10 ?_
    refine G_istore_n (pc := 11) (ls' := [(2, _), (0, _), (1, _)]) dX10_fill_11 (by decide) rfl ?_
    have := l_X10_fill (A := S.2.1 107) hW hV hR rfl hR.2.2.2.2 (K (by omega)) m.toNat 0 (by omega) (Int.le_refl _)
    rw [Int.mul_zero, seg_0, putA_same] at this
    exact this
  · show G _ _ _ _ _ _ _ _ _ _ _ _ _
    refine G_if_ne_f (pc := 4) 10 dX10_fill_4 rfl (by decide) (by decide) ?_
    refine G_bipush (pc := 7) dX10_fill_7 rfl ?_
    refine G_iret (pc := 9) dX10_fill_9 rfl (by decide) ?_
    exact h0 (by omega)
