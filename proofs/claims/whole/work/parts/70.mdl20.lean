/-! the Model: solve -/
def MrW (p : Int) (sh : SH) (S : SS) : Prop := S.2.2 96 32 = some 107 ∧ S.2.2 96 33 = some 108 ∧ sh 107 = some (.inr (1, 272)) ∧ sh 108 = some (.inr (1, 16)) ∧ Red p (S.2.1 107)
theorem MrW_107 {p : Int} {sh : SH} {S : SS} {X : Int → Int} (h : MrW p sh S) (hX : Red p X) : MrW p sh (putA S 107 X) := by
  obtain ⟨q32, q33, h107, h108, r107⟩ := h
  exact ⟨q32, q33, h107, h108, by rw [putA_at]; exact hX⟩
theorem MrW_108 {p : Int} {sh : SH} {S : SS} {X : Int → Int} (h : MrW p sh S) : MrW p sh (putA S 108 X) := by
  obtain ⟨q32, q33, h107, h108, r107⟩ := h
  exact ⟨q32, q33, h107, h108, by rw [putA_ne (by decide)]; exact r107⟩
theorem MrW_set {p r : Int} {sh : SH} {S : SS} {X : Int → Int} (h : MrW p sh S) : MrW p sh (mset S r X) := by
  obtain ⟨q32, q33, h107, h108, r107⟩ := h
  exact ⟨q32, q33, h107, h108, r107⟩
set_option maxRecDepth 100000 in
set_option maxHeartbeats 4000000 in
theorem l_X10_solveS {g : GC} {p : Int} {sh : SH} {S : SS} {n : Nat} {q u d many U t : Int} {A : Int → Int} {Q : Option Value → GA → Nat → Prop} (hW : MdW p sh S) (hR : MrW p sh S) (hq : 0 ≤ q ∧ q ≤ 15) (hd : 0 ≤ d ∧ d ≤ 15)
    (K : G g mX10_solve 3 0 0 130 [(6, .int (iI q)), (5, .int (iI u)), (4, .int (iI d)), (0, gr g 96), (1, .int (iI many)), (2, .int (iI U)), (3, .int (iI t))] [] (hp g sh (putA S 107 (swi A q d 17))) n 0 0 Q) : ∀ (k : Nat) (i : Int), i + k = 17 → 0 ≤ i → G g mX10_solve 3 0 0 61 [(7, .int (iI i)), (6, .int (iI q)), (5, .int (iI u)), (4, .int (iI d)), (0, gr g 96), (1, .int (iI many)), (2, .int (iI U)), (3, .int (iI t))] [] (hp g sh (putA S 107 (swi A q d i))) n 0 0 Q := by
  have hW' := hW
  obtain ⟨hP, h96, hp1, p2, h97, hred⟩ := hW'
  have hR' := hR
  obtain ⟨q32, q33, h107, h108, r107⟩ := hR'
  have hpb := hP.bd
  intro k
  induction k with
  | zero =>
    intro i hi h0
    refine G_iload (pc := 61) dX10_solve_61 rfl ?_
    refine G_bipush (pc := 63) dX10_solve_63 rfl ?_
    refine G_icmp_ge_t (pc := 65) 130 dX10_solve_65 rfl (by omega) (by omega) ?_
    refine G_ls (ls' := [(6, _), (5, _), (4, _), (0, _), (1, _), (2, _), (3, _)]) (lsub_c rfl (lsub_c rfl (lsub_c rfl (lsub_c rfl (lsub_c rfl (lsub_c rfl (lsub_c rfl lsub_n))))))) ?_
    rw [show i = 17 by omega]
    exact K
  | succ k ih =>
    intro i hi h0
    have e1 : (putA S 107 (swi A q d i)).2.1 107 (17 * q + i) = A (17 * q + i) := by rw [putA_at, swi_a (by omega)]
    have e2 : (putA S 107 (swi A q d i)).2.1 107 (17 * d + i) = A (17 * d + i) := by rw [putA_at, swi_b (by omega)]
    refine G_iload (pc := 61) dX10_solve_61 rfl ?_
    refine G_bipush (pc := 63) dX10_solve_63 rfl ?_
    refine G_icmp_ge_f (pc := 65) 130 dX10_solve_65 rfl (by omega) (by omega) ?_
    refine S_aload_n (pc := 68) dX10_solve_68 rfl ?_
    refine S_getR (pc := 69) dX10_solve_69 fX10_45 (by assumption) rfl (by assumption) ?_
    refine G_bipush (pc := 72) dX10_solve_72 rfl ?_
    refine G_iload (pc := 74) dX10_solve_74 rfl ?_
    refine G_imul (pc := 76) dX10_solve_76 ?_
    refine G_iload (pc := 77) dX10_solve_77 rfl ?_
    refine G_iadd (pc := 79) dX10_solve_79 ?_
    refine S_iald (pc := 80) dX10_solve_80 (by assumption) (by omega) ?_
    rw [e1]
    refine G_istore (pc := 81) (ls' := [(8, _), (7, _), (6, _), (5, _), (4, _), (0, _), (1, _), (2, _), (3, _)]) dX10_solve_81 (by decide) rfl ?_
    refine S_aload_n (pc := 83) dX10_solve_83 rfl ?_
    refine S_getR (pc := 84) dX10_solve_84 fX10_45 (by assumption) rfl (by assumption) ?_
    refine G_bipush (pc := 87) dX10_solve_87 rfl ?_
    refine G_iload (pc := 89) dX10_solve_89 rfl ?_
    refine G_imul (pc := 91) dX10_solve_91 ?_
    refine G_iload (pc := 92) dX10_solve_92 rfl ?_
    refine G_iadd (pc := 94) dX10_solve_94 ?_
    refine S_aload_n (pc := 95) dX10_solve_95 rfl ?_
    refine S_getR (pc := 96) dX10_solve_96 fX10_45 (by assumption) rfl (by assumption) ?_
    refine G_bipush (pc := 99) dX10_solve_99 rfl ?_
    refine G_iload (pc := 101) dX10_solve_101 rfl ?_
    refine G_imul (pc := 103) dX10_solve_103 ?_
    refine G_iload (pc := 104) dX10_solve_104 rfl ?_
    refine G_iadd (pc := 106) dX10_solve_106 ?_
    refine S_iald (pc := 107) dX10_solve_107 (by assumption) (by omega) ?_
    rw [e2]
    refine S_iast (pc := 108) dX10_solve_108 (by assumption) (by omega) ?_
    refine S_aload_n (pc := 109) dX10_solve_109 rfl ?_
    refine S_getR (pc := 110) dX10_solve_110 fX10_45 (by assumption) rfl (by assumption) ?_
    refine G_bipush (pc := 113) dX10_solve_113 rfl ?_
    refine G_iload (pc := 115) dX10_solve_115 rfl ?_
    refine G_imul (pc := 117) dX10_solve_117 ?_
    refine G_iload (pc := 118) dX10_solve_118 rfl ?_
    refine G_iadd (pc := 120) dX10_solve_120 ?_
    refine G_iload (pc := 121) dX10_solve_121 rfl ?_
    refine S_iast (pc := 123) dX10_solve_123 (by assumption) (by omega) ?_
    refine G_iinc (pc := 124) (ls' := [(7, _), (8, _), (6, _), (5, _), (4, _), (0, _), (1, _), (2, _), (3, _)]) dX10_solve_124 rfl (by decide) rfl ?_
    refine G_goto (pc := 127) 61 dX10_solve_127 rfl ?_
    refine G_ls (ls' := [(7, _), (6, _), (5, _), (4, _), (0, _), (1, _), (2, _), (3, _)]) (lsub_c rfl (lsub_c rfl (lsub_c rfl (lsub_c rfl (lsub_c rfl (lsub_c rfl (lsub_c rfl (lsub_c rfl lsub_n)))))))) ?_
    rw [setA_putA, setA_putA, swi_S (by omega)]
    exact ih (i + 1) (by omega) (by omega)
set_option maxRecDepth 100000 in
set_option maxHeartbeats 4000000 in
theorem l_X10_solveF {g : GC} {p : Int} {sh : SH} {S : SS} {n : Nat} {f q u d many U t : Int} {A : Int → Int} {Q : Option Value → GA → Nat → Prop} (hW : MdW p sh S) (hR : MrW p sh S) (hA : Red p A) (hf : 0 ≤ f ∧ f < p) (hd : 0 ≤ d ∧ d ≤ 15)
    (K : G g mX10_solve 3 0 0 199 [(5, .int (iI u)), (4, .int (iI d)), (0, gr g 96), (1, .int (iI many)), (2, .int (iI U)), (3, .int (iI t))] [] (hp g sh (putA S 107 (seg (17 * d) (17 * d + 17) (scf p f A) A))) n 0 0 Q) : ∀ (k : Nat) (i : Int), i + k = 17 → 0 ≤ i → G g mX10_solve 3 0 0 152 [(8, .int (iI i)), (7, .int (iI f)), (6, .int (iI q)), (5, .int (iI u)), (4, .int (iI d)), (0, gr g 96), (1, .int (iI many)), (2, .int (iI U)), (3, .int (iI t))] [] (hp g sh (putA S 107 (seg (17 * d) (17 * d + i) (scf p f A) A))) n 0 0 Q := by
  have hW' := hW
  obtain ⟨hP, h96, hp1, p2, h97, hred⟩ := hW'
  have hR' := hR
  obtain ⟨q32, q33, h107, h108, r107⟩ := hR'
  have hpb := hP.bd
  intro k
  induction k with
  | zero =>
    intro i hi h0
    refine G_iload (pc := 152) dX10_solve_152 rfl ?_
    refine G_bipush (pc := 154) dX10_solve_154 rfl ?_
    refine G_icmp_ge_t (pc := 156) 199 dX10_solve_156 rfl (by omega) (by omega) ?_
    refine G_ls (ls' := [(5, _), (4, _), (0, _), (1, _), (2, _), (3, _)]) (lsub_c rfl (lsub_c rfl (lsub_c rfl (lsub_c rfl (lsub_c rfl (lsub_c rfl lsub_n)))))) ?_
    rw [show i = 17 by omega]
    exact K
  | succ k ih =>
    intro i hi h0
    have e1 : (putA S 107 (seg (17 * d) (17 * d + i) (scf p f A) A)).2.1 107 (17 * d + i) = A (17 * d + i) := by rw [putA_at, seg_out (by omega)]
    have hm := mul_bd (hA (17 * d + i)) hf hpb.2
    have e2 : (putA S 107 (seg (17 * d) (17 * d + i) (scf p f A) A)).1 96 1 = p := hp1
    refine G_iload (pc := 152) dX10_solve_152 rfl ?_
    refine G_bipush (pc := 154) dX10_solve_154 rfl ?_
    refine G_icmp_ge_f (pc := 156) 199 dX10_solve_156 rfl (by omega) (by omega) ?_
    refine S_aload_n (pc := 159) dX10_solve_159 rfl ?_
    refine S_getR (pc := 160) dX10_solve_160 fX10_45 (by assumption) rfl (by assumption) ?_
    refine G_bipush (pc := 163) dX10_solve_163 rfl ?_
    refine G_iload (pc := 165) dX10_solve_165 rfl ?_
    refine G_imul (pc := 167) dX10_solve_167 ?_
    refine G_iload (pc := 168) dX10_solve_168 rfl ?_
    refine G_iadd (pc := 170) dX10_solve_170 ?_
    refine S_aload_n (pc := 171) dX10_solve_171 rfl ?_
    refine S_getR (pc := 172) dX10_solve_172 fX10_45 (by assumption) rfl (by assumption) ?_
    refine G_bipush (pc := 175) dX10_solve_175 rfl ?_
    refine G_iload (pc := 177) dX10_solve_177 rfl ?_
    refine G_imul (pc := 179) dX10_solve_179 ?_
    refine G_iload (pc := 180) dX10_solve_180 rfl ?_
    refine G_iadd (pc := 182) dX10_solve_182 ?_
    refine S_iald (pc := 183) dX10_solve_183 (by assumption) (by omega) ?_
    rw [e1]
    refine G_iload (pc := 184) dX10_solve_184 rfl ?_
    refine G_imul (pc := 186) dX10_solve_186 ?_
    refine S_aload_n (pc := 187) dX10_solve_187 rfl ?_
    refine S_getI (pc := 188) dX10_solve_188 fX10_64 (by assumption) rfl ?_
    rw [e2]
    refine G_iremP (pc := 191) dX10_solve_191 (by omega) ?_
    refine S_iast (pc := 192) dX10_solve_192 (by assumption) (by omega) ?_
    refine G_iinc (pc := 193) (ls' := [(8, _), (7, _), (6, _), (5, _), (4, _), (0, _), (1, _), (2, _), (3, _)]) dX10_solve_193 rfl (by decide) rfl ?_
    refine G_goto (pc := 196) 152 dX10_solve_196 rfl ?_
    rw [setA_putA, show A (17 * d + i) * f % p = scf p f A (17 * d + i) from rfl, seg_S (by omega), show 17 * d + i + 1 = 17 * d + (i + 1) by omega]
    exact ih (i + 1) (by omega) (by omega)
set_option maxRecDepth 100000 in
set_option maxHeartbeats 4000000 in
theorem l_X10_solveE {g : GC} {p : Int} {sh : SH} {S : SS} {n : Nat} {c r u d many U t : Int} {A : Int → Int} {Q : Option Value → GA → Nat → Prop} (hW : MdW p sh S) (hR : MrW p sh S) (hA : Red p A) (hc : 0 < c ∧ c < p) (hd : 0 ≤ d ∧ d ≤ 15) (hr : 0 ≤ r ∧ r ≤ 15) (hrd : r ≠ d)
    (K : G g mX10_solve 3 0 0 298 [(8, .int (iI r)), (5, .int (iI u)), (4, .int (iI d)), (0, gr g 96), (1, .int (iI many)), (2, .int (iI U)), (3, .int (iI t))] [] (hp g sh (putA S 107 (seg (17 * r) (17 * r + 17) (elf p c r d A) A))) n 0 0 Q) : ∀ (k : Nat) (i : Int), i + k = 17 → 0 ≤ i → G g mX10_solve 3 0 0 226 [(10, .int (iI i)), (9, .int (iI c)), (8, .int (iI r)), (5, .int (iI u)), (4, .int (iI d)), (0, gr g 96), (1, .int (iI many)), (2, .int (iI U)), (3, .int (iI t))] [] (hp g sh (putA S 107 (seg (17 * r) (17 * r + i) (elf p c r d A) A))) n 0 0 Q := by
  have hW' := hW
  obtain ⟨hP, h96, hp1, p2, h97, hred⟩ := hW'
  have hR' := hR
  obtain ⟨q32, q33, h107, h108, r107⟩ := hR'
  have hpb := hP.bd
  intro k
  induction k with
  | zero =>
    intro i hi h0
    refine G_iload (pc := 226) dX10_solve_226 rfl ?_
    refine G_bipush (pc := 228) dX10_solve_228 rfl ?_
    refine G_icmp_ge_t (pc := 230) 298 dX10_solve_230 rfl (by omega) (by omega) ?_
    refine G_ls (ls' := [(8, _), (5, _), (4, _), (0, _), (1, _), (2, _), (3, _)]) (lsub_c rfl (lsub_c rfl (lsub_c rfl (lsub_c rfl (lsub_c rfl (lsub_c rfl (lsub_c rfl lsub_n))))))) ?_
    rw [show i = 17 by omega]
    exact K
  | succ k ih =>
    intro i hi h0
    have hs : Red p (seg (17 * r) (17 * r + i) (elf p c r d A) A) := seg_red (fun _ => em_bd (by omega)) hA
    have hW2 : MdW p sh (putA S 107 (seg (17 * r) (17 * r + i) (elf p c r d A) A)) := MdW_putA hW (by decide)
    have e1 : (putA S 107 (seg (17 * r) (17 * r + i) (elf p c r d A) A)).2.1 107 (17 * r + i) = A (17 * r + i) := by rw [putA_at, seg_out (by omega)]
    have e2 : (putA S 107 (seg (17 * r) (17 * r + i) (elf p c r d A) A)).2.1 107 (17 * d + i) = A (17 * d + i) := by rw [putA_at, seg_out (by omega)]
    have hx := hA (17 * r + i)
    have hy := hA (17 * d + i)
    have hm := mul_bd (show 0 ≤ c ∧ c < p by omega) hy hpb.2
    have e3 : (A (17 * r + i) - c * A (17 * d + i)) % p = elf p c r d A (17 * r + i) := by
      unfold elf
      rw [show 17 * r + i - 17 * r + 17 * d = 17 * d + i by omega]
    refine G_iload (pc := 226) dX10_solve_226 rfl ?_
    refine G_bipush (pc := 228) dX10_solve_228 rfl ?_
    refine G_icmp_ge_f (pc := 230) 298 dX10_solve_230 rfl (by omega) (by omega) ?_
    refine G_iload (pc := 233) dX10_solve_233 rfl ?_
    refine G_iload (pc := 235) dX10_solve_235 rfl ?_
    refine G_icmp_eq_f (pc := 237) 298 dX10_solve_237 rfl (by omega) (by omega) ?_
    refine G_iload (pc := 240) dX10_solve_240 rfl ?_
    refine G_if_eq_f (pc := 242) 298 dX10_solve_242 rfl (by omega) (by omega) ?_
    refine S_aload_n (pc := 245) dX10_solve_245 rfl ?_
    refine S_getR (pc := 246) dX10_solve_246 fX10_45 (by assumption) rfl (by assumption) ?_
    refine G_bipush (pc := 249) dX10_solve_249 rfl ?_
    refine G_iload (pc := 251) dX10_solve_251 rfl ?_
    refine G_imul (pc := 253) dX10_solve_253 ?_
    refine G_iload (pc := 254) dX10_solve_254 rfl ?_
    refine G_iadd (pc := 256) dX10_solve_256 ?_
    refine S_aload_n (pc := 257) dX10_solve_257 rfl ?_
    refine S_aload_n (pc := 258) dX10_solve_258 rfl ?_
    refine S_getR (pc := 259) dX10_solve_259 fX10_45 (by assumption) rfl (by assumption) ?_
    refine G_bipush (pc := 262) dX10_solve_262 rfl ?_
    refine G_iload (pc := 264) dX10_solve_264 rfl ?_
    refine G_imul (pc := 266) dX10_solve_266 ?_
    refine G_iload (pc := 267) dX10_solve_267 rfl ?_
    refine G_iadd (pc := 269) dX10_solve_269 ?_
    refine S_iald (pc := 270) dX10_solve_270 (by assumption) (by omega) ?_
    rw [e1]
    refine G_iload (pc := 271) dX10_solve_271 rfl ?_
    refine S_aload_n (pc := 273) dX10_solve_273 rfl ?_
    refine S_getR (pc := 274) dX10_solve_274 fX10_45 (by assumption) rfl (by assumption) ?_
    refine G_bipush (pc := 277) dX10_solve_277 rfl ?_
    refine G_iload (pc := 279) dX10_solve_279 rfl ?_
    refine G_imul (pc := 281) dX10_solve_281 ?_
    refine G_iload (pc := 282) dX10_solve_282 rfl ?_
    refine G_iadd (pc := 284) dX10_solve_284 ?_
    refine S_iald (pc := 285) dX10_solve_285 (by assumption) (by omega) ?_
    rw [e2]
    refine G_imul (pc := 286) dX10_solve_286 ?_
    refine G_isub (pc := 287) dX10_solve_287 ?_
    refine S_callV (pc := 288) (ci := 10) (d2 := 1) (mc2 := 0) (ms2 := 0) (As := [_]) dX10_solve_288 kX10_rest lkX10_102 (by assumption) rfl rfl rfl (Nat.le_of_ble_eq_true rfl) ⟨by decide, by decide⟩ (by decide) ?_
    refine c_X10_rest hW2 (by omega) ?_
    rw [e3]
    show G _ _ _ _ _ _ _ _ _ _ _ _ _
    refine S_iast (pc := 291) dX10_solve_291 (by assumption) (by omega) ?_
    refine G_iinc (pc := 292) (ls' := [(10, _), (9, _), (8, _), (5, _), (4, _), (0, _), (1, _), (2, _), (3, _)]) dX10_solve_292 rfl (by decide) rfl ?_
    refine G_goto (pc := 295) 226 dX10_solve_295 rfl ?_
    rw [setA_putA, seg_S (by omega), show 17 * r + i + 1 = 17 * r + (i + 1) by omega]
    exact ih (i + 1) (by omega) (by omega)
set_option maxRecDepth 100000 in
set_option maxHeartbeats 4000000 in
theorem l_X10_solveR {g : GC} {p : Int} {sh : SH} {S : SS} {n : Nat} {u d many U t : Int} {A : Int → Int} {Q : Option Value → GA → Nat → Prop} (hW : MdW p sh S) (hR : MrW p sh S) (hA : Red p A) (hd : 0 ≤ d ∧ d ≤ 15) (hu : 0 ≤ u ∧ u ≤ 15) (hm : 0 ≤ many ∧ many ≤ 16)
    (K : G g mX10_solve 3 0 0 304 [(5, .int (iI u)), (4, .int (iI d)), (0, gr g 96), (1, .int (iI many)), (2, .int (iI U)), (3, .int (iI t))] [] (hp g sh (putA S 107 (elm p A d u many))) n 0 0 Q) : ∀ (k : Nat) (r : Int), r + k = many → 0 ≤ r → G g mX10_solve 3 0 0 202 [(8, .int (iI r)), (5, .int (iI u)), (4, .int (iI d)), (0, gr g 96), (1, .int (iI many)), (2, .int (iI U)), (3, .int (iI t))] [] (hp g sh (putA S 107 (elm p A d u r))) n 0 0 Q := by
  have hW' := hW
  obtain ⟨hP, h96, hp1, p2, h97, hred⟩ := hW'
  have hR' := hR
  obtain ⟨q32, q33, h107, h108, r107⟩ := hR'
  have hpb := hP.bd
  intro k
  induction k with
  | zero =>
    intro r hr h0
    refine G_iload (pc := 202) dX10_solve_202 rfl ?_
    refine G_iload_n (pc := 204) dX10_solve_204 rfl ?_
    refine G_icmp_ge_t (pc := 205) 304 dX10_solve_205 rfl (by omega) (by omega) ?_
    refine G_ls (ls' := [(5, _), (4, _), (0, _), (1, _), (2, _), (3, _)]) (lsub_c rfl (lsub_c rfl (lsub_c rfl (lsub_c rfl (lsub_c rfl (lsub_c rfl lsub_n)))))) ?_
    rw [show r = many by omega]
    exact K
  | succ k ih =>
    intro r hr h0
    have e1 : (putA S 107 (elm p A d u r)).2.1 107 (17 * r + u) = A (17 * r + u) := by rw [putA_at, elm_row h0 (by omega)]
    have hx := hA (17 * r + u)
    have K298 : G g mX10_solve 3 0 0 298 [(8, .int (iI r)), (5, .int (iI u)), (4, .int (iI d)), (0, gr g 96), (1, .int (iI many)), (2, .int (iI U)), (3, .int (iI t))] [] (hp g sh (putA S 107 (elm p A d u (r + 1)))) n 0 0 Q := by
      refine G_iinc (pc := 298) (ls' := [(8, _), (5, _), (4, _), (0, _), (1, _), (2, _), (3, _)]) dX10_solve_298 rfl (by decide) rfl ?_
      refine G_goto (pc := 301) 202 dX10_solve_301 rfl ?_
      exact ih (r + 1) (by omega) (by omega)
    by_cases hc : r = d ∨ A (17 * r + u) = 0
    · rw [← elm_skip hA h0 hc] at K298
      by_cases hrd : r = d
      · skip
        refine G_iload (pc := 202) dX10_solve_202 rfl ?_
        refine G_iload_n (pc := 204) dX10_solve_204 rfl ?_
        refine G_icmp_ge_f (pc := 205) 304 dX10_solve_205 rfl (by omega) (by omega) ?_
        refine S_aload_n (pc := 208) dX10_solve_208 rfl ?_
        refine S_getR (pc := 209) dX10_solve_209 fX10_45 (by assumption) rfl (by assumption) ?_
        refine G_bipush (pc := 212) dX10_solve_212 rfl ?_
        refine G_iload (pc := 214) dX10_solve_214 rfl ?_
        refine G_imul (pc := 216) dX10_solve_216 ?_
        refine G_iload (pc := 217) dX10_solve_217 rfl ?_
        refine G_iadd (pc := 219) dX10_solve_219 ?_
        refine S_iald (pc := 220) dX10_solve_220 (by assumption) (by omega) ?_
        rw [e1]
        refine G_istore (pc := 221) (ls' := [(9, _), (8, _), (5, _), (4, _), (0, _), (1, _), (2, _), (3, _)]) dX10_solve_221 (by decide) rfl ?_
        refine G_iconst (pc := 223) dX10_solve_223 ?_
        refine G_istore (pc := 224) (ls' := [(10, _), (9, _), (8, _), (5, _), (4, _), (0, _), (1, _), (2, _), (3, _)]) dX10_solve_224 (by decide) rfl ?_
        refine G_iload (pc := 226) dX10_solve_226 rfl ?_
        refine G_bipush (pc := 228) dX10_solve_228 rfl ?_
        refine G_icmp_ge_f (pc := 230) 298 dX10_solve_230 rfl (by omega) (by omega) ?_
        refine G_iload (pc := 233) dX10_solve_233 rfl ?_
        refine G_iload (pc := 235) dX10_solve_235 rfl ?_
        refine G_icmp_eq_t (pc := 237) 298 dX10_solve_237 rfl (by omega) (by omega) ?_
        refine G_ls (ls' := [(8, _), (5, _), (4, _), (0, _), (1, _), (2, _), (3, _)]) (lsub_c rfl (lsub_c rfl (lsub_c rfl (lsub_c rfl (lsub_c rfl (lsub_c rfl (lsub_c rfl lsub_n))))))) ?_
        exact K298
      · skip
        refine G_iload (pc := 202) dX10_solve_202 rfl ?_
        refine G_iload_n (pc := 204) dX10_solve_204 rfl ?_
        refine G_icmp_ge_f (pc := 205) 304 dX10_solve_205 rfl (by omega) (by omega) ?_
        refine S_aload_n (pc := 208) dX10_solve_208 rfl ?_
        refine S_getR (pc := 209) dX10_solve_209 fX10_45 (by assumption) rfl (by assumption) ?_
        refine G_bipush (pc := 212) dX10_solve_212 rfl ?_
        refine G_iload (pc := 214) dX10_solve_214 rfl ?_
        refine G_imul (pc := 216) dX10_solve_216 ?_
        refine G_iload (pc := 217) dX10_solve_217 rfl ?_
        refine G_iadd (pc := 219) dX10_solve_219 ?_
        refine S_iald (pc := 220) dX10_solve_220 (by assumption) (by omega) ?_
        rw [e1]
        refine G_istore (pc := 221) (ls' := [(9, _), (8, _), (5, _), (4, _), (0, _), (1, _), (2, _), (3, _)]) dX10_solve_221 (by decide) rfl ?_
        refine G_iconst (pc := 223) dX10_solve_223 ?_
        refine G_istore (pc := 224) (ls' := [(10, _), (9, _), (8, _), (5, _), (4, _), (0, _), (1, _), (2, _), (3, _)]) dX10_solve_224 (by decide) rfl ?_
        refine G_iload (pc := 226) dX10_solve_226 rfl ?_
        refine G_bipush (pc := 228) dX10_solve_228 rfl ?_
        refine G_icmp_ge_f (pc := 230) 298 dX10_solve_230 rfl (by omega) (by omega) ?_
        refine G_iload (pc := 233) dX10_solve_233 rfl ?_
        refine G_iload (pc := 235) dX10_solve_235 rfl ?_
        refine G_icmp_eq_f (pc := 237) 298 dX10_solve_237 rfl (by omega) (by omega) ?_
        refine G_iload (pc := 240) dX10_solve_240 rfl ?_
        refine G_if_eq_t (pc := 242) 298 dX10_solve_242 rfl (by omega) (by omega) ?_
        refine G_ls (ls' := [(8, _), (5, _), (4, _), (0, _), (1, _), (2, _), (3, _)]) (lsub_c rfl (lsub_c rfl (lsub_c rfl (lsub_c rfl (lsub_c rfl (lsub_c rfl (lsub_c rfl lsub_n))))))) ?_
        exact K298
    · have hin := l_X10_solveE (A := elm p A d u r) (c := A (17 * r + u)) (r := r) (u := u) (d := d) (many := many) (U := U) (t := t) hW hR (elm_red (by omega) hA) (by omega) hd (by omega) (by omega) (by rw [elm_S h0 (by omega)]; exact K298) 17 0 (by omega) (by omega)
      rw [Int.add_zero, seg_0] at hin
      refine G_iload (pc := 202) dX10_solve_202 rfl ?_
      refine G_iload_n (pc := 204) dX10_solve_204 rfl ?_
      refine G_icmp_ge_f (pc := 205) 304 dX10_solve_205 rfl (by omega) (by omega) ?_
      refine S_aload_n (pc := 208) dX10_solve_208 rfl ?_
      refine S_getR (pc := 209) dX10_solve_209 fX10_45 (by assumption) rfl (by assumption) ?_
      refine G_bipush (pc := 212) dX10_solve_212 rfl ?_
      refine G_iload (pc := 214) dX10_solve_214 rfl ?_
      refine G_imul (pc := 216) dX10_solve_216 ?_
      refine G_iload (pc := 217) dX10_solve_217 rfl ?_
      refine G_iadd (pc := 219) dX10_solve_219 ?_
      refine S_iald (pc := 220) dX10_solve_220 (by assumption) (by omega) ?_
      rw [e1]
      refine G_istore (pc := 221) (ls' := [(9, _), (8, _), (5, _), (4, _), (0, _), (1, _), (2, _), (3, _)]) dX10_solve_221 (by decide) rfl ?_
      refine G_iconst (pc := 223) dX10_solve_223 ?_
      refine G_istore (pc := 224) (ls' := [(10, _), (9, _), (8, _), (5, _), (4, _), (0, _), (1, _), (2, _), (3, _)]) dX10_solve_224 (by decide) rfl ?_
      exact hin
set_option maxRecDepth 100000 in
set_option maxHeartbeats 4000000 in
theorem l_X10_solveP {g : GC} {p : Int} {sh : SH} {S : SS} {n : Nat} {u d many U t : Int} {A : Int → Int} {Q : Option Value → GA → Nat → Prop} (hW : MdW p sh S) (hR : MrW p sh S) (hA : S.2.1 107 = A) (hu : 0 ≤ u ∧ u ≤ 15) (hm : 0 ≤ many ∧ many ≤ 16)
    (K : ∀ q : Int, d ≤ q → q ≤ many → (∀ r : Int, d ≤ r → r < q → A (17 * r + u) = 0) → (q < many → A (17 * q + u) ≠ 0) → G g mX10_solve 3 0 0 49 [(6, .int (iI q)), (5, .int (iI u)), (4, .int (iI d)), (0, gr g 96), (1, .int (iI many)), (2, .int (iI U)), (3, .int (iI t))] [] (hp g sh (S)) n 0 0 Q) (hd : 0 ≤ d) : ∀ (k : Nat) (q : Int), q + k = many → d ≤ q → (∀ r : Int, d ≤ r → r < q → A (17 * r + u) = 0) → G g mX10_solve 3 0 0 21 [(6, .int (iI q)), (5, .int (iI u)), (4, .int (iI d)), (0, gr g 96), (1, .int (iI many)), (2, .int (iI U)), (3, .int (iI t))] [] (hp g sh (S)) n 0 0 Q := by
  have hW' := hW
  obtain ⟨hP, h96, hp1, p2, h97, hred⟩ := hW'
  have hR' := hR
  obtain ⟨q32, q33, h107, h108, r107⟩ := hR'
  have hpb := hP.bd
  intro k
  induction k with
  | zero =>
    intro q hq h0 hz
    refine G_iload (pc := 21) dX10_solve_21 rfl ?_
    refine G_iload_n (pc := 23) dX10_solve_23 rfl ?_
    refine G_icmp_ge_t (pc := 24) 49 dX10_solve_24 rfl (by omega) (by omega) ?_
    exact K q h0 (by omega) hz (fun z => absurd z (by omega))
  | succ k ih =>
    intro q hq h0 hz
    have e1 : S.2.1 107 (17 * q + u) = A (17 * q + u) := by rw [hA]
    have hx := r107 (17 * q + u)
    rw [hA] at hx
    refine G_iload (pc := 21) dX10_solve_21 rfl ?_
    refine G_iload_n (pc := 23) dX10_solve_23 rfl ?_
    refine G_icmp_ge_f (pc := 24) 49 dX10_solve_24 rfl (by omega) (by omega) ?_
    refine S_aload_n (pc := 27) dX10_solve_27 rfl ?_
    refine S_getR (pc := 28) dX10_solve_28 fX10_45 (by assumption) rfl (by assumption) ?_
    refine G_bipush (pc := 31) dX10_solve_31 rfl ?_
    refine G_iload (pc := 33) dX10_solve_33 rfl ?_
    refine G_imul (pc := 35) dX10_solve_35 ?_
    refine G_iload (pc := 36) dX10_solve_36 rfl ?_
    refine G_iadd (pc := 38) dX10_solve_38 ?_
    refine S_iald (pc := 39) dX10_solve_39 (by assumption) (by omega) ?_
    rw [e1]
    refine G_if_ne (pc := 40) 49 dX10_solve_40 rfl (by omega) (fun c40 => ?_) (fun c40 => ?_)
    · skip
      exact K q h0 (by omega) hz (fun _ => c40)
    · skip
      refine G_iinc (pc := 43) (ls' := [(6, _), (5, _), (4, _), (0, _), (1, _), (2, _), (3, _)]) dX10_solve_43 rfl (by decide) rfl ?_
      refine G_goto (pc := 46) 21 dX10_solve_46 rfl ?_
      refine ih (q + 1) (by omega) (by omega) (fun r g1 g2 => ?_)
      by_cases e : r = q
      · rw [e]; exact Decidable.of_not_not c40
      · exact hz r g1 (by omega)
set_option maxRecDepth 100000 in
set_option maxHeartbeats 4000000 in
theorem l_X10_solveW {g : GC} {p : Int} {sh : SH} {S : SS} {n : Nat} {d many U t : Int} {A ld : Int → Int} {Q : Option Value → GA → Nat → Prop} (hW : MdW p sh S) (hR : MrW p sh S) (hA : S.2.1 107 = A) (hld : S.2.1 108 = ld) (ht : 8 ≤ t ∧ t ≤ 15) (hd : d ≤ 16) (hU : U ≤ 16) (hl : ∀ i : Int, 0 ≤ i → i < d → 0 ≤ ld i ∧ ld i < U)
    (K : G g mX10_solve 3 0 0 402 [(0, gr g 96), (1, .int (iI many)), (2, .int (iI U)), (3, .int (iI t))] [] (hp g sh (mset S t (gsx A ld d.toNat))) n 0 0 Q) : ∀ (k i : Nat), i + k = d → G g mX10_solve 3 0 0 359 [(5, .int (iI i)), (4, .int (iI d)), (0, gr g 96), (1, .int (iI many)), (2, .int (iI U)), (3, .int (iI t))] [] (hp g sh (mset S t (gsx A ld i))) n 0 0 Q := by
  have hW' := hW
  obtain ⟨hP, h96, hp1, p2, h97, hred⟩ := hW'
  have hR' := hR
  obtain ⟨q32, q33, h107, h108, r107⟩ := hR'
  have hpb := hP.bd
  intro k
  induction k with
  | zero =>
    intro i hi
    refine G_iload (pc := 359) dX10_solve_359 rfl ?_
    refine G_iload (pc := 361) dX10_solve_361 rfl ?_
    refine G_icmp_ge_t (pc := 363) 402 dX10_solve_363 rfl (by omega) (by omega) ?_
    refine G_ls (ls' := [(0, _), (1, _), (2, _), (3, _)]) (lsub_c rfl (lsub_c rfl (lsub_c rfl (lsub_c rfl lsub_n)))) ?_
    rw [show i = d.toNat by omega]
    exact K
  | succ k ih =>
    intro i hi
    have hl1 := hl i (by omega) (by omega)
    have e1 : (mset S t (gsx A ld i)).2.1 108 i = ld i := by rw [← hld]; exact congrFun (putA_ne (by decide)) _
    have e2 : (mset S t (gsx A ld i)).2.1 107 (17 * i + 16) = A (17 * i + 16) := by rw [← hA]; exact congrFun (putA_ne (by decide)) _
    refine G_iload (pc := 359) dX10_solve_359 rfl ?_
    refine G_iload (pc := 361) dX10_solve_361 rfl ?_
    refine G_icmp_ge_f (pc := 363) 402 dX10_solve_363 rfl (by omega) (by omega) ?_
    refine S_aload_n (pc := 366) dX10_solve_366 rfl ?_
    refine S_getR (pc := 367) dX10_solve_367 fX10_13 (by assumption) rfl (by assumption) ?_
    refine G_bipush (pc := 370) dX10_solve_370 rfl ?_
    refine G_iload_n (pc := 372) dX10_solve_372 rfl ?_
    refine G_imul (pc := 373) dX10_solve_373 ?_
    refine S_aload_n (pc := 374) dX10_solve_374 rfl ?_
    refine S_getR (pc := 375) dX10_solve_375 fX10_48 (by assumption) rfl (by assumption) ?_
    refine G_iload (pc := 378) dX10_solve_378 rfl ?_
    refine S_iald (pc := 380) dX10_solve_380 (by assumption) (by omega) ?_
    rw [e1]
    refine G_iadd (pc := 381) dX10_solve_381 ?_
    refine S_aload_n (pc := 382) dX10_solve_382 rfl ?_
    refine S_getR (pc := 383) dX10_solve_383 fX10_45 (by assumption) rfl (by assumption) ?_
    refine G_bipush (pc := 386) dX10_solve_386 rfl ?_
    refine G_iload (pc := 388) dX10_solve_388 rfl ?_
    refine G_imul (pc := 390) dX10_solve_390 ?_
    refine G_bipush (pc := 391) dX10_solve_391 rfl ?_
    refine G_iadd (pc := 393) dX10_solve_393 ?_
    refine S_iald (pc := 394) dX10_solve_394 (by assumption) (by omega) ?_
    rw [e2]
    refine S_iast (pc := 395) dX10_solve_395 (by assumption) (by omega) ?_
    refine G_iinc (pc := 396) (ls' := [(5, _), (4, _), (0, _), (1, _), (2, _), (3, _)]) dX10_solve_396 rfl (by decide) rfl ?_
    refine G_goto (pc := 399) 359 dX10_solve_399 rfl ?_
    rw [mset_setA (by omega)]
    exact ih (i + 1) (by omega)
set_option maxRecDepth 100000 in
set_option maxHeartbeats 4000000 in
theorem l_X10_solveC {g : GC} {p : Int} {sh : SH} {S : SS} {n : Nat} {d many U t : Int} {A : Int → Int} {Q : Option Value → GA → Nat → Prop} (hW : MdW p sh S) (hR : MrW p sh S) (hA : S.2.1 107 = A) (hm : 0 ≤ many ∧ many ≤ 16) (hd : 0 ≤ d)
    (h0 : ∀ r : Int, d ≤ r → r < many → A (17 * r + 16) ≠ 0 → Q (some (.int (iI 0))) (hp g sh S) n)
    (K : (∀ r : Int, d ≤ r → r < many → A (17 * r + 16) = 0) → G g mX10_solve 3 0 0 356 [(4, .int (iI d)), (0, gr g 96), (1, .int (iI many)), (2, .int (iI U)), (3, .int (iI t))] [] (hp g sh (S)) n 0 0 Q) : ∀ (k : Nat) (r : Int), r + k = many → d ≤ r → (∀ q : Int, d ≤ q → q < r → A (17 * q + 16) = 0) → G g mX10_solve 3 0 0 326 [(5, .int (iI r)), (4, .int (iI d)), (0, gr g 96), (1, .int (iI many)), (2, .int (iI U)), (3, .int (iI t))] [] (hp g sh (S)) n 0 0 Q := by
  have hW' := hW
  obtain ⟨hP, h96, hp1, p2, h97, hred⟩ := hW'
  have hR' := hR
  obtain ⟨q32, q33, h107, h108, r107⟩ := hR'
  have hpb := hP.bd
  intro k
  induction k with
  | zero =>
    intro r hr hdr hz
    refine G_iload (pc := 326) dX10_solve_326 rfl ?_
    refine G_iload_n (pc := 328) dX10_solve_328 rfl ?_
    refine G_icmp_ge_t (pc := 329) 356 dX10_solve_329 rfl (by omega) (by omega) ?_
    refine G_ls (ls' := [(4, _), (0, _), (1, _), (2, _), (3, _)]) (lsub_c rfl (lsub_c rfl (lsub_c rfl (lsub_c rfl (lsub_c rfl lsub_n))))) ?_
    exact K (fun q g1 g2 => hz q g1 (by omega))
  | succ k ih =>
    intro r hr hdr hz
    have e1 : S.2.1 107 (17 * r + 16) = A (17 * r + 16) := by rw [hA]
    have hx := r107 (17 * r + 16)
    rw [hA] at hx
    refine G_iload (pc := 326) dX10_solve_326 rfl ?_
    refine G_iload_n (pc := 328) dX10_solve_328 rfl ?_
    refine G_icmp_ge_f (pc := 329) 356 dX10_solve_329 rfl (by omega) (by omega) ?_
    refine S_aload_n (pc := 332) dX10_solve_332 rfl ?_
    refine S_getR (pc := 333) dX10_solve_333 fX10_45 (by assumption) rfl (by assumption) ?_
    refine G_bipush (pc := 336) dX10_solve_336 rfl ?_
    refine G_iload (pc := 338) dX10_solve_338 rfl ?_
    refine G_imul (pc := 340) dX10_solve_340 ?_
    refine G_bipush (pc := 341) dX10_solve_341 rfl ?_
    refine G_iadd (pc := 343) dX10_solve_343 ?_
    refine S_iald (pc := 344) dX10_solve_344 (by assumption) (by omega) ?_
    rw [e1]
    refine G_if_eq (pc := 345) 350 dX10_solve_345 rfl (by omega) (fun c345 => ?_) (fun c345 => ?_)
    · skip
      refine G_iinc (pc := 350) (ls' := [(5, _), (4, _), (0, _), (1, _), (2, _), (3, _)]) dX10_solve_350 rfl (by decide) rfl ?_
      refine G_goto (pc := 353) 326 dX10_solve_353 rfl ?_
      refine ih (r + 1) (by omega) (by omega) (fun q g1 g2 => ?_)
      by_cases e : q = r
      · rw [e]; exact c345
      · exact hz q g1 (by omega)
    · skip
      refine G_iconst (pc := 348) dX10_solve_348 ?_
      refine G_zret (pc := 349) dX10_solve_349 rfl nar_z0 (by decide) ?_
      exact h0 r hdr (by omega) c345
set_option maxRecDepth 100000 in
set_option maxHeartbeats 4000000 in
theorem l_X10_solve {g : GC} {p : Int} {sh : SH} {S0 : SS} {n : Nat} {many U t : Int} {A0 : Int → Int} {Q : Option Value → GA → Nat → Prop} (hm : 0 ≤ many ∧ many ≤ 16) (hU : 0 ≤ U ∧ U ≤ 16) (ht : 8 ≤ t ∧ t ≤ 15)
    (hq1 : ∀ (S' : SS) (x : Int → Int), MScr S0 S' → MdW p sh S' → MrW p sh S' → mg S' t = x → Red p x → (∀ j : Int, (j < 0 ∨ U ≤ j) → x j = 0) → Sol p many U A0 x → Q (some (.int (iI 1))) (hp g sh S') n)
    (hq0 : ∀ S' : SS, MScr S0 S' → MdW p sh S' → MrW p sh S' → (∀ x : Int → Int, ¬ Sol p many U A0 x) → Q (some (.int (iI 0))) (hp g sh S') n) :
    ∀ (k : Nat) (u d : Int) (S : SS), u + k = U → 0 ≤ u → MScr S0 S → MdW p sh S → MrW p sh S → mg S t = pz → GsI p (S.2.1 107) (S.2.1 108) many d u → (∀ x : Int → Int, Sol p many U (S.2.1 107) x ↔ Sol p many U A0 x) → G g mX10_solve 3 0 0 11 [(5, .int (iI u)), (4, .int (iI d)), (0, gr g 96), (1, .int (iI many)), (2, .int (iI U)), (3, .int (iI t))] [] (hp g sh (S)) n 0 0 Q := by
  intro k
  induction k with
  | zero =>
    intro u d S hu h0 hS hW hR hz hI hx
    have e : u = U := by omega
    subst e
    have hW' := hW
    obtain ⟨hP, h96, hp1, p2, h97, hred⟩ := hW'
    have hpb := hP.bd
    have hId := hI.2.1
    have hIm := hI.2.2.1
    have K : (∀ r : Int, d ≤ r → r < many → S.2.1 107 (17 * r + 16) = 0) → G g mX10_solve 3 0 0 356 [(4, .int (iI d)), (0, gr g 96), (1, .int (iI many)), (2, .int (iI u)), (3, .int (iI t))] [] (hp g sh (S)) n 0 0 Q := by
      intro hzz
      have hsol := Gs_end hI hU hzz
      have hz2 : ∀ j : Int, (j < 0 ∨ u ≤ j) → gsx (S.2.1 107) (S.2.1 108) d.toNat j = 0 := gsx_z (fun i g1 g2 => (hI.2.2.2.2.1 i g1 (by omega)).1)
      have hr := gsx_red (A := S.2.1 107) (ld := S.2.1 108) (p := p) (by omega) hI.1 d.toNat
      have K2 : G g mX10_solve 3 0 0 402 [(0, gr g 96), (1, .int (iI many)), (2, .int (iI u)), (3, .int (iI t))] [] (hp g sh (mset S t (gsx (S.2.1 107) (S.2.1 108) d.toNat))) n 0 0 Q := by
        refine G_iconst (pc := 402) dX10_solve_402 ?_
        refine G_zret (pc := 403) dX10_solve_403 rfl nar_z1 (by decide) ?_
        exact hq1 _ _ (MScr_set hS ht.1) (MdW_set hW hr) (MrW_set hR) (mg_set (fun j hj => hz2 j (by omega))) hr hz2 ((hx _).mp hsol)
      have hw := l_X10_solveW (t := t) hW hR rfl rfl ht (by omega) hU.2 (fun i g1 g2 => (hI.2.2.2.2.1 i g1 g2).1) K2 d.toNat 0 (by omega)
      rw [show mset S t (gsx (S.2.1 107) (S.2.1 108) 0) = S from by show mset S t pz = S; rw [← hz]; exact mset_self] at hw
      refine G_iconst (pc := 356) dX10_solve_356 ?_
      refine G_istore (pc := 357) (ls' := [(5, _), (4, _), (0, _), (1, _), (2, _), (3, _)]) dX10_solve_357 (by decide) rfl ?_
      exact hw
    have hc := l_X10_solveC (t := t) (U := u) hW hR rfl hm hId (fun r g1 g2 g3 => hq0 S hS hW hR (fun x hxx => Gs_no hP hI hU ⟨g1, g2⟩ g3 x ((hx x).mpr hxx))) K (many - d).toNat d (by omega) (Int.le_refl _) (fun q g1 g2 => absurd g2 (by omega))
    refine G_iload (pc := 11) dX10_solve_11 rfl ?_
    refine G_iload_n (pc := 13) dX10_solve_13 rfl ?_
    refine G_icmp_ge_t (pc := 14) 322 dX10_solve_14 rfl (by omega) (by omega) ?_
    refine G_iload (pc := 322) dX10_solve_322 rfl ?_
    refine G_istore (pc := 324) (ls' := [(5, _), (4, _), (0, _), (1, _), (2, _), (3, _)]) dX10_solve_324 (by decide) rfl ?_
    exact hc
  | succ k ih =>
    intro u d S hu h0 hS hW hR hz hI hx
    have hW' := hW
    obtain ⟨hP, h96, hp1, p2, h97, hred⟩ := hW'
    have hR' := hR
    obtain ⟨q32, q33, h107, h108, r107⟩ := hR'
    have hpb := hP.bd
    have hId := hI.2.1
    have hIm := hI.2.2.1
    have K49 : ∀ q : Int, d ≤ q → q ≤ many → (∀ r : Int, d ≤ r → r < q → S.2.1 107 (17 * r + u) = 0) → (q < many → S.2.1 107 (17 * q + u) ≠ 0) → G g mX10_solve 3 0 0 49 [(6, .int (iI q)), (5, .int (iI u)), (4, .int (iI d)), (0, gr g 96), (1, .int (iI many)), (2, .int (iI U)), (3, .int (iI t))] [] (hp g sh (S)) n 0 0 Q := by
      intro q g1 g2 g3 g4
      by_cases hqm : q = many
      · have hn := ih (u + 1) d S (by omega) (by omega) hS hW hR hz (GsI_skip hI (fun r k1 k2 => g3 r k1 (by omega))) hx
        refine G_iload (pc := 49) dX10_solve_49 rfl ?_
        refine G_iload_n (pc := 51) dX10_solve_51 rfl ?_
        refine G_icmp_ne_f (pc := 52) 58 dX10_solve_52 rfl (by omega) (by omega) ?_
        refine G_goto (pc := 55) 316 dX10_solve_55 rfl ?_
        refine G_iinc (pc := 316) (ls' := [(5, _), (6, _), (4, _), (0, _), (1, _), (2, _), (3, _)]) dX10_solve_316 rfl (by decide) rfl ?_
        refine G_goto (pc := 319) 11 dX10_solve_319 rfl ?_
        refine G_ls (ls' := [(5, _), (4, _), (0, _), (1, _), (2, _), (3, _)]) (lsub_c rfl (lsub_c rfl (lsub_c rfl (lsub_c rfl (lsub_c rfl (lsub_c rfl lsub_n)))))) ?_
        exact hn
      · have hne := g4 (by omega)
        have hxq := r107 (17 * q + u)
        have hf : S.2.1 107 (17 * q + u) * inv p (S.2.1 107 (17 * q + u)) % p = 1 := inv_em hP (by omega)
        have hfb := inv_bd (x := S.2.1 107 (17 * q + u)) hP
        have hsr : Red p (swi (S.2.1 107) q d 17) := swi_red r107
        have hcr : Red p (seg (17 * d) (17 * d + 17) (scf p (inv p (S.2.1 107 (17 * q + u))) (swi (S.2.1 107) q d 17)) (swi (S.2.1 107) q d 17)) := seg_red (fun _ => em_bd (by omega)) hsr
        have hpr : Red p (piv p (S.2.1 107) q d u (inv p (S.2.1 107 (17 * q + u))) many) := piv_red (by omega) r107
        have K304 : G g mX10_solve 3 0 0 304 [(5, .int (iI u)), (4, .int (iI d)), (0, gr g 96), (1, .int (iI many)), (2, .int (iI U)), (3, .int (iI t))] [] (hp g sh (putA S 107 (piv p (S.2.1 107) q d u (inv p (S.2.1 107 (17 * q + u))) many))) n 0 0 Q := by
          have hn := ih (u + 1) (d + 1) (setA (putA S 107 (piv p (S.2.1 107) q d u (inv p (S.2.1 107 (17 * q + u))) many)) 108 d u) (by omega) (by omega) (MScr_A (MScr_107 hS (by rw [← hS.1 96 1 (by decide), hp1]; exact hpr)) (by decide)) (MdW_putA (MdW_putA hW (by decide)) (by decide)) (MrW_108 (MrW_107 hR hpr)) hz
            (by
              have e1 : (setA (putA S 107 (piv p (S.2.1 107) q d u (inv p (S.2.1 107 (17 * q + u))) many)) 108 d u).2.1 107 = piv p (S.2.1 107) q d u (inv p (S.2.1 107 (17 * q + u))) many := (putA_ne (by decide)).trans putA_at
              have e2 : (setA (putA S 107 (piv p (S.2.1 107) q d u (inv p (S.2.1 107 (17 * q + u))) many)) 108 d u).2.1 108 = iup (S.2.1 108) d u := putA_at.trans (by rw [putA_ne (by decide)])
              rw [e1, e2]
              exact GsI_piv hP hI (by omega) (by omega) hf)
            (fun x => by
              have e1 : (setA (putA S 107 (piv p (S.2.1 107) q d u (inv p (S.2.1 107 (17 * q + u))) many)) 108 d u).2.1 107 = piv p (S.2.1 107) q d u (inv p (S.2.1 107 (17 * q + u))) many := (putA_ne (by decide)).trans putA_at
              rw [e1, Sol_piv hU (by omega) (by omega) (by omega) (inv_cg hP (by omega))]
              exact hx x)
          refine S_aload_n (pc := 304) dX10_solve_304 rfl ?_
          refine S_getR (pc := 305) dX10_solve_305 fX10_48 (by assumption) rfl (by assumption) ?_
          refine G_iload (pc := 308) dX10_solve_308 rfl ?_
          refine G_iload (pc := 310) dX10_solve_310 rfl ?_
          refine S_iast (pc := 312) dX10_solve_312 (by assumption) (by omega) ?_
          refine G_iinc (pc := 313) (ls' := [(4, _), (5, _), (0, _), (1, _), (2, _), (3, _)]) dX10_solve_313 rfl (by decide) rfl ?_
          refine G_iinc (pc := 316) (ls' := [(5, _), (4, _), (0, _), (1, _), (2, _), (3, _)]) dX10_solve_316 rfl (by decide) rfl ?_
          refine G_goto (pc := 319) 11 dX10_solve_319 rfl ?_
          exact hn
        have hr := l_X10_solveR (A := seg (17 * d) (17 * d + 17) (scf p (inv p (S.2.1 107 (17 * q + u))) (swi (S.2.1 107) q d 17)) (swi (S.2.1 107) q d 17)) (u := u) (d := d) (U := U) (t := t) hW hR hcr (by omega) (by omega) hm K304 many.toNat 0 (by omega) (by omega)
        rw [elm_0] at hr
        have K199 : G g mX10_solve 3 0 0 199 [(5, .int (iI u)), (4, .int (iI d)), (0, gr g 96), (1, .int (iI many)), (2, .int (iI U)), (3, .int (iI t))] [] (hp g sh (putA S 107 (seg (17 * d) (17 * d + 17) (scf p (inv p (S.2.1 107 (17 * q + u))) (swi (S.2.1 107) q d 17)) (swi (S.2.1 107) q d 17)))) n 0 0 Q := by
          refine G_iconst (pc := 199) dX10_solve_199 ?_
          refine G_istore (pc := 200) (ls' := [(8, _), (5, _), (4, _), (0, _), (1, _), (2, _), (3, _)]) dX10_solve_200 (by decide) rfl ?_
          exact hr
        have hs := l_X10_solveF (A := swi (S.2.1 107) q d 17) (q := q) (u := u) (many := many) (U := U) (t := t) hW hR hsr hfb (by omega) K199 17 0 (by omega) (by omega)
        rw [Int.add_zero, seg_0] at hs
        have K130 : G g mX10_solve 3 0 0 130 [(6, .int (iI q)), (5, .int (iI u)), (4, .int (iI d)), (0, gr g 96), (1, .int (iI many)), (2, .int (iI U)), (3, .int (iI t))] [] (hp g sh (putA S 107 (swi (S.2.1 107) q d 17))) n 0 0 Q := by
          have e1 : (putA S 107 (swi (S.2.1 107) q d 17)).2.1 107 (17 * d + u) = S.2.1 107 (17 * q + u) := by
            rw [putA_at]
            unfold swi
            by_cases h : q = d
            · rw [if_pos (by omega), h, show 17 * d + u - 17 * d + 17 * d = 17 * d + u by omega]
            · rw [if_neg (by omega), if_pos (by omega), show 17 * d + u - 17 * d + 17 * q = 17 * q + u by omega]
          refine S_aload_n (pc := 130) dX10_solve_130 rfl ?_
          refine S_aload_n (pc := 131) dX10_solve_131 rfl ?_
          refine S_getR (pc := 132) dX10_solve_132 fX10_45 (by assumption) rfl (by assumption) ?_
          refine G_bipush (pc := 135) dX10_solve_135 rfl ?_
          refine G_iload (pc := 137) dX10_solve_137 rfl ?_
          refine G_imul (pc := 139) dX10_solve_139 ?_
          refine G_iload (pc := 140) dX10_solve_140 rfl ?_
          refine G_iadd (pc := 142) dX10_solve_142 ?_
          refine S_iald (pc := 143) dX10_solve_143 (by assumption) (by omega) ?_
          rw [e1]
          refine S_callV (pc := 144) (ci := 10) (d2 := 2) (mc2 := 0) (ms2 := 0) (As := [_]) dX10_solve_144 kX10_inverse lkX10_266 (by assumption) rfl rfl rfl (Nat.le_of_ble_eq_true rfl) ⟨by decide, by decide⟩ (by decide) ?_
          refine c_X10_inverse (MdW_putA hW (by decide)) hxq ?_
          show G _ _ _ _ _ _ _ _ _ _ _ _ _
          refine G_istore (pc := 147) (ls' := [(7, _), (6, _), (5, _), (4, _), (0, _), (1, _), (2, _), (3, _)]) dX10_solve_147 (by decide) rfl ?_
          refine G_iconst (pc := 149) dX10_solve_149 ?_
          refine G_istore (pc := 150) (ls' := [(8, _), (7, _), (6, _), (5, _), (4, _), (0, _), (1, _), (2, _), (3, _)]) dX10_solve_150 (by decide) rfl ?_
          exact hs
        have hw := l_X10_solveS (A := S.2.1 107) (q := q) (u := u) (d := d) (many := many) (U := U) (t := t) hW hR (by omega) (by omega) K130 17 0 (by omega) (by omega)
        rw [swi_0, show putA S 107 (S.2.1 107) = S from putA_same] at hw
        refine G_iload (pc := 49) dX10_solve_49 rfl ?_
        refine G_iload_n (pc := 51) dX10_solve_51 rfl ?_
        refine G_icmp_ne_t (pc := 52) 58 dX10_solve_52 rfl (by omega) (by omega) ?_
        refine G_iconst (pc := 58) dX10_solve_58 ?_
        refine G_istore (pc := 59) (ls' := [(7, _), (6, _), (5, _), (4, _), (0, _), (1, _), (2, _), (3, _)]) dX10_solve_59 (by decide) rfl ?_
        exact hw
    have hp_ := l_X10_solveP (u := u) (d := d) (U := U) (t := t) hW hR rfl (by omega) hm K49 hId (many - d).toNat d (by omega) (Int.le_refl _) (fun r g1 g2 => absurd g2 (by omega))
    refine G_iload (pc := 11) dX10_solve_11 rfl ?_
    refine G_iload_n (pc := 13) dX10_solve_13 rfl ?_
    refine G_icmp_ge_f (pc := 14) 322 dX10_solve_14 rfl (by omega) (by omega) ?_
    refine G_iload (pc := 17) dX10_solve_17 rfl ?_
    refine G_istore (pc := 19) (ls' := [(6, _), (5, _), (4, _), (0, _), (1, _), (2, _), (3, _)]) dX10_solve_19 (by decide) rfl ?_
    exact hp_
set_option maxRecDepth 100000 in
set_option maxHeartbeats 4000000 in
theorem c_X10_solve {g : GC} {p : Int} {sh : SH} {S : SS} {n : Nat} {many U t : Int} {Q : Option Value → GA → Nat → Prop} (hW : MdW p sh S) (hR : MrW p sh S) (hm : 0 ≤ many ∧ many ≤ 16) (hU : 0 ≤ U ∧ U ≤ 16) (ht : 8 ≤ t ∧ t ≤ 15)
    (hq1 : ∀ (S' : SS) (x : Int → Int), MScr S S' → MdW p sh S' → MrW p sh S' → mg S' t = x → Red p x → (∀ j : Int, (j < 0 ∨ U ≤ j) → x j = 0) → Sol p many U (S.2.1 107) x → Q (some (.int (iI 1))) (hp g sh S') n)
    (hq0 : ∀ S' : SS, MScr S S' → MdW p sh S' → MrW p sh S' → (∀ x : Int → Int, ¬ Sol p many U (S.2.1 107) x) → Q (some (.int (iI 0))) (hp g sh S') n) : GCall g mX10_solve 3 0 0 [gr g 96, .int (iI many), .int (iI U), .int (iI t)] (hp g sh S) n Q := by
  have hP := hW.1
  have hpb := hP.bd
  have h96 := hW.2.1
  have r107 := hR.2.2.2.2
  refine GCall.of (by decide) (Nat.le_of_ble_eq_true rfl) (ls := [(0, _), (1, _), (2, _), (3, _)]) rfl ?_
  refine S_aload_n (pc := 0) dX10_solve_0 rfl ?_
  refine G_iload_n (pc := 1) dX10_solve_1 rfl ?_
  refine S_callV (pc := 2) (ci := 10) (d2 := 1) (mc2 := 0) (ms2 := 0) (As := [_]) dX10_solve_2 kX10_empty lkX10_105 (by assumption) rfl rfl rfl (Nat.le_of_ble_eq_true rfl) ⟨by decide, by decide⟩ (by decide) ?_
  refine c_X10_empty hW (by omega) ?_
  show G _ _ _ _ _ _ _ _ _ _ _ _ _
  refine G_iconst (pc := 5) dX10_solve_5 ?_
  refine G_istore (pc := 6) (ls' := [(4, _), (0, _), (1, _), (2, _), (3, _)]) dX10_solve_6 (by decide) rfl ?_
  refine G_iconst (pc := 8) dX10_solve_8 ?_
  refine G_istore (pc := 9) (ls' := [(5, _), (4, _), (0, _), (1, _), (2, _), (3, _)]) dX10_solve_9 (by decide) rfl ?_
  exact l_X10_solve hm hU ht hq1 hq0 U.toNat 0 0 (mset S t pz) (by omega) (by omega) (MScr_set MScr_rf ht.1) (MdW_set hW (Red_pz (by omega))) (MrW_set hR) (mg_set Sup_pz) ⟨r107, by omega, hm.1, by omega, fun i g1 g2 => absurd g2 (by omega), fun r g1 g2 v g3 g4 => absurd g4 (by omega)⟩ (fun x => Iff.rfl)
