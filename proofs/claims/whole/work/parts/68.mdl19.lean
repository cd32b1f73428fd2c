/-! the Model: relate, relation -/
/-- the same but for what a call uses in passing -/
def MScr (S S' : SS) : Prop := (∀ a k : Nat, (a ≠ 96 ∨ k < 15 ∨ (29 ≤ k ∧ k ≠ 34)) → S'.1 a k = S.1 a k) ∧ S'.2.2 = S.2.2 ∧ (∀ b : Nat, b ≠ 97 ∧ b ≠ 100 ∧ b ≠ 101 ∧ b ≠ 107 ∧ b ≠ 108 → S'.2.1 b = S.2.1 b) ∧ (∀ r : Int, 0 ≤ r → r < 8 → mg S' r = mg S r) ∧ (Red (S.1 96 1) (S.2.1 107) → Red (S.1 96 1) (S'.2.1 107))
theorem mset_F {S : SS} {r : Int} {ys : Int → Int} {a k : Nat} : (mset S r ys).1 a k = S.1 a k := rfl
theorem MScr_rf {S : SS} : MScr S S := ⟨fun _ _ _ => rfl, rfl, fun _ _ => rfl, fun _ _ _ => rfl, fun h => h⟩
theorem MScr_tr {S S' S'' : SS} (h : MScr S S') (h' : MScr S' S'') : MScr S S'' :=
  ⟨fun a k ha => (h'.1 a k ha).trans (h.1 a k ha), h'.2.1.trans h.2.1, fun b hb => (h'.2.2.1 b hb).trans (h.2.2.1 b hb), fun r h0 h8 => (h'.2.2.2.1 r h0 h8).trans (h.2.2.2.1 r h0 h8), fun z => by have e := h.1 96 1 (by decide); rw [← e]; exact h'.2.2.2.2 (by rw [e]; exact h.2.2.2.2 z)⟩
theorem MScr_set {S S' : SS} {r : Int} {ys : Int → Int} (h : MScr S S') (hr : 8 ≤ r) : MScr S (mset S' r ys) :=
  ⟨h.1, h.2.1, fun b hb => (putA_ne hb.1).trans (h.2.2.1 b hb), fun q h0 h8 => (mg_ne (by omega)).trans (h.2.2.2.1 q h0 h8), fun z => by show Red _ ((putA S' 97 _).2.1 107); rw [putA_ne (by decide)]; exact h.2.2.2.2 z⟩
theorem MScr_F {S S' : SS} {k : Nat} {v : Int} (h : MScr S S') (hk : (15 ≤ k ∧ k ≤ 28) ∨ k = 34) : MScr S (setF S' 96 k v) :=
  ⟨fun a j ha => (setF_ne (by omega)).trans (h.1 a j ha), h.2.1, h.2.2.1, h.2.2.2.1, h.2.2.2.2⟩
theorem MScr_A {S S' : SS} {b : Nat} {xs : Int → Int} (h : MScr S S') (hb : b = 100 ∨ b = 101 ∨ b = 108) : MScr S (putA S' b xs) :=
  ⟨h.1, h.2.1, fun c hc => (putA_ne (by omega)).trans (h.2.2.1 c hc), fun r h0 h8 => (mg_putA (by omega)).trans (h.2.2.2.1 r h0 h8), fun z => by rw [putA_ne (by omega)]; exact h.2.2.2.2 z⟩
theorem MScr_107 {S S' : SS} {xs : Int → Int} (h : MScr S S') (hx : Red (S.1 96 1) xs) : MScr S (putA S' 107 xs) :=
  ⟨h.1, h.2.1, fun c hc => (putA_ne (by omega)).trans (h.2.2.1 c hc), fun r h0 h8 => (mg_putA (by omega)).trans (h.2.2.2.1 r h0 h8), fun _ => by rw [putA_at]; exact hx⟩
theorem MScr_of {S S' : SS} (h : MRel S S') : MScr S S' :=
  ⟨fun a k _ => by rw [h.1], h.2.1, fun b hb => h.2.2.1 b hb.1, h.2.2.2, fun z => by rw [h.2.2.1 107 (by decide)]; exact z⟩
theorem MpW_scr {p m : Int} {sh : SH} {S S' : SS} (h : MScr S S') (hV : MpW p sh S m) : MpW p sh S' m := by
  obtain ⟨q30, q31, h105, h106, hm, hmb, r105, r106⟩ := hV
  exact ⟨by rw [h.2.1]; exact q30, by rw [h.2.1]; exact q31, h105, h106, by rw [h.1 96 29 (by decide)]; exact hm, hmb, by rw [h.2.2.1 105 (by decide)]; exact r105, by rw [h.2.2.1 106 (by decide)]; exact r106⟩
theorem MdW_F {p v : Int} {sh : SH} {S : SS} {k : Nat} (hW : MdW p sh S) (hk : k ≠ 1) : MdW p sh (setF S 96 k v) := by
  obtain ⟨hP, h96, hp1, p2, h97, hred⟩ := hW
  exact ⟨hP, h96, by rw [setF_ne (Or.inr (Ne.symm hk))]; exact hp1, p2, h97, hred⟩
theorem rl_sz {p m : Int} {vs : Int → Int} (hP : IsP p) : ∀ t : Nat, t ≤ 16 → (rl p vs m t).1.1 0 = 1 ∧ (∀ j : Int, (rl p vs m t).2.1 < j → (rl p vs m t).1.1 j = 0) ∧ (∀ j : Int, t + 1 - (rl p vs m t).2.1 < j + (rl p vs m t).2.2.1 → (rl p vs m t).1.2 j = 0)
  | 0, _ => by
    refine ⟨rfl, fun j hj => ?_, fun j hj => ?_⟩
    · have hj' : (0 : Int) < j := hj
      show iup pz 0 1 j = 0
      rw [iup_ne (by omega)]; rfl
    · have hj' : ((0 : Nat) : Int) + 1 - 0 < j + 1 := hj
      show iup pz 0 1 j = 0
      rw [iup_ne (by omega)]; rfl
  | t + 1, ht => by
    obtain ⟨h1, h2, h3⟩ := rl_sz (p := p) (vs := vs) (m := m) hP t (by omega)
    obtain ⟨a1, a2, a3, a4, a5, a6, a7, a8, a9, a10⟩ := rl_ok (p := p) (vs := vs) (m := m) hP t (by omega)
    unfold rl
    have h0 : ∀ f : Int, padd p (rl p vs m t).1.1 f (rl p vs m t).1.2 (rl p vs m t).2.2.1 0 = 1 := fun f => by
      rw [padd_out a2 (a3 _ (by omega))]; exact h1
    by_cases c1 : lck p (rl p vs m t).1.1 vs m t = 0
    · simp only [if_pos c1]
      exact ⟨h1, h2, fun j hj => h3 j (by omega)⟩
    · by_cases c2 : 2 * (rl p vs m t).2.1 ≤ t
      · simp only [if_neg c1, if_pos c2]
        refine ⟨h0 _, fun j hj => ?_, fun j hj => h2 j (by omega)⟩
        rw [padd_out a2 (h3 _ (by omega))]; exact h2 j (by omega)
      · simp only [if_neg c1, if_neg c2]
        refine ⟨h0 _, fun j hj => ?_, fun j hj => h3 j (by omega)⟩
        rw [padd_out a2 (h3 _ (by omega))]; exact h2 j (by omega)
theorem rl_c0 {p m : Int} {vs : Int → Int} {t : Nat} (h : lck p (rl p vs m t).1.1 vs m t = 0) : rl p vs m (t + 1) = ((rl p vs m t).1, ((rl p vs m t).2.1, (rl p vs m t).2.2.1 + 1, (rl p vs m t).2.2.2)) := if_pos h
theorem rl_c1 {p m : Int} {vs : Int → Int} {t : Nat} (h : ¬ lck p (rl p vs m t).1.1 vs m t = 0) (h2 : 2 * (rl p vs m t).2.1 ≤ t) : rl p vs m (t + 1) = ((padd p (rl p vs m t).1.1 (-(lck p (rl p vs m t).1.1 vs m t * inv p (rl p vs m t).2.2.2 % p)) (rl p vs m t).1.2 (rl p vs m t).2.2.1, (rl p vs m t).1.1), (t + 1 - (rl p vs m t).2.1, 1, lck p (rl p vs m t).1.1 vs m t)) := (if_neg h).trans (if_pos h2)
theorem rl_c2 {p m : Int} {vs : Int → Int} {t : Nat} (h : ¬ lck p (rl p vs m t).1.1 vs m t = 0) (h2 : ¬ 2 * (rl p vs m t).2.1 ≤ t) : rl p vs m (t + 1) = ((padd p (rl p vs m t).1.1 (-(lck p (rl p vs m t).1.1 vs m t * inv p (rl p vs m t).2.2.2 % p)) (rl p vs m t).1.2 (rl p vs m t).2.2.1, (rl p vs m t).1.2), ((rl p vs m t).2.1, (rl p vs m t).2.2.1 + 1, (rl p vs m t).2.2.2)) := (if_neg h).trans (if_neg h2)
/-- what is lacking, as the Model adds it -/
theorem lck_L {p m L i : Int} {C vs : Int → Int} (hC : Sup C 64) (hL : 0 ≤ L ∧ L ≤ 63) (hz : ∀ j : Int, L < j → C j = 0) : csum (fun j => C j * itm vs m (i - j)) (L + 1).toNat % p = lck p C vs m i := by
  unfold lck
  have h1 := plen_bd C 64
  have h2 : plen C 64 ≤ L + 1 := plen_le (by omega) (fun j h _ => hz j (by omega))
  rw [csum_more (m := (plen C 64).toNat) (n := (L + 1).toNat) (by omega) (fun j h3 h4 => by show C j * _ = 0; rw [Sup_len hC (by omega), Int.zero_mul])]
set_option maxRecDepth 100000 in
set_option maxHeartbeats 4000000 in
theorem l_X10_relateD {g : GC} {p m t L : Int} {sh : SH} {S : SS} {n : Nat} {old bh : Value} {Q : Option Value → GA → Nat → Prop} (hW : MdW p sh S) (hV : MpW p sh S m) (ht : 0 ≤ t ∧ t < m) (hL : S.1 96 34 = L) (hLb : 0 ≤ L ∧ L ≤ t)
    (K : G g mX10_relate 5 0 0 106 [(4, .int (iI (csum (fun j => mg S 8 j * itm (S.2.1 106) m (t - j)) (L + 1).toNat % p))), (3, .int (iI t)), (2, old), (1, bh), (0, gr g 96)] [] (hp g sh S) n 0 0 Q) :
    ∀ (k : Nat) (i : Int), i + k = L + 1 → 1 ≤ i → G g mX10_relate 5 0 0 60 [(5, .int (iI i)), (4, .int (iI (csum (fun j => mg S 8 j * itm (S.2.1 106) m (t - j)) i.toNat % p))), (3, .int (iI t)), (2, old), (1, bh), (0, gr g 96)] [] (hp g sh S) n 0 0 Q := by
  have hW' := hW
  obtain ⟨hP, h96, hp1, p2, h97, hred⟩ := hW'
  have hV' := hV
  obtain ⟨q30, q31, h105, h106, hm, hmb, r105, r106⟩ := hV'
  have hpb := hP.bd
  intro k
  induction k with
  | zero =>
    intro i hi h0
    refine G_iload (pc := 60) dX10_relate_60 rfl ?_
    refine S_aload_n (pc := 62) dX10_relate_62 rfl ?_
    refine S_getI (pc := 63) dX10_relate_63 fX10_296 (by assumption) rfl ?_
    rw [hL]
    refine G_icmp_gt_t (pc := 66) 106 dX10_relate_66 rfl (by omega) (by omega) ?_
    refine G_ls (ls' := [(4, _), (3, _), (2, _), (1, _), (0, _)]) (lsub_c rfl (lsub_c rfl (lsub_c rfl (lsub_c rfl (lsub_c rfl lsub_n))))) ?_
    rw [show i = L + 1 by omega]
    exact K
  | succ k ih =>
    intro i hi h0
    have e1 : S.2.1 97 (640 + i) = mg S 8 i := mg_at (by omega) (by omega)
    have hx := mg_red (r := 8) hW i
    have hy := r106 (t - i)
    have hm2 := mul_bd hx hy hpb.2
    have hd := em_bd (z := csum (fun j => mg S 8 j * itm (S.2.1 106) m (t - j)) i.toNat) (p := p) (by omega)
    have e2 : (csum (fun j => mg S 8 j * itm (S.2.1 106) m (t - j)) i.toNat % p + mg S 8 i * S.2.1 106 (t - i)) % p = csum (fun j => mg S 8 j * itm (S.2.1 106) m (t - j)) (i + 1).toNat % p := by
      rw [show (i + 1).toNat = i.toNat + 1 by omega]
      show _ = (csum (fun j => mg S 8 j * itm (S.2.1 106) m (t - j)) i.toNat + mg S 8 (i.toNat : Int) * itm (S.2.1 106) m (t - (i.toNat : Int))) % p
      rw [show (i.toNat : Int) = i by omega, itm_in (by omega), em_add_l]
    refine G_iload (pc := 60) dX10_relate_60 rfl ?_
    refine S_aload_n (pc := 62) dX10_relate_62 rfl ?_
    refine S_getI (pc := 63) dX10_relate_63 fX10_296 (by assumption) rfl ?_
    rw [hL]
    refine G_icmp_gt_f (pc := 66) 106 dX10_relate_66 rfl (by omega) (by omega) ?_
    refine G_iload (pc := 69) dX10_relate_69 rfl ?_
    refine S_aload_n (pc := 71) dX10_relate_71 rfl ?_
    refine S_getR (pc := 72) dX10_relate_72 fX10_13 (by assumption) rfl (by assumption) ?_
    refine G_sipush (pc := 75) dX10_relate_75 rfl ?_
    refine G_iload (pc := 78) dX10_relate_78 rfl ?_
    refine G_iadd (pc := 80) dX10_relate_80 ?_
    refine S_iald (pc := 81) dX10_relate_81 (by assumption) (by omega) ?_
    rw [e1]
    refine S_aload_n (pc := 82) dX10_relate_82 rfl ?_
    refine S_getR (pc := 83) dX10_relate_83 fX10_42 (by assumption) rfl (by assumption) ?_
    refine G_iload_n (pc := 86) dX10_relate_86 rfl ?_
    refine G_iload (pc := 87) dX10_relate_87 rfl ?_
    refine G_isub (pc := 89) dX10_relate_89 ?_
    refine S_iald (pc := 90) dX10_relate_90 (by assumption) (by omega) ?_
    refine G_imul (pc := 91) dX10_relate_91 ?_
    refine G_iadd (pc := 92) dX10_relate_92 ?_
    refine S_aload_n (pc := 93) dX10_relate_93 rfl ?_
    refine S_getI (pc := 94) dX10_relate_94 fX10_64 (by assumption) rfl ?_
    rw [hp1]
    refine G_iremP (pc := 97) dX10_relate_97 (by omega) ?_
    rw [e2]
    refine G_istore (pc := 98) (ls' := [(4, _), (5, _), (3, _), (2, _), (1, _), (0, _)]) dX10_relate_98 (by decide) rfl ?_
    refine G_iinc (pc := 100) (ls' := [(5, _), (4, _), (3, _), (2, _), (1, _), (0, _)]) dX10_relate_100 rfl (by decide) rfl ?_
    refine G_goto (pc := 103) 60 dX10_relate_103 rfl ?_
    exact ih (i + 1) (by omega) (by omega)
set_option maxRecDepth 100000 in
set_option maxHeartbeats 4000000 in
theorem l_X10_relateI {g : GC} {p t b f d : Int} {sh : SH} {S : SS} {n : Nat} {C B : Int → Int} {old : Value} {Q : Option Value → GA → Nat → Prop} (hW : MdW p sh S) (hb : 1 ≤ b ∧ b ≤ 17) (hf : 0 ≤ f ∧ f < p) (hC : Sup C 80) (hCr : Red p C) (hB : mg S 9 = B) (hBs : Sup B 63)
    (K : G g mX10_relate 5 0 0 203 [(5, .int (iI f)), (4, .int (iI d)), (3, .int (iI t)), (2, old), (1, .int (iI b)), (0, gr g 96)] [] (hp g sh (mset S 8 (padd p C (-f) B b))) n 0 0 Q) :
    ∀ (k : Nat) (i : Int), i + b + k = 80 → 0 ≤ i → G g mX10_relate 5 0 0 143 [(6, .int (iI i)), (5, .int (iI f)), (4, .int (iI d)), (3, .int (iI t)), (2, old), (1, .int (iI b)), (0, gr g 96)] [] (hp g sh (mset S 8 (seg b (b + i) (padd p C (-f) B b) C))) n 0 0 Q := by
  have hW' := hW
  obtain ⟨hP, h96, hp1, p2, h97, hred⟩ := hW'
  have hpb := hP.bd
  intro k
  induction k with
  | zero =>
    intro i hi h0
    refine G_iload (pc := 143) dX10_relate_143 rfl ?_
    refine G_iload_n (pc := 145) dX10_relate_145 rfl ?_
    refine G_iadd (pc := 146) dX10_relate_146 ?_
    refine G_bipush (pc := 147) dX10_relate_147 rfl ?_
    refine G_icmp_ge_t (pc := 149) 203 dX10_relate_149 rfl (by omega) (by omega) ?_
    refine G_ls (ls' := [(5, _), (4, _), (3, _), (2, _), (1, _), (0, _)]) (lsub_c rfl (lsub_c rfl (lsub_c rfl (lsub_c rfl (lsub_c rfl (lsub_c rfl lsub_n)))))) ?_
    rw [seg_all (fun j hj => padd_out hCr (hBs _ (by omega)))]
    exact K
  | succ k ih =>
    intro i hi h0
    have hsr : Red p (seg b (b + i) (padd p C (-f) B b) C) := seg_red (padd_red (by omega)) hCr
    have hss : Sup (seg b (b + i) (padd p C (-f) B b) C) 80 := seg_sup hC (by omega) (by omega)
    have hW2 : MdW p sh (mset S 8 (seg b (b + i) (padd p C (-f) B b) C)) := MdW_set hW hsr
    have e1 : (mset S 8 (seg b (b + i) (padd p C (-f) B b) C)).2.1 97 (640 + i + b) = C (b + i) := by
      rw [mg_at (r := 8) (i := b + i) (by omega) (by omega), mg_set hss]
      exact seg_out (by omega)
    have e2 : (mset S 8 (seg b (b + i) (padd p C (-f) B b) C)).2.1 97 (720 + i) = B i := by rw [mg_at (r := 9) (i := i) (by omega) (by omega), mg_ne (by decide), hB]
    have hx := hCr (b + i)
    have hb1 : 0 ≤ B i ∧ B i < p := by rw [← hB]; exact mg_red hW i
    have hmm := mul_bd hf hb1 hpb.2
    have e3 : (C (b + i) - f * B i) % p = padd p C (-f) B b (b + i) := by
      unfold padd
      rw [show b + i - b = i by omega, Int.neg_mul, Int.sub_eq_add_neg]
    refine G_iload (pc := 143) dX10_relate_143 rfl ?_
    refine G_iload_n (pc := 145) dX10_relate_145 rfl ?_
    refine G_iadd (pc := 146) dX10_relate_146 ?_
    refine G_bipush (pc := 147) dX10_relate_147 rfl ?_
    refine G_icmp_ge_f (pc := 149) 203 dX10_relate_149 rfl (by omega) (by omega) ?_
    refine S_aload_n (pc := 152) dX10_relate_152 rfl ?_
    refine S_getR (pc := 153) dX10_relate_153 fX10_13 (by assumption) rfl (by assumption) ?_
    refine G_sipush (pc := 156) dX10_relate_156 rfl ?_
    refine G_iload (pc := 159) dX10_relate_159 rfl ?_
    refine G_iadd (pc := 161) dX10_relate_161 ?_
    refine G_iload_n (pc := 162) dX10_relate_162 rfl ?_
    refine G_iadd (pc := 163) dX10_relate_163 ?_
    refine S_aload_n (pc := 164) dX10_relate_164 rfl ?_
    refine S_aload_n (pc := 165) dX10_relate_165 rfl ?_
    refine S_getR (pc := 166) dX10_relate_166 fX10_13 (by assumption) rfl (by assumption) ?_
    refine G_sipush (pc := 169) dX10_relate_169 rfl ?_
    refine G_iload (pc := 172) dX10_relate_172 rfl ?_
    refine G_iadd (pc := 174) dX10_relate_174 ?_
    refine G_iload_n (pc := 175) dX10_relate_175 rfl ?_
    refine G_iadd (pc := 176) dX10_relate_176 ?_
    refine S_iald (pc := 177) dX10_relate_177 (by assumption) (by omega) ?_
    rw [e1]
    refine G_iload (pc := 178) dX10_relate_178 rfl ?_
    refine S_aload_n (pc := 180) dX10_relate_180 rfl ?_
    refine S_getR (pc := 181) dX10_relate_181 fX10_13 (by assumption) rfl (by assumption) ?_
    refine G_sipush (pc := 184) dX10_relate_184 rfl ?_
    refine G_iload (pc := 187) dX10_relate_187 rfl ?_
    refine G_iadd (pc := 189) dX10_relate_189 ?_
    refine S_iald (pc := 190) dX10_relate_190 (by assumption) (by omega) ?_
    rw [e2]
    refine G_imul (pc := 191) dX10_relate_191 ?_
    refine G_isub (pc := 192) dX10_relate_192 ?_
    refine S_callV (pc := 193) (ci := 10) (d2 := 1) (mc2 := 0) (ms2 := 0) (As := [_]) dX10_relate_193 kX10_rest lkX10_102 (by assumption) rfl rfl rfl (Nat.le_of_ble_eq_true rfl) ⟨by decide, by decide⟩ (by decide) ?_
    refine c_X10_rest hW2 (by omega) ?_
    rw [e3]
    show G _ _ _ _ _ _ _ _ _ _ _ _ _
    refine S_iast (pc := 196) dX10_relate_196 (by assumption) (by omega) ?_
    refine G_iinc (pc := 197) (ls' := [(6, _), (5, _), (4, _), (3, _), (2, _), (1, _), (0, _)]) dX10_relate_197 rfl (by decide) rfl ?_
    refine G_goto (pc := 200) 143 dX10_relate_200 rfl ?_
    rw [show 640 + i + b = 80 * 8 + (b + i) by omega, mset_setA (by omega), seg_S (by omega), show b + i + 1 = b + (i + 1) by omega]
    exact ih (i + 1) (by omega) (by omega)
set_option maxRecDepth 100000 in
set_option maxHeartbeats 4000000 in
theorem l_X10_relate {g : GC} {p m : Int} {sh : SH} {S0 : SS} {n : Nat} {vs : Int → Int} {Q : Option Value → GA → Nat → Prop} (hvs : S0.2.1 106 = vs) (hq : ∀ S : SS, MScr S0 S → MdW p sh S → MpW p sh S m → mg S 8 = (rl p vs m m.toNat).1.1 → S.1 96 34 = (rl p vs m m.toNat).2.1 → Q none (hp g sh S) n) :
    ∀ (k t : Nat) (S : SS), t + k = m → MScr S0 S → MdW p sh S → MpW p sh S m → mg S 8 = (rl p vs m t).1.1 → mg S 9 = (rl p vs m t).1.2 → S.1 96 34 = (rl p vs m t).2.1 →
    G g mX10_relate 5 0 0 41 [(3, .int (iI t)), (2, .int (iI (rl p vs m t).2.2.2)), (1, .int (iI (rl p vs m t).2.2.1)), (0, gr g 96)] [] (hp g sh S) n 0 0 Q := by
  intro k
  induction k with
  | zero =>
    intro t S ht hR hW hV h8 h9 hs
    have hW' := hW
    obtain ⟨hP, h96, hp1, p2, h97, hred⟩ := hW'
    have hV' := hV
    obtain ⟨q30, q31, h105, h106, hm, hmb, r105, r106⟩ := hV'
    have et : t = m.toNat := by omega
    refine G_iload_n (pc := 41) dX10_relate_41 rfl ?_
    refine S_aload_n (pc := 42) dX10_relate_42 rfl ?_
    refine S_getI (pc := 43) dX10_relate_43 fX10_284 (by assumption) rfl ?_
    rw [hm]
    refine G_icmp_ge_t (pc := 46) 250 dX10_relate_46 rfl (by omega) (by omega) ?_
    refine G_vret (pc := 250) dX10_relate_250 rfl (by decide) ?_
    exact hq S hR hW hV (by rw [← et]; exact h8) (by rw [← et]; exact hs)
  | succ k ih =>
    intro t S ht hR hW hV h8 h9 hs
    have hW' := hW
    obtain ⟨hP, h96, hp1, p2, h97, hred⟩ := hW'
    have hV' := hV
    obtain ⟨q30, q31, h105, h106, hm, hmb, r105, r106⟩ := hV'
    have hpb := hP.bd
    have ev : S.2.1 106 = vs := by rw [hR.2.2.1 106 (by decide)]; exact hvs
    obtain ⟨z1, z2, z3⟩ := rl_sz (p := p) (vs := vs) (m := m) hP t (by omega)
    obtain ⟨a1, a2, a3, a4, a5, a6, a7, a8, a9, a10⟩ := rl_ok (p := p) (vs := vs) (m := m) hP t (by omega)
    have a6' : plen (rl p vs m t).1.2 64 + (rl p vs m t).2.2.1 ≤ t + 2 := a6
    have hn := rl p vs m (t + 1)
    have hd := em_bd (z := csum (fun j => (rl p vs m t).1.1 j * itm vs m (t - j)) ((rl p vs m t).2.1 + 1).toNat) (p := p) (by omega)
    have ed : csum (fun j => (rl p vs m t).1.1 j * itm vs m (t - j)) ((rl p vs m t).2.1 + 1).toNat % p = lck p (rl p vs m t).1.1 vs m t := lck_L a1 (by omega) z2
    rw [ed] at hd
    have hL17 : (rl p vs m t).2.2.1 ≤ 17 := by have := plen_bd (rl p vs m t).1.2 64; omega
    have hBs : Sup (rl p vs m t).1.2 63 := fun j hj => hj.elim (fun h => a3 j (Or.inl h)) (fun h => z3 j (by omega))
    have hib := inv_bd (x := (rl p vs m t).2.2.2) hP
    have hmm := mul_bd hd hib hpb.2
    have hfb := em_bd (z := lck p (rl p vs m t).1.1 vs m t * inv p (rl p vs m t).2.2.2) (p := p) (by omega)
    have hns : ∀ S1 : SS, MScr S0 S1 → MdW p sh S1 → MpW p sh S1 m → mg S1 8 = (rl p vs m (t + 1)).1.1 → mg S1 9 = (rl p vs m (t + 1)).1.2 → S1.1 96 34 = (rl p vs m (t + 1)).2.1 → G g mX10_relate 5 0 0 41 [(3, .int (iI (t + 1))), (2, .int (iI (rl p vs m (t + 1)).2.2.2)), (1, .int (iI (rl p vs m (t + 1)).2.2.1)), (0, gr g 96)] [] (hp g sh S1) n 0 0 Q := fun S1 r1 r2 r3 r4 r5 r6 => ih (t + 1) S1 (by omega) r1 r2 r3 r4 r5 r6
    have W1 : MdW p sh (mset S 14 (rl p vs m t).1.1) := MdW_set hW a2
    have V1 : MpW p sh (mset S 14 (rl p vs m t).1.1) m := MpW_scr (MScr_set MScr_rf (by decide)) hV
    have hnr : Red p (padd p (rl p vs m t).1.1 (-(lck p (rl p vs m t).1.1 vs m t * inv p (rl p vs m t).2.2.2 % p)) (rl p vs m t).1.2 (rl p vs m t).2.2.1) := padd_red (by omega)
    have hnS : Sup (padd p (rl p vs m t).1.1 (-(lck p (rl p vs m t).1.1 vs m t * inv p (rl p vs m t).2.2.2 % p)) (rl p vs m t).1.2 (rl p vs m t).2.2.1) 80 := padd_sup (la := 63) a2 (Sup_more a1 (by decide)) (by omega) (fun j hj => hBs j (by omega)) (by omega)
    have K2 : lck p (rl p vs m t).1.1 vs m t ≠ 0 → G g mX10_relate 5 0 0 203 [(5, .int (iI (lck p (rl p vs m t).1.1 vs m t * inv p (rl p vs m t).2.2.2 % p))), (4, .int (iI (lck p (rl p vs m t).1.1 vs m t))), (3, .int (iI t)), (2, .int (iI (rl p vs m t).2.2.2)), (1, .int (iI (rl p vs m t).2.2.1)), (0, gr g 96)] [] (hp g sh (mset (mset S 14 (rl p vs m t).1.1) 8 (padd p (rl p vs m t).1.1 (-(lck p (rl p vs m t).1.1 vs m t * inv p (rl p vs m t).2.2.2 % p)) (rl p vs m t).1.2 (rl p vs m t).2.2.1))) n 0 0 Q := by
      intro hne
      have hs2 : (mset (mset S 14 (rl p vs m t).1.1) 8 (padd p (rl p vs m t).1.1 (-(lck p (rl p vs m t).1.1 vs m t * inv p (rl p vs m t).2.2.2 % p)) (rl p vs m t).1.2 (rl p vs m t).2.2.1)).1 96 34 = (rl p vs m t).2.1 := hs
      have W2 : MdW p sh (mset (mset S 14 (rl p vs m t).1.1) 8 (padd p (rl p vs m t).1.1 (-(lck p (rl p vs m t).1.1 vs m t * inv p (rl p vs m t).2.2.2 % p)) (rl p vs m t).1.2 (rl p vs m t).2.2.1)) := MdW_set W1 hnr
      have R2 : MScr S0 (mset (mset S 14 (rl p vs m t).1.1) 8 (padd p (rl p vs m t).1.1 (-(lck p (rl p vs m t).1.1 vs m t * inv p (rl p vs m t).2.2.2 % p)) (rl p vs m t).1.2 (rl p vs m t).2.2.1)) := MScr_set (MScr_set hR (by decide)) (by decide)
      have V2 : MpW p sh (mset (mset S 14 (rl p vs m t).1.1) 8 (padd p (rl p vs m t).1.1 (-(lck p (rl p vs m t).1.1 vs m t * inv p (rl p vs m t).2.2.2 % p)) (rl p vs m t).1.2 (rl p vs m t).2.2.1)) m := MpW_scr (MScr_set (MScr_set MScr_rf (by decide)) (by decide)) hV
      by_cases c2 : 2 * (rl p vs m t).2.1 ≤ t
      · have hn2 := hns (mset (setF (mset (mset S 14 (rl p vs m t).1.1) 8 (padd p (rl p vs m t).1.1 (-(lck p (rl p vs m t).1.1 vs m t * inv p (rl p vs m t).2.2.2 % p)) (rl p vs m t).1.2 (rl p vs m t).2.2.1)) 96 34 (t + 1 - (rl p vs m t).2.1)) 9 (rl p vs m t).1.1) (MScr_set (MScr_F R2 (by decide)) (by decide)) (MdW_set (MdW_F W2 (by decide)) a2) (MpW_scr (MScr_set (MScr_F MScr_rf (by decide)) (by decide)) V2)
        rw [rl_c1 hne c2] at hn2
        have hn3 := hn2 (by rw [mg_ne (by decide)]; exact mg_set hnS) (mg_set (Sup_more a1 (by decide))) (by rw [mset_F]; exact setF_at)
        have W3 : MdW p sh (setF (mset (mset S 14 (rl p vs m t).1.1) 8 (padd p (rl p vs m t).1.1 (-(lck p (rl p vs m t).1.1 vs m t * inv p (rl p vs m t).2.2.2 % p)) (rl p vs m t).1.2 (rl p vs m t).2.2.1)) 96 34 (t + 1 - (rl p vs m t).2.1)) := MdW_F W2 (by decide)
        have v14 : mg (setF (mset (mset S 14 (rl p vs m t).1.1) 8 (padd p (rl p vs m t).1.1 (-(lck p (rl p vs m t).1.1 vs m t * inv p (rl p vs m t).2.2.2 % p)) (rl p vs m t).1.2 (rl p vs m t).2.2.1)) 96 34 (t + 1 - (rl p vs m t).2.1)) 14 = (rl p vs m t).1.1 := by
          show mg (mset (mset S 14 _) 8 _) 14 = _
          rw [mg_ne (by decide), mg_set (Sup_more a1 (by decide))]
        refine G_iconst (pc := 203) dX10_relate_203 ?_
        refine S_aload_n (pc := 204) dX10_relate_204 rfl ?_
        refine S_getI (pc := 205) dX10_relate_205 fX10_296 (by assumption) rfl ?_
        rw [hs2]
        refine G_imul (pc := 208) dX10_relate_208 ?_
        refine G_iload_n (pc := 209) dX10_relate_209 rfl ?_
        refine G_icmp_le_t (pc := 210) 219 dX10_relate_210 rfl (by omega) (by omega) ?_
        refine S_aload_n (pc := 219) dX10_relate_219 rfl ?_
        refine G_iload_n (pc := 220) dX10_relate_220 rfl ?_
        refine G_iconst (pc := 221) dX10_relate_221 ?_
        refine G_iadd (pc := 222) dX10_relate_222 ?_
        refine S_aload_n (pc := 223) dX10_relate_223 rfl ?_
        refine S_getI (pc := 224) dX10_relate_224 fX10_296 (by assumption) rfl ?_
        rw [hs2]
        refine G_isub (pc := 227) dX10_relate_227 ?_
        refine S_putI (pc := 228) dX10_relate_228 fX10_296 (by assumption) rfl ⟨rfl, rfl⟩ ?_
        refine S_aload_n (pc := 231) dX10_relate_231 rfl ?_
        refine G_bipush (pc := 232) dX10_relate_232 rfl ?_
        refine G_bipush (pc := 234) dX10_relate_234 rfl ?_
        refine S_callV (pc := 236) (ci := 10) (d2 := 1) (mc2 := 0) (ms2 := 0) (As := [_, _]) dX10_relate_236 kX10_copy lkX10_90 (by assumption) rfl rfl rfl (Nat.le_of_ble_eq_true rfl) ⟨by decide, by decide⟩ (by decide) ?_
        refine c_X10_copy W3 (by omega) (by omega) ?_
        rw [v14]
        show G _ _ _ _ _ _ _ _ _ _ _ _ _
        refine G_iload (pc := 239) dX10_relate_239 rfl ?_
        refine G_istore_n (pc := 241) (ls' := [(2, _), (5, _), (4, _), (3, _), (1, _), (0, _)]) dX10_relate_241 (by decide) rfl ?_
        refine G_iconst (pc := 242) dX10_relate_242 ?_
        refine G_istore_n (pc := 243) (ls' := [(1, _), (2, _), (5, _), (4, _), (3, _), (0, _)]) dX10_relate_243 (by decide) rfl ?_
        refine G_iinc (pc := 244) (ls' := [(3, _), (1, _), (2, _), (5, _), (4, _), (0, _)]) dX10_relate_244 rfl (by decide) rfl ?_
        refine G_goto (pc := 247) 41 dX10_relate_247 rfl ?_
        refine G_ls (ls' := [(3, _), (2, _), (1, _), (0, _)]) (lsub_c rfl (lsub_c rfl (lsub_c rfl (lsub_c rfl lsub_n)))) ?_
        exact hn3
      · have hn2 := hns _ R2 W2 V2
        rw [rl_c2 hne c2] at hn2
        have hn3 := hn2 (mg_set hnS) (by rw [mg_ne (by decide), mg_ne (by decide)]; exact h9) hs2
        refine G_iconst (pc := 203) dX10_relate_203 ?_
        refine S_aload_n (pc := 204) dX10_relate_204 rfl ?_
        refine S_getI (pc := 205) dX10_relate_205 fX10_296 (by assumption) rfl ?_
        rw [hs2]
        refine G_imul (pc := 208) dX10_relate_208 ?_
        refine G_iload_n (pc := 209) dX10_relate_209 rfl ?_
        refine G_icmp_le_f (pc := 210) 219 dX10_relate_210 rfl (by omega) (by omega) ?_
        refine G_iinc (pc := 213) (ls' := [(1, _), (5, _), (4, _), (3, _), (2, _), (0, _)]) dX10_relate_213 rfl (by decide) rfl ?_
        refine G_goto (pc := 216) 244 dX10_relate_216 rfl ?_
        refine G_iinc (pc := 244) (ls' := [(3, _), (1, _), (5, _), (4, _), (2, _), (0, _)]) dX10_relate_244 rfl (by decide) rfl ?_
        refine G_goto (pc := 247) 41 dX10_relate_247 rfl ?_
        refine G_ls (ls' := [(3, _), (2, _), (1, _), (0, _)]) (lsub_c rfl (lsub_c rfl (lsub_c rfl (lsub_c rfl lsub_n)))) ?_
        exact hn3
    have K : G g mX10_relate 5 0 0 106 [(4, .int (iI (csum (fun j => mg S 8 j * itm (S.2.1 106) m (t - j)) ((rl p vs m t).2.1 + 1).toNat % p))), (3, .int (iI t)), (2, .int (iI (rl p vs m t).2.2.2)), (1, .int (iI (rl p vs m t).2.2.1)), (0, gr g 96)] [] (hp g sh S) n 0 0 Q := by
      rw [h8, ev, ed]
      by_cases hne : lck p (rl p vs m t).1.1 vs m t = 0
      · have hn2 := hns S hR hW hV
        rw [rl_c0 hne] at hn2
        have hn3 := hn2 h8 h9 hs
        refine G_iload (pc := 106) dX10_relate_106 rfl ?_
        refine G_if_ne_f (pc := 108) 117 dX10_relate_108 rfl (by omega) (by omega) ?_
        refine G_iinc (pc := 111) (ls' := [(1, _), (4, _), (3, _), (2, _), (0, _)]) dX10_relate_111 rfl (by decide) rfl ?_
        refine G_goto (pc := 114) 244 dX10_relate_114 rfl ?_
        refine G_iinc (pc := 244) (ls' := [(3, _), (1, _), (4, _), (2, _), (0, _)]) dX10_relate_244 rfl (by decide) rfl ?_
        refine G_goto (pc := 247) 41 dX10_relate_247 rfl ?_
        refine G_ls (ls' := [(3, _), (2, _), (1, _), (0, _)]) (lsub_c rfl (lsub_c rfl (lsub_c rfl (lsub_c rfl lsub_n)))) ?_
        exact hn3
      · have hin := l_X10_relateI (C := (rl p vs m t).1.1) (d := lck p (rl p vs m t).1.1 vs m t) W1 (by omega) hfb (Sup_more a1 (by decide)) a2 (by rw [mg_ne (by decide)]; exact h9) hBs (K2 hne) (80 - (rl p vs m t).2.2.1).toNat 0 (by omega) (by omega)
        rw [Int.add_zero, seg_0] at hin
        have e8 : mset (mset S 14 (rl p vs m t).1.1) 8 (rl p vs m t).1.1 = mset S 14 (rl p vs m t).1.1 := by
          rw [mset_comm (by decide), ← h8, mset_self]
        rw [e8] at hin
        refine G_iload (pc := 106) dX10_relate_106 rfl ?_
        refine G_if_ne_t (pc := 108) 117 dX10_relate_108 rfl (by omega) (by omega) ?_
        refine S_aload_n (pc := 117) dX10_relate_117 rfl ?_
        refine G_bipush (pc := 118) dX10_relate_118 rfl ?_
        refine G_bipush (pc := 120) dX10_relate_120 rfl ?_
        refine S_callV (pc := 122) (ci := 10) (d2 := 1) (mc2 := 0) (ms2 := 0) (As := [_, _]) dX10_relate_122 kX10_copy lkX10_90 (by assumption) rfl rfl rfl (Nat.le_of_ble_eq_true rfl) ⟨by decide, by decide⟩ (by decide) ?_
        refine c_X10_copy hW (by omega) (by omega) ?_
        rw [h8]
        show G _ _ _ _ _ _ _ _ _ _ _ _ _
        refine G_iload (pc := 125) dX10_relate_125 rfl ?_
        refine S_aload_n (pc := 127) dX10_relate_127 rfl ?_
        refine G_iload_n (pc := 128) dX10_relate_128 rfl ?_
        refine S_callV (pc := 129) (ci := 10) (d2 := 2) (mc2 := 0) (ms2 := 0) (As := [_]) dX10_relate_129 kX10_inverse lkX10_266 (by assumption) rfl rfl rfl (Nat.le_of_ble_eq_true rfl) ⟨by decide, by decide⟩ (by decide) ?_
        refine c_X10_inverse W1 (by omega) ?_
        show G _ _ _ _ _ _ _ _ _ _ _ _ _
        refine G_imul (pc := 132) dX10_relate_132 ?_
        refine S_aload_n (pc := 133) dX10_relate_133 rfl ?_
        refine S_getI (pc := 134) dX10_relate_134 fX10_64 (by assumption) rfl ?_
        rw [show (mset S 14 (rl p vs m t).1.1).1 96 1 = p from hp1]
        refine G_iremP (pc := 137) dX10_relate_137 (by omega) ?_
        refine G_istore (pc := 138) (ls' := [(5, _), (4, _), (3, _), (2, _), (1, _), (0, _)]) dX10_relate_138 (by decide) rfl ?_
        refine G_iconst (pc := 140) dX10_relate_140 ?_
        refine G_istore (pc := 141) (ls' := [(6, _), (5, _), (4, _), (3, _), (2, _), (1, _), (0, _)]) dX10_relate_141 (by decide) rfl ?_
        exact hin
    have hD := l_X10_relateD (t := t) (old := .int (iI (rl p vs m t).2.2.2)) (bh := .int (iI (rl p vs m t).2.2.1)) hW hV (by omega) hs (by omega) K (rl p vs m t).2.1.toNat 1 (by omega) (by omega)
    have e0 : csum (fun j => mg S 8 j * itm (S.2.1 106) m (t - j)) (1 : Int).toNat % p = S.2.1 106 t := by
      show (0 + mg S 8 ((0 : Nat) : Int) * itm (S.2.1 106) m (t - ((0 : Nat) : Int))) % p = _
      have hx := r106 t
      rw [h8, show ((0 : Nat) : Int) = 0 from rfl, z1, Int.one_mul, Int.sub_zero, itm_in (by omega), Int.zero_add, em_id hx]
    rw [e0] at hD
    refine G_iload_n (pc := 41) dX10_relate_41 rfl ?_
    refine S_aload_n (pc := 42) dX10_relate_42 rfl ?_
    refine S_getI (pc := 43) dX10_relate_43 fX10_284 (by assumption) rfl ?_
    rw [hm]
    refine G_icmp_ge_f (pc := 46) 250 dX10_relate_46 rfl (by omega) (by omega) ?_
    refine S_aload_n (pc := 49) dX10_relate_49 rfl ?_
    refine S_getR (pc := 50) dX10_relate_50 fX10_42 (by assumption) rfl (by assumption) ?_
    refine G_iload_n (pc := 53) dX10_relate_53 rfl ?_
    refine S_iald (pc := 54) dX10_relate_54 (by assumption) (by omega) ?_
    refine G_istore (pc := 55) (ls' := [(4, _), (3, _), (2, _), (1, _), (0, _)]) dX10_relate_55 (by decide) rfl ?_
    refine G_iconst (pc := 57) dX10_relate_57 ?_
    refine G_istore (pc := 58) (ls' := [(5, _), (4, _), (3, _), (2, _), (1, _), (0, _)]) dX10_relate_58 (by decide) rfl ?_
    exact hD
set_option maxRecDepth 100000 in
set_option maxHeartbeats 4000000 in
theorem c_X10_relate {g : GC} {p m : Int} {sh : SH} {S : SS} {n : Nat} {Q : Option Value → GA → Nat → Prop} (hW : MdW p sh S) (hV : MpW p sh S m) (hq : ∀ S' : SS, MScr S S' → MdW p sh S' → MpW p sh S' m → mg S' 8 = (rl p (S.2.1 106) m m.toNat).1.1 → S'.1 96 34 = (rl p (S.2.1 106) m m.toNat).2.1 → Q none (hp g sh S') n) : GCall g mX10_relate 5 0 0 [gr g 96] (hp g sh S) n Q := by
  have hW' := hW
  obtain ⟨hP, h96, hp1, p2, h97, hred⟩ := hW'
  have hmb := hV.2.2.2.2.2.1
  have hpb := hP.bd
  have W1 : MdW p sh (mset S 8 pz) := MdW_set hW (Red_pz (by omega))
  have e1 : setA (setA (mset (mset S 8 pz) 9 pz) 97 640 1) 97 720 1 = mset (mset S 8 one) 9 one := by
    rw [mset_comm (r := 8) (s := 9) (by decide), show (640 : Int) = 80 * 8 + 0 by decide, mset_setA (by omega), mset_comm (r := 9) (s := 8) (by decide), show (720 : Int) = 80 * 9 + 0 by decide, mset_setA (by omega)]
    rfl
  have s8 : Sup one 80 := one_sup (by decide)
  refine GCall.of (by decide) (Nat.le_of_ble_eq_true rfl) (ls := [(0, _)]) rfl ?_
  refine S_aload_n (pc := 0) dX10_relate_0 rfl ?_
  refine G_bipush (pc := 1) dX10_relate_1 rfl ?_
  refine S_callV (pc := 3) (ci := 10) (d2 := 1) (mc2 := 0) (ms2 := 0) (As := [_]) dX10_relate_3 kX10_empty lkX10_105 (by assumption) rfl rfl rfl (Nat.le_of_ble_eq_true rfl) ⟨by decide, by decide⟩ (by decide) ?_
  refine c_X10_empty hW (by omega) ?_
  show G _ _ _ _ _ _ _ _ _ _ _ _ _
  refine S_aload_n (pc := 6) dX10_relate_6 rfl ?_
  refine G_bipush (pc := 7) dX10_relate_7 rfl ?_
  refine S_callV (pc := 9) (ci := 10) (d2 := 1) (mc2 := 0) (ms2 := 0) (As := [_]) dX10_relate_9 kX10_empty lkX10_105 (by assumption) rfl rfl rfl (Nat.le_of_ble_eq_true rfl) ⟨by decide, by decide⟩ (by decide) ?_
  refine c_X10_empty W1 (by omega) ?_
  show G _ _ _ _ _ _ _ _ _ _ _ _ _
  refine S_aload_n (pc := 12) dX10_relate_12 rfl ?_
  refine S_getR (pc := 13) dX10_relate_13 fX10_13 (by assumption) rfl (by assumption) ?_
  refine G_sipush (pc := 16) dX10_relate_16 rfl ?_
  refine G_iconst (pc := 19) dX10_relate_19 ?_
  refine S_iast (pc := 20) dX10_relate_20 (by assumption) (by omega) ?_
  refine S_aload_n (pc := 21) dX10_relate_21 rfl ?_
  refine S_getR (pc := 22) dX10_relate_22 fX10_13 (by assumption) rfl (by assumption) ?_
  refine G_sipush (pc := 25) dX10_relate_25 rfl ?_
  refine G_iconst (pc := 28) dX10_relate_28 ?_
  refine S_iast (pc := 29) dX10_relate_29 (by assumption) (by omega) ?_
  rw [e1]
  refine S_aload_n (pc := 30) dX10_relate_30 rfl ?_
  refine G_iconst (pc := 31) dX10_relate_31 ?_
  refine S_putI (pc := 32) dX10_relate_32 fX10_296 (by assumption) rfl ⟨rfl, rfl⟩ ?_
  refine G_iconst (pc := 35) dX10_relate_35 ?_
  refine G_istore_n (pc := 36) (ls' := [(1, _), (0, _)]) dX10_relate_36 (by decide) rfl ?_
  refine G_iconst (pc := 37) dX10_relate_37 ?_
  refine G_istore_n (pc := 38) (ls' := [(2, _), (1, _), (0, _)]) dX10_relate_38 (by decide) rfl ?_
  refine G_iconst (pc := 39) dX10_relate_39 ?_
  refine G_istore_n (pc := 40) (ls' := [(3, _), (2, _), (1, _), (0, _)]) dX10_relate_40 (by decide) rfl ?_
  exact l_X10_relate (S0 := S) rfl hq m.toNat 0 (setF (mset (mset S 8 one) 9 one) 96 34 0) (by omega) (MScr_F (MScr_set (MScr_set MScr_rf (by decide)) (by decide)) (by decide)) (MdW_F (MdW_set (MdW_set hW (one_red hP)) (one_red hP)) (by decide)) (MpW_scr (MScr_F (MScr_set (MScr_set MScr_rf (by decide)) (by decide)) (by decide)) hV) (by show mg (mset (mset S 8 one) 9 one) 8 = _; rw [mg_ne (by decide), mg_set s8]; rfl) (by show mg (mset (mset S 8 one) 9 one) 9 = _; rw [mg_set s8]; rfl) setF_at
set_option maxRecDepth 100000 in
set_option maxHeartbeats 4000000 in
theorem c_X10_relation {g : GC} {p m j : Int} {sh : SH} {S : SS} {n : Nat} {Q : Option Value → GA → Nat → Prop} (hW : MdW p sh S) (hV : MpW p sh S m) (hj : -2147483648 ≤ j ∧ j ≤ 2147483647)
    (hq : ∀ (S' : SS) (v : Int), MScr S S' → MdW p sh S' → v = (if j < 0 ∨ (rl p (S.2.1 106) m m.toNat).2.1 < j then -2 else if j = 0 then (rl p (S.2.1 106) m m.toNat).2.1 else if m < 2 * (rl p (S.2.1 106) m m.toNat).2.1 then -3 else (-(rl p (S.2.1 106) m m.toNat).1.1 j) % p) → Q (some (.int (iI v))) (hp g sh S') n) : GCall g mX10_relation 6 0 0 [gr g 96, .int (iI j)] (hp g sh S) n Q := by
  have hW' := hW
  obtain ⟨hP, h96, hp1, p2, h97, hred⟩ := hW'
  have hpb := hP.bd
  have hmb := hV.2.2.2.2.2.1
  obtain ⟨a1, a2, a3, a4, a5, a6, a7, a8, a9, a10⟩ := rl_ok (p := p) (vs := S.2.1 106) (m := m) hP m.toNat (by omega)
  refine GCall.of (by decide) (Nat.le_of_ble_eq_true rfl) (ls := [(0, _), (1, _)]) rfl ?_
  have hgo : ∀ S' : SS, MScr S S' → MdW p sh S' → MpW p sh S' m → mg S' 8 = (rl p (S.2.1 106) m m.toNat).1.1 → S'.1 96 34 = (rl p (S.2.1 106) m m.toNat).2.1 → G g mX10_relation 6 0 0 4 [(0, gr g 96), (1, .int (iI j))] [] (hp g sh S') n 0 0 Q := by
    intro S' hR W2 V2 h8 hs
    have hW2' := W2
    obtain ⟨-, -, hp1', p2', -, hred'⟩ := hW2'
    have hm' := V2.2.2.2.2.1
    have hx := a2 j
    have hv := hq S' _ hR W2 rfl
    refine G_iload_n (pc := 4) dX10_relation_4 rfl ?_
    refine G_iconst (pc := 5) dX10_relation_5 ?_
    refine S_aload_n (pc := 6) dX10_relation_6 rfl ?_
    refine S_getI (pc := 7) dX10_relation_7 fX10_296 (by assumption) rfl ?_
    rw [hs]
    refine G_callS (pc := 10) (d2 := 1) (mc2 := 0) (ms2 := 0) (As := [_, _, _]) dX10_relation_10 kX10_in lkX10_86 rfl rfl (Nat.le_of_ble_eq_true rfl) ⟨by decide, by decide⟩ (by decide) ?_
    refine c_X10_in (by omega) (fun w10 => ?_) (fun w10 => ?_)
    · show G _ _ _ _ _ _ _ _ _ _ _ _ _
      refine G_if_ne_t (pc := 13) 19 dX10_relation_13 rfl (by decide) (by decide) ?_
      refine G_iload_n (pc := 19) dX10_relation_19 rfl ?_
      refine G_if_ne (pc := 20) 28 dX10_relation_20 rfl (by omega) (fun c20 => ?_) (fun c20 => ?_)
      · skip
        refine G_iconst (pc := 28) dX10_relation_28 ?_
        refine S_aload_n (pc := 29) dX10_relation_29 rfl ?_
        refine S_getI (pc := 30) dX10_relation_30 fX10_296 (by assumption) rfl ?_
        rw [hs]
        refine G_imul (pc := 33) dX10_relation_33 ?_
        refine S_aload_n (pc := 34) dX10_relation_34 rfl ?_
        refine S_getI (pc := 35) dX10_relation_35 fX10_284 (by assumption) rfl ?_
        rw [hm']
        refine G_icmp_le (pc := 38) 46 dX10_relation_38 rfl (by omega) (fun c38 => ?_) (fun c38 => ?_)
        · skip
          refine S_aload_n (pc := 46) dX10_relation_46 rfl ?_
          refine S_aload_n (pc := 47) dX10_relation_47 rfl ?_
          refine S_getR (pc := 48) dX10_relation_48 fX10_13 (by assumption) rfl (by assumption) ?_
          refine G_sipush (pc := 51) dX10_relation_51 rfl ?_
          refine G_iload_n (pc := 54) dX10_relation_54 rfl ?_
          refine G_iadd (pc := 55) dX10_relation_55 ?_
          refine S_iald (pc := 56) dX10_relation_56 (by assumption) (by omega) ?_
          rw [mg_at (r := 8) (i := j) (by omega) (by omega), h8]
          refine G_ineg (pc := 57) dX10_relation_57 ?_
          refine S_callV (pc := 58) (ci := 10) (d2 := 1) (mc2 := 0) (ms2 := 0) (As := [_]) dX10_relation_58 kX10_rest lkX10_102 (by assumption) rfl rfl rfl (Nat.le_of_ble_eq_true rfl) ⟨by decide, by decide⟩ (by decide) ?_
          refine c_X10_rest W2 (by omega) ?_
          show G _ _ _ _ _ _ _ _ _ _ _ _ _
          refine G_iret (pc := 61) dX10_relation_61 rfl (by decide) ?_
          rw [if_neg (by omega), if_neg (by omega)] at hv
          first | (rw [if_pos (by omega)] at hv; exact hv) | (rw [if_neg (by omega)] at hv; exact hv)
        · skip
          refine G_bipush (pc := 41) dX10_relation_41 rfl ?_
          refine G_goto (pc := 43) 61 dX10_relation_43 rfl ?_
          refine G_iret (pc := 61) dX10_relation_61 rfl (by decide) ?_
          rw [if_neg (by omega), if_neg (by omega)] at hv
          first | (rw [if_pos (by omega)] at hv; exact hv) | (rw [if_neg (by omega)] at hv; exact hv)
      · skip
        refine S_aload_n (pc := 23) dX10_relation_23 rfl ?_
        refine S_getI (pc := 24) dX10_relation_24 fX10_296 (by assumption) rfl ?_
        rw [hs]
        refine G_iret (pc := 27) dX10_relation_27 rfl (by decide) ?_
        rw [if_neg (by omega), if_pos (by omega)] at hv
        exact hv
    · show G _ _ _ _ _ _ _ _ _ _ _ _ _
      refine G_if_ne_f (pc := 13) 19 dX10_relation_13 rfl (by decide) (by decide) ?_
      refine G_bipush (pc := 16) dX10_relation_16 rfl ?_
      refine G_iret (pc := 18) dX10_relation_18 rfl (by decide) ?_
      rw [if_pos (by omega)] at hv
      exact hv
  refine S_aload_n (pc := 0) dX10_relation_0 rfl ?_
  refine S_callV (pc := 1) (ci := 10) (d2 := 5) (mc2 := 0) (ms2 := 0) (As := []) dX10_relation_1 kX10_relate lkX10_299 (by assumption) rfl rfl rfl (Nat.le_of_ble_eq_true rfl) ⟨by decide, by decide⟩ (by decide) ?_
  refine c_X10_relate hW hV (fun S' hR W2 V2 h8 hs => ?_)
  exact hgo S' hR W2 V2 h8 hs
