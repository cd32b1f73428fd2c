/-! the Model: fail, isWord, isSign, opens, name -/
def MtE (S : SS) (env : Int → Int) : Prop := S.1 96 24 = env 0 ∧ S.1 96 25 = env 1 ∧ env 2 = (if env 1 < env 0 then env 0 else env 1) ∧ S.1 96 26 = env 3 ∧ S.1 96 27 = env 4 ∧ S.1 96 28 = env 5 ∧ ∀ i : Int, -2147483648 ≤ env i ∧ env i ≤ 2147483647
def MtY (sh : SH) (S : SS) (N : Int) (B env : Int → Int) : Prop := MtX sh S N B ∧ MtE S env
theorem MtY_gr {sh : SH} {S S' : SS} {N : Int} {B env : Int → Int} (h : GrS S S') (hY : MtY sh S N B env) : MtY sh S' N B env := by
  obtain ⟨hX, h0, h1, h2, h3, h4, h5, hb⟩ := hY
  exact ⟨MtX_gr h hX, by rw [h.2 96 24 (by decide)]; exact h0, by rw [h.2 96 25 (by decide)]; exact h1, h2, by rw [h.2 96 26 (by decide)]; exact h3, by rw [h.2 96 27 (by decide)]; exact h4, by rw [h.2 96 28 (by decide)]; exact h5, hb⟩
/-- token k stands, o are open; or there is a FAULT -/
def MtC (S : SS) (N : Int) (B : Int → Int) (k o : Nat) : Prop := S.1 96 22 = 0 ∧ S.1 96 21 = o ∧ TokR (S.1 96 17) (S.1 96 19) (tkk B k) ∧ S.1 96 18 = tka N B k ∧ (tkk B k ≠ 257 → tkk B k ≠ 256 → S.1 96 20 = tps B (k + 1))
def MtF (S : SS) (f : Int) : Prop := S.1 96 22 = 1 ∧ S.1 96 23 = f
theorem MtF_21 {S : SS} {f v : Int} (h : MtF S f) : MtF (setF S 96 21 v) f := ⟨by rw [setF_ne (by decide)]; exact h.1, by rw [setF_ne (by decide)]; exact h.2⟩
theorem MtC_21 {S : SS} {N v : Int} {B : Int → Int} {k o o' : Nat} (h : MtC S N B k o) (hv : v = o') : MtC (setF S 96 21 v) N B k o' := by
  obtain ⟨h1, h2, h3, h4, h5⟩ := h
  exact ⟨by rw [setF_ne (by decide)]; exact h1, by rw [setF_at]; exact hv, by rw [setF_ne (by decide), setF_ne (by decide)]; exact h3, by rw [setF_ne (by decide)]; exact h4, by rw [setF_ne (by decide)]; exact h5⟩
theorem TokR_word {t w c v cc : Int} (h : TokR t w c) (hv : ∀ w : Int, wco w = cc ↔ w = v) (hcc : 260 ≤ cc ∧ cc ≤ 265) : (t = 1 ∧ w = v) ↔ c = cc := by
  constructor
  · rintro ⟨z1, z2⟩
    rcases h with h | h | h | h | h
    · omega
    · omega
    · omega
    · rw [h.2.1]; exact (hv w).mpr z2
    · omega
  · intro z
    rcases h with h | h | h | h | h
    · omega
    · have := isg_iff.mp h.1; omega
    · omega
    · exact ⟨h.1, (hv w).mp (by rw [← h.2.1]; exact z)⟩
    · omega
theorem TokR_sign {t w c s : Int} (h : TokR t w c) (hs : isg s = true) : (t = 3 ∧ w = s) ↔ c = s := by
  have hs' := isg_iff.mp hs
  constructor
  · rintro ⟨z1, z2⟩
    rcases h with h | h | h | h | h <;> omega
  · intro z
    rcases h with h | h | h | h | h
    · omega
    · omega
    · omega
    · have := wco_cod (w := w); omega
    · omega
set_option maxRecDepth 100000 in
set_option maxHeartbeats 4000000 in
theorem c_X10_isWordC {g : GC} {sh : SH} {S : SS} {n : Nat} {N v cc : Int} {B : Int → Int} {k o : Nat} {Q : Option Value → GA → Nat → Prop} (h96 : sh 96 = some (.inl 10)) (hC : MtC S N B k o) (hv : ∀ w : Int, wco w = cc ↔ w = v) (hcc : 260 ≤ cc ∧ cc ≤ 265) (hvr : 0 ≤ v ∧ v ≤ 14348907) (h1 : tkk B k = cc → Q (some (.int (iI 1))) (hp g sh S) n) (h0 : tkk B k ≠ cc → Q (some (.int (iI 0))) (hp g sh S) n) : GCall g mX10_isWord 1 0 0 [gr g 96, .int (iI v)] (hp g sh S) n Q := by
  obtain ⟨b22, b21, hT, b18, b20⟩ := hC
  have ht := TokR_t hT
  have hw : S.1 96 17 = 1 → -1 ≤ S.1 96 19 ∧ S.1 96 19 ≤ 14348907 := fun z => by
    rcases hT with h | h | h | h | h <;> omega
  have hiff := TokR_word hT hv hcc
  refine GCall.of (by decide) (Nat.le_of_ble_eq_true rfl) (ls := [(0, _), (1, _)]) rfl ?_
  refine S_aload_n (pc := 0) dX10_isWord_0 rfl ?_
  refine S_getI (pc := 1) dX10_isWord_1 fX10_189 (by assumption) rfl ?_
  rw [b22]
  refine G_if_ne_f (pc := 4) 27 dX10_isWord_4 rfl (by omega) (by omega) ?_
  refine S_aload_n (pc := 7) dX10_isWord_7 rfl ?_
  refine S_getI (pc := 8) dX10_isWord_8 fX10_183 (by assumption) rfl ?_
  refine G_iconst (pc := 11) dX10_isWord_11 ?_
  refine G_icmp_ne (pc := 12) 27 dX10_isWord_12 rfl (by omega) (fun c12 => ?_) (fun c12 => ?_)
  · skip
    refine G_iconst (pc := 27) dX10_isWord_27 ?_
    refine G_zret (pc := 28) dX10_isWord_28 rfl nar_z0 (by decide) ?_
    first | exact h1 (hiff.mp ⟨by omega, by omega⟩) | exact h0 (fun z => by have := hiff.mpr z; omega)
  · skip
    refine S_aload_n (pc := 15) dX10_isWord_15 rfl ?_
    refine S_getI (pc := 16) dX10_isWord_16 fX10_186 (by assumption) rfl ?_
    refine G_iload_n (pc := 19) dX10_isWord_19 rfl ?_
    refine G_icmp_ne (pc := 20) 27 dX10_isWord_20 rfl (by have := hw (by omega); omega) (fun c20 => ?_) (fun c20 => ?_)
    · skip
      refine G_iconst (pc := 27) dX10_isWord_27 ?_
      refine G_zret (pc := 28) dX10_isWord_28 rfl nar_z0 (by decide) ?_
      first | exact h1 (hiff.mp ⟨by omega, by omega⟩) | exact h0 (fun z => by have := hiff.mpr z; omega)
    · skip
      refine G_iconst (pc := 23) dX10_isWord_23 ?_
      refine G_goto (pc := 24) 28 dX10_isWord_24 rfl ?_
      refine G_zret (pc := 28) dX10_isWord_28 rfl nar_z1 (by decide) ?_
      first | exact h1 (hiff.mp ⟨by omega, by omega⟩) | exact h0 (fun z => by have := hiff.mpr z; omega)
set_option maxRecDepth 100000 in
set_option maxHeartbeats 4000000 in
theorem c_X10_isWordF {g : GC} {sh : SH} {S : SS} {n : Nat} {v f : Int} {Q : Option Value → GA → Nat → Prop} (h96 : sh 96 = some (.inl 10)) (hC : MtF S f) (h0 : Q (some (.int (iI 0))) (hp g sh S) n) : GCall g mX10_isWord 1 0 0 [gr g 96, .int (iI v)] (hp g sh S) n Q := by
  obtain ⟨b22, -⟩ := hC
  refine GCall.of (by decide) (Nat.le_of_ble_eq_true rfl) (ls := [(0, _), (1, _)]) rfl ?_
  refine S_aload_n (pc := 0) dX10_isWord_0 rfl ?_
  refine S_getI (pc := 1) dX10_isWord_1 fX10_189 (by assumption) rfl ?_
  rw [b22]
  refine G_if_ne_t (pc := 4) 27 dX10_isWord_4 rfl (by omega) (by omega) ?_
  refine G_iconst (pc := 27) dX10_isWord_27 ?_
  refine G_zret (pc := 28) dX10_isWord_28 rfl nar_z0 (by decide) ?_
  exact h0
set_option maxRecDepth 100000 in
set_option maxHeartbeats 4000000 in
theorem c_X10_isSignC {g : GC} {sh : SH} {S : SS} {n : Nat} {N s : Int} {B : Int → Int} {k o : Nat} {Q : Option Value → GA → Nat → Prop} (h96 : sh 96 = some (.inl 10)) (hC : MtC S N B k o) (hs : isg s = true) (h1 : tkk B k = s → Q (some (.int (iI 1))) (hp g sh S) n) (h0 : tkk B k ≠ s → Q (some (.int (iI 0))) (hp g sh S) n) : GCall g mX10_isSign 1 0 0 [gr g 96, .int (iI s)] (hp g sh S) n Q := by
  obtain ⟨b22, b21, hT, b18, b20⟩ := hC
  have ht := TokR_t hT
  have hs' := isg_iff.mp hs
  have hw : S.1 96 17 = 3 → 0 ≤ S.1 96 19 ∧ S.1 96 19 ≤ 100 := fun z => by
    rcases hT with h | h | h | h | h
    · omega
    · have := isg_iff.mp h.1; omega
    · omega
    · omega
    · omega
  have hiff := TokR_sign hT hs
  refine GCall.of (by decide) (Nat.le_of_ble_eq_true rfl) (ls := [(0, _), (1, _)]) rfl ?_
  refine S_aload_n (pc := 0) dX10_isSign_0 rfl ?_
  refine S_getI (pc := 1) dX10_isSign_1 fX10_189 (by assumption) rfl ?_
  rw [b22]
  refine G_if_ne_f (pc := 4) 27 dX10_isSign_4 rfl (by omega) (by omega) ?_
  refine S_aload_n (pc := 7) dX10_isSign_7 rfl ?_
  refine S_getI (pc := 8) dX10_isSign_8 fX10_183 (by assumption) rfl ?_
  refine G_iconst (pc := 11) dX10_isSign_11 ?_
  refine G_icmp_ne (pc := 12) 27 dX10_isSign_12 rfl (by omega) (fun c12 => ?_) (fun c12 => ?_)
  · skip
    refine G_iconst (pc := 27) dX10_isSign_27 ?_
    refine G_zret (pc := 28) dX10_isSign_28 rfl nar_z0 (by decide) ?_
    first | exact h1 (hiff.mp ⟨by omega, by omega⟩) | exact h0 (fun z => by have := hiff.mpr z; omega)
  · skip
    refine S_aload_n (pc := 15) dX10_isSign_15 rfl ?_
    refine S_getI (pc := 16) dX10_isSign_16 fX10_186 (by assumption) rfl ?_
    refine G_iload_n (pc := 19) dX10_isSign_19 rfl ?_
    refine G_icmp_ne (pc := 20) 27 dX10_isSign_20 rfl (by have := hw (by omega); omega) (fun c20 => ?_) (fun c20 => ?_)
    · skip
      refine G_iconst (pc := 27) dX10_isSign_27 ?_
      refine G_zret (pc := 28) dX10_isSign_28 rfl nar_z0 (by decide) ?_
      first | exact h1 (hiff.mp ⟨by omega, by omega⟩) | exact h0 (fun z => by have := hiff.mpr z; omega)
    · skip
      refine G_iconst (pc := 23) dX10_isSign_23 ?_
      refine G_goto (pc := 24) 28 dX10_isSign_24 rfl ?_
      refine G_zret (pc := 28) dX10_isSign_28 rfl nar_z1 (by decide) ?_
      first | exact h1 (hiff.mp ⟨by omega, by omega⟩) | exact h0 (fun z => by have := hiff.mpr z; omega)
set_option maxRecDepth 100000 in
set_option maxHeartbeats 4000000 in
theorem c_X10_isSignF {g : GC} {sh : SH} {S : SS} {n : Nat} {v f : Int} {Q : Option Value → GA → Nat → Prop} (h96 : sh 96 = some (.inl 10)) (hC : MtF S f) (h0 : Q (some (.int (iI 0))) (hp g sh S) n) : GCall g mX10_isSign 1 0 0 [gr g 96, .int (iI v)] (hp g sh S) n Q := by
  obtain ⟨b22, -⟩ := hC
  refine GCall.of (by decide) (Nat.le_of_ble_eq_true rfl) (ls := [(0, _), (1, _)]) rfl ?_
  refine S_aload_n (pc := 0) dX10_isSign_0 rfl ?_
  refine S_getI (pc := 1) dX10_isSign_1 fX10_189 (by assumption) rfl ?_
  rw [b22]
  refine G_if_ne_t (pc := 4) 27 dX10_isSign_4 rfl (by omega) (by omega) ?_
  refine G_iconst (pc := 27) dX10_isSign_27 ?_
  refine G_zret (pc := 28) dX10_isSign_28 rfl nar_z0 (by decide) ?_
  exact h0
set_option maxRecDepth 100000 in
set_option maxHeartbeats 4000000 in
theorem c_X10_failC {g : GC} {sh : SH} {S : SS} {n : Nat} {N : Int} {B : Int → Int} {k o : Nat} {Q : Option Value → GA → Nat → Prop} (h96 : sh 96 = some (.inl 10)) (hC : MtC S N B k o) (hq : ∀ S' : SS, GrS S S' → MtF S' (tka N B k) → Q none (hp g sh S') n) : GCall g mX10_fail 1 0 0 [gr g 96] (hp g sh S) n Q := by
  obtain ⟨b22, b21, hT, b18, b20⟩ := hC
  have e18 : (setF S 96 22 1).1 96 18 = tka N B k := by rw [setF_ne (by decide)]; exact b18
  refine GCall.of (by decide) (Nat.le_of_ble_eq_true rfl) (ls := [(0, _)]) rfl ?_
  refine S_aload_n (pc := 0) dX10_fail_0 rfl ?_
  refine S_getI (pc := 1) dX10_fail_1 fX10_189 (by assumption) rfl ?_
  rw [b22]
  refine G_if_ne_f (pc := 4) 20 dX10_fail_4 rfl (by omega) (by omega) ?_
  refine S_aload_n (pc := 7) dX10_fail_7 rfl ?_
  refine G_iconst (pc := 8) dX10_fail_8 ?_
  refine S_putI (pc := 9) dX10_fail_9 fX10_189 (by assumption) rfl ⟨rfl, rfl⟩ ?_
  refine S_aload_n (pc := 12) dX10_fail_12 rfl ?_
  refine S_aload_n (pc := 13) dX10_fail_13 rfl ?_
  refine S_getI (pc := 14) dX10_fail_14 fX10_180 (by assumption) rfl ?_
  rw [e18]
  refine S_putI (pc := 17) dX10_fail_17 fX10_193 (by assumption) rfl ⟨rfl, rfl⟩ ?_
  refine G_vret (pc := 20) dX10_fail_20 rfl (by decide) ?_
  exact hq _ (GrS_F (GrS_F GrS_rf (by decide)) (by decide)) ⟨by rw [setF_ne (by decide), setF_at], setF_at⟩
set_option maxRecDepth 100000 in
set_option maxHeartbeats 4000000 in
theorem c_X10_failF {g : GC} {sh : SH} {S : SS} {n : Nat} {f : Int} {Q : Option Value → GA → Nat → Prop} (h96 : sh 96 = some (.inl 10)) (hC : MtF S f) (hq : Q none (hp g sh S) n) : GCall g mX10_fail 1 0 0 [gr g 96] (hp g sh S) n Q := by
  obtain ⟨b22, -⟩ := hC
  refine GCall.of (by decide) (Nat.le_of_ble_eq_true rfl) (ls := [(0, _)]) rfl ?_
  refine S_aload_n (pc := 0) dX10_fail_0 rfl ?_
  refine S_getI (pc := 1) dX10_fail_1 fX10_189 (by assumption) rfl ?_
  rw [b22]
  refine G_if_ne_t (pc := 4) 20 dX10_fail_4 rfl (by omega) (by omega) ?_
  refine G_vret (pc := 20) dX10_fail_20 rfl (by decide) ?_
  exact hq
/-- to the next token -/
theorem c_X10_nextC {g : GC} {sh : SH} {S : SS} {n : Nat} {N : Int} {B : Int → Int} {k o : Nat} {Q : Option Value → GA → Nat → Prop} (hX : MtX sh S N B) (hC : MtC S N B k o) (hne : tkk B k ≠ 257 ∧ tkk B k ≠ 256) (hq : ∀ S' : SS, GrS S S' → MtC S' N B (k + 1) o → Q none (hp g sh S') n) : GCall g mX10_next 2 0 0 [gr g 96] (hp g sh S) n Q := by
  obtain ⟨b22, b21, hT, b18, b20⟩ := hC
  have hb := tps_bd hX.2.2.2.1 (k + 1)
  exact c_X10_next hX hb (b20 hne.1 hne.2) rfl (fun S' r1 r2 r3 r4 => hq S' (GrN_S r1) ⟨by rw [r1.2 96 22 (by decide)]; exact b22, by rw [r1.2 96 21 (by decide)]; exact b21, r2, r3, r4⟩)
set_option maxRecDepth 100000 in
set_option maxHeartbeats 4000000 in
theorem c_X10_opensC {g : GC} {sh : SH} {S : SS} {n : Nat} {N : Int} {B : Int → Int} {k o : Nat} {Q : Option Value → GA → Nat → Prop} (hX : MtX sh S N B) (hC : MtC S N B k o) (ho : o ≤ 5) (hne : tkk B k ≠ 257 ∧ tkk B k ≠ 256) (h1 : o < 5 → ∀ S' : SS, GrS S S' → MtC S' N B (k + 1) (o + 1) → Q (some (.int (iI 1))) (hp g sh S') n) (h0 : o = 5 → ∀ S' : SS, GrS S S' → MtF S' (tka N B k) → Q (some (.int (iI 0))) (hp g sh S') n) : GCall g mX10_opens 3 0 0 [gr g 96] (hp g sh S) n Q := by
  have hC' := hC
  obtain ⟨b22, b21, hT, b18, b20⟩ := hC'
  have h96 := hX.1
  refine GCall.of (by decide) (Nat.le_of_ble_eq_true rfl) (ls := [(0, _)]) rfl ?_
  have hgo1 : o < 5 → ∀ S' : SS, GrS S S' → MtC S' N B (k + 1) (o + 1) → G g mX10_opens 3 0 0 28 [(0, gr g 96)] [] (hp g sh S') n 0 0 Q := by
    intro z S' r1 r2
    refine G_iconst (pc := 28) dX10_opens_28 ?_
    refine G_zret (pc := 29) dX10_opens_29 rfl nar_z1 (by decide) ?_
    exact h1 z S' r1 r2
  have hgo0 : o = 5 → ∀ S' : SS, GrS S S' → MtF S' (tka N B k) → G g mX10_opens 3 0 0 12 [(0, gr g 96)] [] (hp g sh S') n 0 0 Q := by
    intro z S' r1 r2
    refine G_iconst (pc := 12) dX10_opens_12 ?_
    refine G_zret (pc := 13) dX10_opens_13 rfl nar_z0 (by decide) ?_
    exact h0 z S' r1 r2
  refine S_aload_n (pc := 0) dX10_opens_0 rfl ?_
  refine S_getI (pc := 1) dX10_opens_1 fX10_196 (by assumption) rfl ?_
  rw [b21]
  refine G_iconst (pc := 4) dX10_opens_4 ?_
  refine G_icmp_ne (pc := 5) 14 dX10_opens_5 rfl (by omega) (fun c5 => ?_) (fun c5 => ?_)
  · skip
    refine S_aload_n (pc := 14) dX10_opens_14 rfl ?_
    refine G_dup (pc := 15) dX10_opens_15 rfl ?_
    refine S_getI (pc := 16) dX10_opens_16 fX10_196 (by assumption) rfl ?_
    rw [b21]
    refine G_iconst (pc := 19) dX10_opens_19 ?_
    refine G_iadd (pc := 20) dX10_opens_20 ?_
    refine S_putI (pc := 21) dX10_opens_21 fX10_196 (by assumption) rfl ⟨rfl, rfl⟩ ?_
    refine S_aload_n (pc := 24) dX10_opens_24 rfl ?_
    refine S_callV (pc := 25) (ci := 10) (d2 := 2) (mc2 := 0) (ms2 := 0) (As := []) dX10_opens_25 kX10_next lkX10_202 (by assumption) rfl rfl rfl (Nat.le_of_ble_eq_true rfl) ⟨by decide, by decide⟩ (by decide) ?_
    refine c_X10_nextC (o := o + 1) (MtX_gr (GrS_F GrS_rf (by decide)) hX) (MtC_21 hC (by omega)) hne (fun S' r1 r2 => ?_)
    exact hgo1 (by omega) S' (GrS_tr (GrS_F GrS_rf (by decide)) r1) r2
  · skip
    refine S_aload_n (pc := 8) dX10_opens_8 rfl ?_
    refine S_callV (pc := 9) (ci := 10) (d2 := 1) (mc2 := 0) (ms2 := 0) (As := []) dX10_opens_9 kX10_fail lkX10_199 (by assumption) rfl rfl rfl (Nat.le_of_ble_eq_true rfl) ⟨by decide, by decide⟩ (by decide) ?_
    refine c_X10_failC h96 hC (fun S' r1 r2 => ?_)
    exact hgo0 (by omega) S' r1 r2
set_option maxRecDepth 100000 in
set_option maxHeartbeats 4000000 in
theorem c_X10_nameC {g : GC} {sh : SH} {S : SS} {n : Nat} {N : Int} {B env : Int → Int} {k o : Nat} {Q : Option Value → GA → Nat → Prop} (hY : MtY sh S N B env) (hC : MtC S N B k o) (h17 : S.1 96 17 = 1) (h1 : ∀ i : Int, tkk B k = 270 + i → (0 ≤ i ∧ i ≤ 5) → Q (some (.int (iI (env i)))) (hp g sh S) n) (h0 : ¬ (270 ≤ tkk B k ∧ tkk B k ≤ 275) → ∀ S' : SS, GrS S S' → MtF S' (tka N B k) → Q (some (.int (iI 0))) (hp g sh S') n) : GCall g mX10_name 2 0 0 [gr g 96] (hp g sh S) n Q := by
  have hC' := hC
  obtain ⟨b22, b21, hT, b18, b20⟩ := hC'
  obtain ⟨⟨h96, hX2⟩, e0, e1, e2, e3, e4, e5, hb⟩ := hY
  have hb0 := hb 0
  have hb1 := hb 1
  have hw : tkk B k = wco (S.1 96 19) ∧ -1 ≤ S.1 96 19 ∧ S.1 96 19 ≤ 14348907 := by
    rcases hT with h | h | h | h | h
    · omega
    · omega
    · omega
    · exact h.2
    · omega
  obtain ⟨hw, hwb⟩ := hw
  refine GCall.of (by decide) (Nat.le_of_ble_eq_true rfl) (ls := [(0, _)]) rfl ?_
  by_cases c0 : S.1 96 19 = 14
  · skip
    refine S_aload_n (pc := 0) dX10_name_0 rfl ?_
    refine S_getI (pc := 1) dX10_name_1 fX10_186 (by assumption) rfl ?_
    rw [c0]
    refine G_lsw (pc := 4) (off := 60) 64 dX10_name_4 (by decide) (by decide) (by decide) rfl ?_
    · skip
      skip
      refine S_aload_n (pc := 64) dX10_name_64 rfl ?_
      refine S_getI (pc := 65) dX10_name_65 fX10_205 (by assumption) rfl ?_
      rw [e0]
      refine G_iret (pc := 68) dX10_name_68 rfl (by decide) ?_
      exact h1 0 (by rw [hw, c0]; rfl) (by decide)
  · by_cases c1 : S.1 96 19 = 13
    · skip
      refine S_aload_n (pc := 0) dX10_name_0 rfl ?_
      refine S_getI (pc := 1) dX10_name_1 fX10_186 (by assumption) rfl ?_
      rw [c1]
      refine G_lsw (pc := 4) (off := 65) 69 dX10_name_4 (by decide) (by decide) (by decide) rfl ?_
      · skip
        skip
        refine S_aload_n (pc := 69) dX10_name_69 rfl ?_
        refine S_getI (pc := 70) dX10_name_70 fX10_208 (by assumption) rfl ?_
        rw [e1]
        refine G_iret (pc := 73) dX10_name_73 rfl (by decide) ?_
        exact h1 1 (by rw [hw, c1]; rfl) (by decide)
    · by_cases c2 : S.1 96 19 = 381245
      · have h2 := h1 2 (by rw [hw, c2]; rfl) (by decide)
        rw [e2] at h2
        refine S_aload_n (pc := 0) dX10_name_0 rfl ?_
        refine S_getI (pc := 1) dX10_name_1 fX10_186 (by assumption) rfl ?_
        rw [c2]
        refine G_lsw (pc := 4) (off := 70) 74 dX10_name_4 (by decide) (by decide) (by decide) rfl ?_
        · skip
          skip
          refine S_aload_n (pc := 74) dX10_name_74 rfl ?_
          refine S_getI (pc := 75) dX10_name_75 fX10_205 (by assumption) rfl ?_
          rw [e0]
          refine S_aload_n (pc := 78) dX10_name_78 rfl ?_
          refine S_getI (pc := 79) dX10_name_79 fX10_208 (by assumption) rfl ?_
          rw [e1]
          refine G_icmp_le (pc := 82) 92 dX10_name_82 rfl (by omega) (fun c82 => ?_) (fun c82 => ?_)
          · skip
            refine S_aload_n (pc := 92) dX10_name_92 rfl ?_
            refine S_getI (pc := 93) dX10_name_93 fX10_208 (by assumption) rfl ?_
            rw [e1]
            refine G_iret (pc := 96) dX10_name_96 rfl (by decide) ?_
            first | (rw [if_pos (by omega)] at h2; exact h2) | (rw [if_neg (by omega)] at h2; exact h2)
          · skip
            refine S_aload_n (pc := 85) dX10_name_85 rfl ?_
            refine S_getI (pc := 86) dX10_name_86 fX10_205 (by assumption) rfl ?_
            rw [e0]
            refine G_goto (pc := 89) 96 dX10_name_89 rfl ?_
            refine G_iret (pc := 96) dX10_name_96 rfl (by decide) ?_
            first | (rw [if_pos (by omega)] at h2; exact h2) | (rw [if_neg (by omega)] at h2; exact h2)
      · by_cases c3 : S.1 96 19 = 2774
        · skip
          refine S_aload_n (pc := 0) dX10_name_0 rfl ?_
          refine S_getI (pc := 1) dX10_name_1 fX10_186 (by assumption) rfl ?_
          rw [c3]
          refine G_lsw (pc := 4) (off := 93) 97 dX10_name_4 (by decide) (by decide) (by decide) rfl ?_
          · skip
            skip
            refine S_aload_n (pc := 97) dX10_name_97 rfl ?_
            refine S_getI (pc := 98) dX10_name_98 fX10_211 (by assumption) rfl ?_
            rw [e3]
            refine G_iret (pc := 101) dX10_name_101 rfl (by decide) ?_
            exact h1 3 (by rw [hw, c3]; rfl) (by decide)
        · by_cases c4 : S.1 96 19 = 223456
          · skip
            refine S_aload_n (pc := 0) dX10_name_0 rfl ?_
            refine S_getI (pc := 1) dX10_name_1 fX10_186 (by assumption) rfl ?_
            rw [c4]
            refine G_lsw (pc := 4) (off := 98) 102 dX10_name_4 (by decide) (by decide) (by decide) rfl ?_
            · skip
              skip
              refine S_aload_n (pc := 102) dX10_name_102 rfl ?_
              refine S_getI (pc := 103) dX10_name_103 fX10_214 (by assumption) rfl ?_
              rw [e4]
              refine G_iret (pc := 106) dX10_name_106 rfl (by decide) ?_
              exact h1 4 (by rw [hw, c4]; rfl) (by decide)
          · by_cases c5 : S.1 96 19 = 375062
            · skip
              refine S_aload_n (pc := 0) dX10_name_0 rfl ?_
              refine S_getI (pc := 1) dX10_name_1 fX10_186 (by assumption) rfl ?_
              rw [c5]
              refine G_lsw (pc := 4) (off := 103) 107 dX10_name_4 (by decide) (by decide) (by decide) rfl ?_
              · skip
                skip
                refine S_aload_n (pc := 107) dX10_name_107 rfl ?_
                refine S_getI (pc := 108) dX10_name_108 fX10_217 (by assumption) rfl ?_
                rw [e5]
                refine G_iret (pc := 111) dX10_name_111 rfl (by decide) ?_
                exact h1 5 (by rw [hw, c5]; rfl) (by decide)
            · have hno : ¬ (270 ≤ tkk B k ∧ tkk B k ≤ 275) := by
                rw [hw]
                unfold wco
                rw [if_neg c0, if_neg c1, if_neg c2, if_neg c3, if_neg c4, if_neg c5]
                repeat' split
                all_goals omega
              have hgo : ∀ S' : SS, GrS S S' → MtF S' (tka N B k) → G g mX10_name 2 0 0 116 [(0, gr g 96)] [] (hp g sh S') n 0 0 Q := by
                intro S' r1 r2
                refine G_iconst (pc := 116) dX10_name_116 ?_
                refine G_iret (pc := 117) dX10_name_117 rfl (by decide) ?_
                exact h0 hno S' r1 r2
              refine S_aload_n (pc := 0) dX10_name_0 rfl ?_
              refine S_getI (pc := 1) dX10_name_1 fX10_186 (by assumption) rfl ?_
              refine G_lsw (pc := 4) (off := 108) 112 dX10_name_4 (by decide) (by omega) ((if_neg (fun z => c1 z.symm)).trans ((if_neg (fun z => c0 z.symm)).trans ((if_neg (fun z => c3 z.symm)).trans ((if_neg (fun z => c4 z.symm)).trans ((if_neg (fun z => c5 z.symm)).trans ((if_neg (fun z => c2 z.symm)).trans rfl)))))) rfl ?_
              · skip
                skip
                refine S_aload_n (pc := 112) dX10_name_112 rfl ?_
                refine S_callV (pc := 113) (ci := 10) (d2 := 1) (mc2 := 0) (ms2 := 0) (As := []) dX10_name_113 kX10_fail lkX10_199 (by assumption) rfl rfl rfl (Nat.le_of_ble_eq_true rfl) ⟨by decide, by decide⟩ (by decide) ?_
                refine c_X10_failC h96 hC (fun S' r1 r2 => ?_)
                exact hgo S' r1 r2
