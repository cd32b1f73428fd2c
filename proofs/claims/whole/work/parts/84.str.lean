/-! String: length, charAt -/
theorem G_nret {v : Int32} {ty : FieldType} {g : GC} {y : GM} {d mc ms pc : Nat} {ls : List (Nat × Value)} {h : GA} {n k u : Nat} {Q : Option Value → GA → Nat → Prop} (hd : decode y.2.1 pc = .ok (.ireturn, 1)) (hr : y.2.2.2 = some ty) (hv : narrow ty (.int v) = .int v) (hcs : k ≤ mc ∧ u ≤ ms) (hq : Q (some (.int v)) h n) : G g y d mc ms pc ls [.int v] h n k u Q := by
  intro p e s m args below meth c H locs la X hR hL hl
  refine W.widen hcs.1 hcs.2 ?_
  exact W.zret X.1 X.2.1 (X.2.2.2.1.trans hr) hv (fun t ht hW => ⟨_, h, n, rfl, by rw [ht]; exact hR, hq⟩) hL hd X.2.2.2.2.1
section STROWS
variable {g : GC} {y : GM} {d mc ms pc : Nat} {ls : List (Nat × Value)} {st : List Value} {h : GA} {n k u : Nat} {Q : Option Value → GA → Nat → Prop}
theorem G_i2c {a v : Int32} (hd : decode y.2.1 pc = .ok (.i2c, 1)) (hv : (a.toUInt32 % 65536).toInt32 = v)
    (kk : G g y d mc ms (pc + 1) ls (.int v :: st) h n k u Q) : G g y d mc ms pc ls (.int a :: st) h n k u Q := by
  intro p e s m args below meth c H locs la X hR hL hl
  exact lv_i2c X.1 X.2.1 hd hv (kk p e s m args below meth c H locs la X hR hL hl)
/-- what a text constant's object holds -/
theorem G_getStr {ix i : Nat} {nm ds : String} {v : Value} (hd : decode y.2.1 pc = .ok (.getfield ix, 3)) (hlk : Cond.fieldLink y.1.cls ix "java/lang/String" nm ds ∈ W0) (hof : ∀ U : State, GStr g U → va_OF "java/lang/String" nm ds v (gSK g i) (fun q => gB g ≤ q) U (gH0 g))
    (kk : G g y d mc ms (pc + 3) ls (v :: st) h n k u Q) : G g y d mc ms pc ls (.ref (gSK g i) :: st) h n k u Q := by
  intro p e s m args below meth c H locs la X hR hL hl
  have hK := X.2.2.2.2.2.2.2.2
  have hzz := hK.2.2.2.2.2
  have hE := (hof s hK.2.2.2.1).kept (H1 := H) (fun a ha hA => hR.2.2 a (by omega))
  obtain ⟨cf, kc, fi, f, cell, h1, h2, h3, h4, h5, h6⟩ := hE
  exact W.getf X.1 X.2.1 X.2.2.2.2.2.2.1 (X.2.2.2.2.2.1 _ hlk) h1 h2 h3 h4 (v := v) h5 rfl rfl hd (kk p e s m args below meth c H locs la X hR hL hl)
theorem G_coder {ix i : Nat} (hi : i < 13) (hd : decode y.2.1 pc = .ok (.getfield ix, 3)) (hlk : Cond.fieldLink y.1.cls ix "java/lang/String" "coder" "B" ∈ W0)
    (kk : G g y d mc ms (pc + 3) ls (.int (iI 0) :: st) h n k u Q) : G g y d mc ms pc ls (.ref (gSK g i) :: st) h n k u Q := G_getStr hd hlk (fun U hU => (hU.2.1.1 i hi).2.1) kk
theorem G_valueS {ix i : Nat} (hi : i < 13) (hd : decode y.2.1 pc = .ok (.getfield ix, 3)) (hlk : Cond.fieldLink y.1.cls ix "java/lang/String" "value" "[B" ∈ W0)
    (kk : G g y d mc ms (pc + 3) ls (.ref (gSV g i) :: st) h n k u Q) : G g y d mc ms pc ls (.ref (gSK g i) :: st) h n k u Q := G_getStr hd hlk (fun U hU => (hU.2.1.1 i hi).2.2.1) kk
theorem G_alenS {i : Nat} (hi : i < 13) (hd : decode y.2.1 pc = .ok (.arraylength, 1))
    (kk : G g y d mc ms (pc + 1) ls (.int (Int32.ofNat (gStrLen.getD i 0)) :: st) h n k u Q) : G g y d mc ms pc ls (.ref (gSV g i) :: st) h n k u Q := by
  intro p e s m args below meth c H locs la X hR hL hl
  have hK := X.2.2.2.2.2.2.2.2
  have hzz := hK.2.2.2.2.2
  have hT := ((hK.2.2.2.1.2.1.1 i hi).2.2.2).kept (H1 := H) (fun a ha hA => hR.2.2 a (by omega))
  obtain ⟨cell, h1, h2, h3, h4, h5, h6, h7⟩ := hT
  exact W.alen (n := Int32.ofNat (gStrLen.getD i 0)) X.1 X.2.1 h1 h2 h5 rfl rfl hd (kk p e s m args below meth c H locs la X hR hL hl)
theorem G_baldS {i : Nat} {j : Int} (hi : i < 13) (hd : decode y.2.1 pc = .ok (.baload, 1)) (hj : 0 ≤ j ∧ j < (gStrLen.getD i 0 : Nat) ∧ j ≤ 1000)
    (kk : G g y d mc ms (pc + 1) ls (.int ((gStrByt.getD i []).getD j.toNat 0) :: st) h n k u Q) : G g y d mc ms pc ls (.int (iI j) :: .ref (gSV g i) :: st) h n k u Q := by
  intro p e s m args below meth c H locs la X hR hL hl
  have hK := X.2.2.2.2.2.2.2.2
  have hzz := hK.2.2.2.2.2
  have hT := ((hK.2.2.2.1.2.1.1 i hi).2.2.2).kept (H1 := H) (fun a ha hA => hR.2.2 a (by omega))
  obtain ⟨cell, h1, h2, h3, h4, h5, h6, h7⟩ := hT
  have hc := iI_clamp (a := j) ⟨by omega, by omega⟩
  have hlt : (iI j).toNatClampNeg < gStrLen.getD i 0 := by rw [hc]; omega
  have hin' : ¬ (iI j < 0 ∨ cell.slots.size ≤ (iI j).toNatClampNeg) := by
    intro q
    rcases q with q | q
    · rw [iI_lt0 ⟨by omega, by omega⟩] at q; omega
    · omega
  exact W.bald (v := .int ((gStrByt.getD i []).getD j.toNat 0)) X.1 X.2.1 h1 h2 h3 hin' (by rw [h6 _ hlt, hc]) rfl rfl hd (kk p e s m args below meth c H locs la X hR hL hl)
theorem G_getZ {ix : Nat} (hd : decode y.2.1 pc = .ok (.getstatic ix, 3)) (hlk : Cond.fieldLink y.1.cls ix "java/lang/String" "COMPACT_STRINGS" "Z" ∈ W0)
    (kk : G g y d mc ms (pc + 3) ls (.int (iI 1) :: st) h n k u Q) : G g y d mc ms pc ls st h n k u Q := by
  intro p e s m args below meth c H locs la X hR hL hl
  have hK := X.2.2.2.2.2.2.2.2
  have hzz := hK.2.2.2.2.2
  have hZ := hK.2.2.2.1.2.2.1
  obtain ⟨cf, kf, fi, f, a, cell, h1, h2, h3, h4, h5, h6, h7, h8⟩ := hZ
  have ha := (Array.getElem?_eq_some_iff.mp h5).1
  exact W.gets X.1 X.2.1 X.2.2.2.2.2.2.1 (X.2.2.2.2.2.1 _ hlk) h1 h2 h3 h4 (by rw [hR.2.2 a (by omega)]; exact h5) (fun e => by rw [e] at h6; cases h6) h7 rfl hd (kk p e s m args below meth c H locs la X hR hL hl)
theorem G_getQ {ix : Nat} (hd : decode y.2.1 pc = .ok (.getstatic ix, 3)) (hlk : Cond.fieldLink y.1.cls ix "jdk/internal/util/Preconditions" "SIOOBE_FORMATTER" "Ljava/util/function/BiFunction;" ∈ W0)
    (k1 : G g y d mc ms (pc + 3) ls (.null :: st) h n k u Q) (k2 : ∀ t : Nat, G g y d mc ms (pc + 3) ls (.ref t :: st) h n k u Q) : G g y d mc ms pc ls st h n k u Q := by
  intro p e s m args below meth c H locs la X hR hL hl
  have hK := X.2.2.2.2.2.2.2.2
  have hzz := hK.2.2.2.2.2
  have hgo : ∀ v : Value, va_Z "jdk/internal/util/Preconditions" "SIOOBE_FORMATTER" "Ljava/util/function/BiFunction;" v (fun q => gB g ≤ q) s (gH0 g) → G g y d mc ms (pc + 3) ls (v :: st) h n k u Q → W p (gL g) e (grm d mc ms) s m args below meth c H locs k u (MQ below (gQ g Q) args s mc ms (fun q => gB g ≤ q)) (F0 m pc la st) := by
    intro v hZ kk
    obtain ⟨cf, kf, fi, f, a, cell, h1, h2, h3, h4, h5, h6, h7, h8⟩ := hZ
    have ha := (Array.getElem?_eq_some_iff.mp h5).1
    exact W.gets X.1 X.2.1 X.2.2.2.2.2.2.1 (X.2.2.2.2.2.1 _ hlk) h1 h2 h3 h4 (by rw [hR.2.2 a (by omega)]; exact h5) (fun e => by rw [e] at h6; cases h6) h7 rfl hd (kk p e s m args below meth c H locs la X hR hL hl)
  rcases hK.2.2.2.1.2.2.2 with hZ | ⟨t, hZ⟩
  · exact hgo _ hZ k1
  · exact hgo _ hZ (k2 t)
theorem G_callStr {y2 : GM} {ix np d2 mc2 ms2 i : Nat} {As rest : List Value} (hi : i < 13) (hd : decode y.2.1 pc = .ok (.invokevirtual ix, 3)) (hC : GCode y2 np) (hV : GVirt y.1.cls ix y2) (hcl : y2.1.cls = "java/lang/String") (hnp : As.length = np) (hst : st = As.reverse ++ .ref (gSK g i) :: rest)
    (hrest : (rest.map fun v => v.category).sum ≤ 8) (hdp : d2 + 1 ≤ d ∧ y2.2.2.1 ≤ 41) (hcs : k + mc2 ≤ mc ∧ u + ms2 ≤ ms)
    (kk : GCall g y2 d2 mc2 ms2 (.ref (gSK g i) :: As) h n (fun v h' n' => G g y d mc ms (pc + 3) ls (v.toList ++ rest) h' n' (k + mc2) (u + ms2) Q)) : G g y d mc ms pc ls st h n k u Q := by
  intro p e s m args below meth c H locs la X hR hL hl
  subst hst
  have hts := X.2.2.2.2.2.1
  have hK := X.2.2.2.2.2.2.2.2
  have hzz := hK.2.2.2.2.2
  have hO := ((hK.2.2.2.1.2.1.1 i hi).1).kept (H1 := H) (fun a ha hA => hR.2.2 a (by omega))
  obtain ⟨cell, o1, o2, o3, o4⟩ := hO
  refine G_run X hL hl (va_runV (C := y2.1.cls) (Ts := W0) (b := gSK g i) (As := As) ⟨X.1, X.2.1, X.2.2.1, X.2.2.2.2.2.2.1, hts⟩ kk ⟨callB_of np hts (gws_good hC.1) rfl rfl rfl (hts _ hC.2.1) (hts _ hV.1) hC.2.2 (G_roomOk hdp), hts _ hV.2.1, hts _ hV.2.2⟩ ⟨GBlind, ⟨cell, o1, o2, by rw [hcl]; exact o3⟩, fun U hU hW => ⟨rfl, by rw [hU]; exact hR, hK.warm hW (by rw [hU, hR.1]; exact Nat.le_add_right _ _)⟩⟩ rfl hnp (hl.1) rfl (lv_room hrest) hd hcs)
end STROWS
theorem fJ0_38 : Cond.fieldLink RJ0 38 "java/lang/String" "COMPACT_STRINGS" "Z" ∈ W0 := (W0_in (List.mem_of_getElem? (i := 317) (by decide +kernel)) rfl)
theorem fJ0_1053 : Cond.fieldLink RJ0 1053 "jdk/internal/util/Preconditions" "SIOOBE_FORMATTER" "Ljava/util/function/BiFunction;" ∈ W0 := (W0_in (List.mem_of_getElem? (i := 333) (by decide +kernel)) rfl)
theorem fJ0_9 : Cond.fieldLink RJ0 9 "java/lang/String" "value" "[B" ∈ W0 := (W0_in (List.mem_of_getElem? (i := 1500) (by decide +kernel)) rfl)
theorem fJ0_15 : Cond.fieldLink RJ0 15 "java/lang/String" "coder" "B" ∈ W0 := (W0_in (List.mem_of_getElem? (i := 1501) (by decide +kernel)) rfl)
set_option maxRecDepth 100000 in
set_option maxHeartbeats 4000000 in
theorem c_J0_isLatin1 {g : GC} {hh : GA} {n i : Nat} {Q : Option Value → GA → Nat → Prop} (hi : i < 13) (hq : Q (some (.int (iI 1))) hh n) : GCall g mJ0_isLatin1_aae02 1 0 0 [.ref (gSK g i)] hh n Q := by
  refine GCall_ofF (by decide +kernel) (Nat.le_of_ble_eq_true rfl) (ls := [(0, _)]) rfl ?_
  refine G_getZ (pc := 0) dJ0_isLatin1_aae02_0 fJ0_38 ?_
  refine G_if_eq_f (pc := 3) 17 dJ0_isLatin1_aae02_3 rfl (by decide) (by decide) ?_
  refine G_aload_n (pc := 6) dJ0_isLatin1_aae02_6 rfl ?_
  refine G_coder (pc := 7) hi dJ0_isLatin1_aae02_7 fJ0_15 ?_
  refine G_if_ne_f (pc := 10) 17 dJ0_isLatin1_aae02_10 rfl (by decide) (by decide) ?_
  refine G_iconst (pc := 13) dJ0_isLatin1_aae02_13 ?_
  refine G_goto (pc := 14) 18 dJ0_isLatin1_aae02_14 rfl ?_
  refine G_zret (pc := 18) dJ0_isLatin1_aae02_18 rfl nar_z1 (by decide) ?_
  exact hq
set_option maxRecDepth 100000 in
set_option maxHeartbeats 4000000 in
theorem c_J0_coder {g : GC} {hh : GA} {n i : Nat} {Q : Option Value → GA → Nat → Prop} (hi : i < 13) (hq : Q (some (.int (iI 0))) hh n) : GCall g mJ0_coder_7d493 1 0 0 [.ref (gSK g i)] hh n Q := by
  refine GCall_ofF (by decide +kernel) (Nat.le_of_ble_eq_true rfl) (ls := [(0, _)]) rfl ?_
  refine G_getZ (pc := 0) dJ0_coder_7d493_0 fJ0_38 ?_
  refine G_if_eq_f (pc := 3) 13 dJ0_coder_7d493_3 rfl (by decide) (by decide) ?_
  refine G_aload_n (pc := 6) dJ0_coder_7d493_6 rfl ?_
  refine G_coder (pc := 7) hi dJ0_coder_7d493_7 fJ0_15 ?_
  refine G_goto (pc := 10) 14 dJ0_coder_7d493_10 rfl ?_
  refine G_nret (pc := 14) (ty := .byte) dJ0_coder_7d493_14 rfl (by decide +kernel) (by decide) ?_
  exact hq
set_option maxRecDepth 100000 in
set_option maxHeartbeats 4000000 in
theorem c_J0_length {g : GC} {hh : GA} {n i : Nat} {Q : Option Value → GA → Nat → Prop} (hi : i < 13) (hq : Q (some (.int (iI ((gStrLen.getD i 0 : Nat) : Int)))) hh n) : GCall g mJ0_length_8abf5 2 0 0 [.ref (gSK g i)] hh n Q := by
  refine GCall_ofF (by decide +kernel) (Nat.le_of_ble_eq_true rfl) (ls := [(0, _)]) rfl ?_
  refine G_aload_n (pc := 0) dJ0_length_8abf5_0 rfl ?_
  refine G_valueS (pc := 1) hi dJ0_length_8abf5_1 fJ0_9 ?_
  refine G_alenS (pc := 4) hi dJ0_length_8abf5_4 ?_
  refine G_aload_n (pc := 5) dJ0_length_8abf5_5 rfl ?_
  refine G_callStr (pc := 6) (d2 := 1) (mc2 := 0) (ms2 := 0) (As := []) hi dJ0_length_8abf5_6 kJ0_coder_7d493 lkJ0_335 rfl rfl rfl (Nat.le_of_ble_eq_true rfl) ⟨by decide, by decide⟩ (by decide) ?_
  refine c_J0_coder hi ?_
  show G _ _ _ _ _ _ _ _ _ _ _ _ _
  refine G_ishr (pc := 9) dJ0_length_8abf5_9 (v := Int32.ofNat (gStrLen.getD i 0)) (by
    have hc : i = 0 ∨ i = 1 ∨ i = 2 ∨ i = 3 ∨ i = 4 ∨ i = 5 ∨ i = 6 ∨ i = 7 ∨ i = 8 ∨ i = 9 ∨ i = 10 ∨ i = 11 ∨ i = 12 := by omega
    rcases hc with e | e | e | e | e | e | e | e | e | e | e | e | e <;> subst e <;> decide) ?_
  refine G_iret (pc := 10) dJ0_length_8abf5_10 rfl (by decide) ?_
  rw [iI_nI] at hq
  exact hq
set_option maxRecDepth 100000 in
set_option maxHeartbeats 4000000 in
theorem c_J3_checkIndex {g : GC} {hh : GA} {n : Nat} {j l : Int} {v : Value} {Q : Option Value → GA → Nat → Prop} (hv : v = .null ∨ ∃ t : Nat, v = .ref t) (hj : 0 ≤ j ∧ j < l ∧ l ≤ 1000) (hq : Q (some (.int (iI j))) hh n) : GCall g mJ3_checkIndex_8e157 1 0 0 [.int (iI j), .int (iI l), v] hh n Q := by
  have hgo : ∀ ls : List (Nat × Value), lk ls 0 = some (.int (iI j)) → lk ls 1 = some (.int (iI l)) → G g mJ3_checkIndex_8e157 1 0 0 0 ls [] hh n 0 0 Q := by
    intro ls h0 h1
    refine G_iload_n (pc := 0) dJ3_checkIndex_8e157_0 h0 ?_
    refine G_if_lt_f (pc := 1) 9 dJ3_checkIndex_8e157_1 rfl (by omega) (by omega) ?_
    refine G_iload_n (pc := 4) dJ3_checkIndex_8e157_4 h0 ?_
    refine G_iload_n (pc := 5) dJ3_checkIndex_8e157_5 h1 ?_
    refine G_icmp_lt_t (pc := 6) 16 dJ3_checkIndex_8e157_6 rfl (by omega) (by omega) ?_
    refine G_iload_n (pc := 16) dJ3_checkIndex_8e157_16 h0 ?_
    refine G_iret (pc := 17) dJ3_checkIndex_8e157_17 rfl (by decide) ?_
    exact hq
  rcases hv with rfl | ⟨t, rfl⟩
  · refine GCall_ofF (by decide +kernel) (Nat.le_of_ble_eq_true rfl) (ls := [(0, _), (1, _), (2, _)]) rfl ?_
    exact hgo _ rfl rfl
  · refine GCall_ofF (by decide +kernel) (Nat.le_of_ble_eq_true rfl) (ls := [(0, _), (1, _), (2, _)]) rfl ?_
    exact hgo _ rfl rfl
set_option maxRecDepth 100000 in
set_option maxHeartbeats 4000000 in
theorem c_J0_checkIndex {g : GC} {hh : GA} {n : Nat} {j l : Int} {Q : Option Value → GA → Nat → Prop} (hj : 0 ≤ j ∧ j < l ∧ l ≤ 1000) (hq : Q none hh n) : GCall g mJ0_checkIndex_df160 2 0 0 [.int (iI j), .int (iI l)] hh n Q := by
  refine GCall_ofF (by decide +kernel) (Nat.le_of_ble_eq_true rfl) (ls := [(0, _), (1, _)]) rfl ?_
  have hgo : ∀ v : Value, (v = .null ∨ ∃ t : Nat, v = .ref t) → G g mJ0_checkIndex_df160 2 0 0 5 [(0, .int (iI j)), (1, .int (iI l))] [v, .int (iI l), .int (iI j)] hh n 0 0 Q := by
    intro v hv
    refine G_callS (pc := 5) (d2 := 1) (mc2 := 0) (ms2 := 0) (As := [_, _, _]) dJ0_checkIndex_df160_5 kJ3_checkIndex_8e157 lkJ0_1059 rfl rfl (Nat.le_of_ble_eq_true rfl) ⟨by decide, by decide⟩ (by decide) ?_
    refine c_J3_checkIndex hv hj ?_
    show G _ _ _ _ _ _ _ _ _ _ _ _ _
    refine G_pop (pc := 8) dJ0_checkIndex_df160_8 rfl ?_
    refine G_vret (pc := 9) dJ0_checkIndex_df160_9 rfl (by decide) ?_
    exact hq
  refine G_iload_n (pc := 0) dJ0_checkIndex_df160_0 rfl ?_
  refine G_iload_n (pc := 1) dJ0_checkIndex_df160_1 rfl ?_
  refine G_getQ (pc := 2) dJ0_checkIndex_df160_2 fJ0_1053 ?_ (fun t => ?_)
  · exact hgo .null (Or.inl rfl)
  · exact hgo (.ref t) (Or.inr ⟨t, rfl⟩)
/-- sign j of text constant i -/
def gsc (i : Nat) (j : Int) : Int := ((gStrByt.getD i []).getD j.toNat 0).toInt
theorem gStr_ok : (List.range 13).all (fun i => decide ((gStrByt.getD i []).length = gStrLen.getD i 0 ∧ gStrLen.getD i 0 ≤ 46) && (gStrByt.getD i []).all (fun x => decide (x &&& iI 255 = x ∧ (x.toUInt32 % 65536).toInt32 = x ∧ 0 ≤ x.toInt ∧ x.toInt ≤ 127))) = true := by decide +kernel
theorem gStr_len {i : Nat} (hi : i < 13) : (gStrByt.getD i []).length = gStrLen.getD i 0 ∧ gStrLen.getD i 0 ≤ 46 := by
  have h := List.all_eq_true.mp gStr_ok i (List.mem_range.mpr hi)
  simp only [Bool.and_eq_true, decide_eq_true_eq] at h
  exact h.1
theorem gStr_sgn {i : Nat} {j : Int} (hi : i < 13) (hj : 0 ≤ j ∧ j < (gStrLen.getD i 0 : Nat)) : ((gStrByt.getD i []).getD j.toNat 0) &&& iI 255 = (gStrByt.getD i []).getD j.toNat 0 ∧ (((gStrByt.getD i []).getD j.toNat 0).toUInt32 % 65536).toInt32 = (gStrByt.getD i []).getD j.toNat 0 ∧ 0 ≤ gsc i j ∧ gsc i j ≤ 127 := by
  have h := List.all_eq_true.mp gStr_ok i (List.mem_range.mpr hi)
  simp only [Bool.and_eq_true, decide_eq_true_eq] at h
  have hl := gStr_len hi
  have key : ∀ (L : List Int32) (m : Nat), m < L.length → L.getD m 0 ∈ L := fun L m hm => by
    rw [List.getD_eq_getElem?_getD, List.getElem?_eq_getElem hm]
    exact List.getElem_mem hm
  have hm := key (gStrByt.getD i []) j.toNat (by omega)
  have := List.all_eq_true.mp h.2 _ hm
  exact of_decide_eq_true this
theorem nar_char {x : Int32} (h : 0 ≤ x.toInt ∧ x.toInt ≤ 127) : narrow .char (.int x) = .int x := by
  have hx : x = iI x.toInt := (iI_of x).symm
  generalize hz : x.toInt = z at hx h
  subst hx
  obtain ⟨m, rfl⟩ : ∃ m : Nat, z = m := ⟨z.toNat, by omega⟩
  have hm : m < 128 := by omega
  have key : ∀ m : Nat, m < 128 → narrow .char (.int (iI (m : Int))) = .int (iI (m : Int)) := by decide +kernel
  exact key m hm
set_option maxRecDepth 100000 in
set_option maxHeartbeats 4000000 in
theorem c_J1_charAt {g : GC} {hh : GA} {n i : Nat} {Q : Option Value → GA → Nat → Prop} {j : Int} (hi : i < 13) (hj : 0 ≤ j ∧ j < (gStrLen.getD i 0 : Nat)) (hq : Q (some (.int (iI (gsc i j)))) hh n) : GCall g mJ1_charAt_3b067 3 0 0 [.ref (gSV g i), .int (iI j)] hh n Q := by
  have hl := gStr_len hi
  obtain ⟨s1, s2, s3, s4⟩ := gStr_sgn hi hj
  refine GCall_ofF (by decide +kernel) (Nat.le_of_ble_eq_true rfl) (ls := [(0, _), (1, _)]) rfl ?_
  refine G_iload_n (pc := 0) dJ1_charAt_3b067_0 rfl ?_
  refine G_aload_n (pc := 1) dJ1_charAt_3b067_1 rfl ?_
  refine G_alenS (pc := 2) hi dJ1_charAt_3b067_2 ?_
  refine G_callS (pc := 3) (d2 := 2) (mc2 := 0) (ms2 := 0) (As := [_, _]) dJ1_charAt_3b067_3 kJ0_checkIndex_df160 lkJ1_9 rfl rfl (Nat.le_of_ble_eq_true rfl) ⟨by decide, by decide⟩ (by decide) ?_
  rw [show Int32.ofNat (gStrLen.getD i 0) = iI ((gStrLen.getD i 0 : Nat) : Int) from (iI_nI _).symm]
  refine c_J0_checkIndex (by omega) ?_
  show G _ _ _ _ _ _ _ _ _ _ _ _ _
  refine G_aload_n (pc := 6) dJ1_charAt_3b067_6 rfl ?_
  refine G_iload_n (pc := 7) dJ1_charAt_3b067_7 rfl ?_
  refine G_baldS (pc := 8) hi dJ1_charAt_3b067_8 (by omega) ?_
  refine G_sipush (pc := 9) dJ1_charAt_3b067_9 rfl ?_
  refine G_iand (pc := 12) dJ1_charAt_3b067_12 s1 ?_
  refine G_i2c (pc := 13) dJ1_charAt_3b067_13 s2 ?_
  refine G_nret (pc := 14) (ty := .char) dJ1_charAt_3b067_14 rfl (nar_char ⟨s3, s4⟩) (by decide) ?_
  unfold gsc at hq
  rw [iI_of] at hq
  exact hq
set_option maxRecDepth 100000 in
set_option maxHeartbeats 4000000 in
theorem c_J0_charAt {g : GC} {hh : GA} {n i : Nat} {Q : Option Value → GA → Nat → Prop} {j : Int} (hi : i < 13) (hj : 0 ≤ j ∧ j < (gStrLen.getD i 0 : Nat)) (hq : Q (some (.int (iI (gsc i j)))) hh n) : GCall g mJ0_charAt_5068e 4 0 0 [.ref (gSK g i), .int (iI j)] hh n Q := by
  obtain ⟨s1, s2, s3, s4⟩ := gStr_sgn hi hj
  refine GCall_ofF (by decide +kernel) (Nat.le_of_ble_eq_true rfl) (ls := [(0, _), (1, _)]) rfl ?_
  refine G_aload_n (pc := 0) dJ0_charAt_5068e_0 rfl ?_
  refine G_callStr (pc := 1) (d2 := 1) (mc2 := 0) (ms2 := 0) (As := []) hi dJ0_charAt_5068e_1 kJ0_isLatin1_aae02 lkJ0_492 rfl rfl rfl (Nat.le_of_ble_eq_true rfl) ⟨by decide, by decide⟩ (by decide) ?_
  refine c_J0_isLatin1 hi ?_
  show G _ _ _ _ _ _ _ _ _ _ _ _ _
  refine G_if_eq_f (pc := 4) 16 dJ0_charAt_5068e_4 rfl (by decide) (by decide) ?_
  refine G_aload_n (pc := 7) dJ0_charAt_5068e_7 rfl ?_
  refine G_valueS (pc := 8) hi dJ0_charAt_5068e_8 fJ0_9 ?_
  refine G_iload_n (pc := 11) dJ0_charAt_5068e_11 rfl ?_
  refine G_callS (pc := 12) (d2 := 3) (mc2 := 0) (ms2 := 0) (As := [_, _]) dJ0_charAt_5068e_12 kJ1_charAt_3b067 lkJ0_495 rfl rfl (Nat.le_of_ble_eq_true rfl) ⟨by decide, by decide⟩ (by decide) ?_
  refine c_J1_charAt hi hj ?_
  show G _ _ _ _ _ _ _ _ _ _ _ _ _
  refine G_nret (pc := 15) (ty := .char) dJ0_charAt_5068e_15 rfl (nar_char (by rw [iI_toInt (by omega)]; omega)) (by decide) ?_
  exact hq
