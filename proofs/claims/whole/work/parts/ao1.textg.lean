/-! the Model's text once more: what it leaves as it is, sharper -/
theorem mnor_grr {S : SS} {v24 v25 v26 v27 v28 : Int} : GrR S (mnor S v24 v25 v26 v27 v28) := GrR_F (GrR_F (GrR_F (GrR_F (GrR_F GrR_rf (by decide)) (by decide)) (by decide)) (by decide)) (by decide)
set_option maxRecDepth 100000 in
set_option maxHeartbeats 4000000 in
theorem c_X10_textG0 {g : GC} {sh : SH} {S : SS} {n : Nat} {tc ru tp : Int} {env tape : Int → Int} {Q : Option Value → GA → Nat → Prop} (hM : MxW sh S tc ru) (hV : MqW sh S tp) (hE : MtE S env) (hta : S.2.1 104 = tape) (h0 : tc = 6 → Q (some (.int (iI (-4)))) (hp g sh S) n)
    (hF : tc < 6 → ∀ (kf : Nat) (S' : SS), ptx (tkk (bt tp tape)) = .inl kf → GrR (mtx S tc tp) S' → Q (some (.int (iI (-100 - tka tp (bt tp tape) kf)))) (hp g sh S') n)
    (hS : tc < 6 → ∀ (x : List Int × List Int × List Int) (S' : SS), ptx (tkk (bt tp tape)) = .inr x → GrR (mtx S tc tp) S' → Q (some (.int (iI tc))) (hp g sh (setF S' 96 11 (tc + 1))) n) :
    GCall g mX10_text 47 0 0 [gr g 96] (hp g sh S) n Q := by
  subst hta
  have hM' := hM
  obtain ⟨h96, q9, q10, h102, h103, e11, e12, htc, hru, r102, r103⟩ := hM'
  have hV' := hV
  obtain ⟨-, q13, h104, e14, htp, r104⟩ := hV'
  have M1 := MxW_mtx hM hV
  have eN : (mtx S tc tp).2.1 103 tc = tp := by
    show (setA (putA S 102 _) 103 tc tp).2.1 103 tc = tp
    unfold setA
    rw [putA_at]; exact iup_at
  refine GCall.of (by decide) (Nat.le_of_ble_eq_true rfl) (ls := [(0, _)]) rfl ?_
  have KF : tc < 6 → ∀ (kf : Nat) (S' : SS) (v : Int), ptx (tkk (bt tp (S.2.1 104))) = .inl kf → GrR (mtx S tc tp) S' → MtF S' (tka tp (bt tp (S.2.1 104)) kf) → G g mX10_text 47 0 0 76 [(0, gr g 96)] [.int (iI v)] (hp g sh S') n 0 0 Q := by
    intro ht kf S' v e r1 r2
    have e22 := r2.1
    have e23 := r2.2
    refine G_istore_n (pc := 76) (ls' := [(1, _), (0, _)]) dX10_text_76 (by decide) rfl ?_
    refine S_aload_n (pc := 77) dX10_text_77 rfl ?_
    refine S_getI (pc := 78) dX10_text_78 fX10_189 (by assumption) rfl ?_
    rw [e22]
    refine G_if_eq_f (pc := 81) 92 dX10_text_81 rfl (by omega) (by decide) ?_
    refine G_bipush (pc := 84) dX10_text_84 rfl ?_
    refine S_aload_n (pc := 86) dX10_text_86 rfl ?_
    refine S_getI (pc := 87) dX10_text_87 fX10_193 (by assumption) rfl ?_
    rw [e23]
    refine G_isub (pc := 90) dX10_text_90 ?_
    refine G_iret (pc := 91) dX10_text_91 rfl (by decide) ?_
    exact hF ht kf S' e r1
  have KS : tc < 6 → ∀ (x : List Int × List Int × List Int) (S' : SS) (v : Int), ptx (tkk (bt tp (S.2.1 104))) = .inr x → GrR (mtx S tc tp) S' → S'.1 96 22 = 0 → G g mX10_text 47 0 0 76 [(0, gr g 96)] [.int (iI v)] (hp g sh S') n 0 0 Q := by
    intro ht x S' v e r1 r2
    have e11' : S'.1 96 11 = tc := by rw [r1.2 96 11 (by decide)]; exact M1.2.2.2.2.2.1
    have e11b : (setF S' 96 11 (tc + 1)).1 96 11 = tc + 1 := setF_at
    refine G_istore_n (pc := 76) (ls' := [(1, _), (0, _)]) dX10_text_76 (by decide) rfl ?_
    refine S_aload_n (pc := 77) dX10_text_77 rfl ?_
    refine S_getI (pc := 78) dX10_text_78 fX10_189 (by assumption) rfl ?_
    rw [r2]
    refine G_if_eq_t (pc := 81) 92 dX10_text_81 rfl (by omega) (by decide) ?_
    refine S_aload_n (pc := 92) dX10_text_92 rfl ?_
    refine G_dup (pc := 93) dX10_text_93 rfl ?_
    refine S_getI (pc := 94) dX10_text_94 fX10_79 (by assumption) rfl ?_
    rw [e11']
    refine G_iconst (pc := 97) dX10_text_97 ?_
    refine G_iadd (pc := 98) dX10_text_98 ?_
    refine S_putI (pc := 99) dX10_text_99 fX10_79 (by assumption) rfl ⟨rfl, rfl⟩ ?_
    refine S_aload_n (pc := 102) dX10_text_102 rfl ?_
    refine S_getI (pc := 103) dX10_text_103 fX10_79 (by assumption) rfl ?_
    rw [e11b]
    refine G_iconst (pc := 106) dX10_text_106 ?_
    refine G_isub (pc := 107) dX10_text_107 ?_
    refine G_iret (pc := 108) dX10_text_108 rfl (by decide) ?_
    exact Q_i (by omega) (hS ht x S' e r1)
  have K49 : tc < 6 → G g mX10_text 47 0 0 49 [(0, gr g 96)] [] (hp g sh (putA S 102 (seg (160 * tc) (160 * tc + tp) (fun j => S.2.1 104 (j - 160 * tc)) (S.2.1 102)))) n 0 0 Q := by
    intro ht
    have e1 : (putA S 102 (seg (160 * tc) (160 * tc + tp) (fun j => S.2.1 104 (j - 160 * tc)) (S.2.1 102))).1 96 11 = tc := e11
    have e2 : (putA S 102 (seg (160 * tc) (160 * tc + tp) (fun j => S.2.1 104 (j - 160 * tc)) (S.2.1 102))).1 96 14 = tp := e14
    have e3 : (mtx S tc tp).1 96 11 = tc := M1.2.2.2.2.2.1
    refine S_aload_n (pc := 49) dX10_text_49 rfl ?_
    refine S_getR (pc := 50) dX10_text_50 fX10_33 (by assumption) rfl (by assumption) ?_
    refine S_aload_n (pc := 53) dX10_text_53 rfl ?_
    refine S_getI (pc := 54) dX10_text_54 fX10_79 (by assumption) rfl ?_
    rw [e1]
    refine S_aload_n (pc := 57) dX10_text_57 rfl ?_
    refine S_getI (pc := 58) dX10_text_58 fX10_165 (by assumption) rfl ?_
    rw [e2]
    refine S_iast (pc := 61) dX10_text_61 (by assumption) (by omega) ?_
    refine S_aload_n (pc := 62) dX10_text_62 rfl ?_
    refine G_iconst (pc := 63) dX10_text_63 ?_
    refine S_putI (pc := 64) dX10_text_64 fX10_165 (by assumption) rfl ⟨rfl, rfl⟩ ?_
    rw [show setF (setA (putA S 102 (seg (160 * tc) (160 * tc + tp) (fun j => S.2.1 104 (j - 160 * tc)) (S.2.1 102))) 103 tc tp) 96 14 0 = mtx S tc tp from rfl]
    refine S_aload_n (pc := 67) dX10_text_67 rfl ?_
    refine S_aload_n (pc := 68) dX10_text_68 rfl ?_
    refine S_getI (pc := 69) dX10_text_69 fX10_79 (by assumption) rfl ?_
    rw [e3]
    refine G_iconst (pc := 72) dX10_text_72 ?_
    refine S_callV (pc := 73) (ci := 10) (d2 := 46) (mc2 := 0) (ms2 := 0) (As := [_, _]) dX10_text_73 kX10_read lkX10_261 (by assumption) rfl rfl rfl (Nat.le_of_ble_eq_true rfl) ⟨by decide, by decide⟩ (by decide) ?_
    refine c_X10_read M1 (show MtE (mtx S tc tp) env from hE) (by omega) (by omega) eN mtB_mtx (fun kf S' v e r1 r2 => ?_) (fun l0 l1 l2 v S' e r1 r2 r3 => ?_)
    · show G _ _ _ _ _ _ _ _ _ _ _ _ _
      first | exact KF ht kf S' v e r1 r2 | exact KS ht _ S' v e r1 r2
    · show G _ _ _ _ _ _ _ _ _ _ _ _ _
      first | exact KF ht kf S' v e r1 r2 | exact KS ht _ S' v e r1 r2
  refine S_aload_n (pc := 0) dX10_text_0 rfl ?_
  refine S_getI (pc := 1) dX10_text_1 fX10_79 (by assumption) rfl ?_
  rw [e11]
  refine G_bipush (pc := 4) dX10_text_4 rfl ?_
  refine G_icmp_ne (pc := 6) 12 dX10_text_6 rfl (by omega) (fun c6 => ?_) (fun c6 => ?_)
  · skip
    refine G_iconst (pc := 12) dX10_text_12 ?_
    refine G_istore_n (pc := 13) (ls' := [(1, _), (0, _)]) dX10_text_13 (by decide) rfl ?_
    have := l_X10_text hM hV (by omega) rfl (K49 (by omega)) tp.toNat 0 (by omega) (Int.le_refl _)
    rw [Int.add_zero, seg_0, putA_same] at this
    exact this
  · skip
    refine G_bipush (pc := 9) dX10_text_9 rfl ?_
    refine G_iret (pc := 11) dX10_text_11 rfl (by decide) ?_
    exact h0 (by omega)

theorem c_X10_textG {g : GC} {sh : SH} {S : SS} {n : Nat} {tc ru tp : Int} {tape : Int → Int} {Q : Option Value → GA → Nat → Prop} (hM : MxW sh S tc ru) (hV : MqW sh S tp) (hta : S.2.1 104 = tape) (h0 : tc = 6 → Q (some (.int (iI (-4)))) (hp g sh S) n)
    (hF : tc < 6 → ∀ (kf : Nat) (S' : SS), ptx (tkk (bt tp tape)) = .inl kf → GrR (mtx S tc tp) S' → Q (some (.int (iI (-100 - tka tp (bt tp tape) kf)))) (hp g sh S') n)
    (hS : tc < 6 → ∀ (x : List Int × List Int × List Int) (S' : SS), ptx (tkk (bt tp tape)) = .inr x → GrR (mtx S tc tp) S' → Q (some (.int (iI tc))) (hp g sh (setF S' 96 11 (tc + 1))) n) :
    GCall g mX10_text 47 0 0 [gr g 96] (hp g sh S) n Q := by
  have h96 := hM.1
  obtain ⟨v24, e24, b24⟩ : ∃ v : Int, v = bw (S.1 96 24) ∧ (-2147483648 ≤ v ∧ v ≤ 2147483647) := ⟨_, rfl, bw_bd⟩
  obtain ⟨v25, e25, b25⟩ : ∃ v : Int, v = bw (S.1 96 25) ∧ (-2147483648 ≤ v ∧ v ≤ 2147483647) := ⟨_, rfl, bw_bd⟩
  obtain ⟨v26, e26, b26⟩ : ∃ v : Int, v = bw (S.1 96 26) ∧ (-2147483648 ≤ v ∧ v ≤ 2147483647) := ⟨_, rfl, bw_bd⟩
  obtain ⟨v27, e27, b27⟩ : ∃ v : Int, v = bw (S.1 96 27) ∧ (-2147483648 ≤ v ∧ v ≤ 2147483647) := ⟨_, rfl, bw_bd⟩
  obtain ⟨v28, e28, b28⟩ : ∃ v : Int, v = bw (S.1 96 28) ∧ (-2147483648 ≤ v ∧ v ≤ 2147483647) := ⟨_, rfl, bw_bd⟩
  have eh := mnor_hp (g := g) h96 e24 e25 e26 e27 e28
  have sc : MScr S (mnor S v24 v25 v26 v27 v28) := mnor_scr
  have scx : GrR (mtx S tc tp) (mtx (mnor S v24 v25 v26 v27 v28) tc tp) := by rw [mnor_mtx]; exact mnor_grr
  have hM2 : MxW sh (mnor S v24 v25 v26 v27 v28) tc ru := by
    obtain ⟨h96, q9, q10, h102, h103, e11, e12, htc, hru, r102, r103⟩ := hM
    exact ⟨h96, q9, q10, h102, h103, (sc.1 96 11 (by decide)).trans e11, (sc.1 96 12 (by decide)).trans e12, htc, hru, r102, r103⟩
  have hV2 : MqW sh (mnor S v24 v25 v26 v27 v28) tp := by
    obtain ⟨-, q13, h104, e14, htp, r104⟩ := hV
    exact ⟨h96, q13, h104, (sc.1 96 14 (by decide)).trans e14, htp, r104⟩
  have hta2 : (mnor S v24 v25 v26 v27 v28).2.1 104 = tape := (sc.2.2.1 104 (by decide)).trans hta
  rw [← eh]
  exact c_X10_textG0 hM2 hV2 (mnor_E b24 b25 b26 b27 b28) hta2 (fun z => by rw [eh]; exact h0 z) (fun ht kf S' e r => hF ht kf S' e (GrR_tr scx r)) (fun ht x S' e r => hS ht x S' e (GrR_tr scx r))
