theorem ld_m10 {x : Int32} (h : 0 ≤ x.toInt ∧ x.toInt ≤ 100) : (x - nI 10).toInt = x.toInt - 10 := by
  have e : (nI 10).toInt = 10 := by decide
  rw [fb_subI (by rw [e]; omega) (by rw [e]; omega), e]
def ld_sr2 (o : Option Nat) (h : Nat) (U : ld_Se) (what : Int32) : Int32 := if what.toInt = 1 then ld_nv o else if (ld_nv o).toInt = -9 then ld_an h U.2.1 U.2.2 what else (-100 : Int32) - ld_nv o
theorem ld_sr2_n {h : Nat} {U : ld_Se} {what : Int32} (w1 : ¬ what.toInt = 1) : ld_sr2 none h U what = ld_an h U.2.1 U.2.2 what := by
  unfold ld_sr2
  rw [if_neg w1, if_pos (by decide)]
theorem ld_sr2_1 {o : Option Nat} {h : Nat} {U : ld_Se} {what : Int32} (w1 : what.toInt = 1) : ld_sr2 o h U what = ld_nv o := if_pos w1
theorem ld_sr2_s {h j : Nat} {U : ld_Se} {what : Int32} (w1 : ¬ what.toInt = 1) (hj : j < 1000) : ld_sr2 (some j) h U what = (-100 : Int32) - nI j := by
  unfold ld_sr2
  have e : (ld_nv (some j)).toInt = (j : Int) := nI_toInt (by omega)
  rw [if_neg w1, if_neg (by rw [e]; omega)]
  rfl
set_option maxHeartbeats 4000000 in
set_option maxRecDepth 100000 in
theorem c_X3_seasonBy (l : Launch) (ad : Nat → Nat) (σ : ld_St) (h : Nat) (hh : σ 141 0 = nI h) (h8 : h ≤ 8) (cr : Nat) (hcr : σ 142 0 = nI cr) (c99 : cr ≤ 99) (T : Nat) (hT : T ≤ 8700) (hbd : ld_bd h (σ 20) (σ 21) (σ 22) (σ 23) T) (C : Nat → Int32) (i0 n : Nat) (hC : ∀ z, σ 36 (i0 + z) = C z) (hb : i0 + 2 * n ≤ 240) (n20 : n ≤ 20) (hok : (ld_rps h C n).toInt = 0) (what : Int32) (hwh : (0 ≤ what.toInt ∧ what.toInt ≤ 4) ∨ (10 ≤ what.toInt ∧ what.toInt < 18)) : ld_Ctr l yX3_seasonBy cX3_seasonBy 9 (some .int) (5, 120) [.ref (ad 8), .int (nI i0), .int (nI n), .int what] ad σ (ld_I (fun (r : Int32) (σ2 : ld_St) => r = ld_sr2 (ld_sn h (σ 20) C (σ 142 0, (σ 21, σ 22, σ 23), nI 0) n).1 h (ld_sn h (σ 20) C (σ 142 0, (σ 21, σ 22, σ 23), nI 0) n).2 what ∧ ∃ ft fs fp fd fc fw fl : Nat → Int32, σ2 = us (us (us (us (us (us (us σ 21 ft) 22 fs) 23 fp) 27 fd) 142 fc) 143 fw) 149 fl)) := by
  refine ld_entry (by decide +kernel) (Nat.le_of_ble_eq_true rfl) (fun K O E => ?_)
  have O : ld_Ok l K ad cX3_seasonBy 9 RX3 (ld_rm (5, 120)) := O
  have hrp := ld_rps_z hok
  show K σ [(0, .ref (ad 8)), (1, .int (nI i0)), (2, .int (nI n)), (3, .int what)] [] 0
  refine ld_bipush O (pc := 0) (v := (-9 : Int32)) dX3_seasonBy_0 (by decide) ?_
  refine ld_istore O (pc := 2) [(4, .int (-9 : Int32)), (0, .ref (ad 8)), (1, .int (nI i0)), (2, .int (nI n)), (3, .int what)] dX3_seasonBy_2 (by decide) rfl ?_
  refine ld_aload_n O (pc := 4) 1 dX3_seasonBy_4 rfl rfl ?_
  refine ld_iconst O (pc := 5) (v := nI 0) dX3_seasonBy_5 (by decide) ?_
  refine ld_p_M_weeksWithout O (pc := 6) ld_w358 dX3_seasonBy_6 ?_
  refine ld_iconst O (pc := 9) (v := nI 0) dX3_seasonBy_9 (by decide) ?_
  refine ld_istore O (pc := 10) [(5, .int (nI 0)), (4, .int (-9 : Int32)), (0, .ref (ad 8)), (1, .int (nI i0)), (2, .int (nI n)), (3, .int what)] dX3_seasonBy_10 (by decide) rfl ?_
  have L12 : ∀ (m_12 : Nat) (j : Nat) (o : Option Nat) (Q : ld_Se) (crq : Nat) (ft : Nat → Int32) (fs : Nat → Int32) (fp : Nat → Int32) (fd : Nat → Int32) (fc : Nat → Int32) (fw : Nat → Int32) (fl : Nat → Int32), n - j < m_12 → (j ≤ n) → (o = none → ld_sn h (σ 20) C (σ 142 0, (σ 21, σ 22, σ 23), nI 0) j = (none, Q) ∧ ld_seq h (fc 0, (ft, fs, fp), fl 0) Q ∧ crq ≤ 99 ∧ fc 0 = nI crq ∧ ld_bd h (σ 20) ft fs fp (T + 10 * j)) → (∀ w, o = some w → w < 60 ∧ (ld_sn h (σ 20) C (σ 142 0, (σ 21, σ 22, σ 23), nI 0) n).1 = some w) → K (us (us (us (us (us (us (us σ 21 ft) 22 fs) 23 fp) 27 fd) 142 fc) 143 fw) 149 fl) [(0, .ref (ad 8)), (1, .int (nI i0)), (2, .int (nI n)), (3, .int what), (4, .int (ld_nv o)), (5, .int (nI j))] [] 12 := by
    intro m_12
    induction m_12 with
    | zero => intro j o Q crq ft fs fp fd fc fw fl hm_; exact absurd hm_ (Nat.not_lt_zero _)
    | succ m_12 ih12 =>
      intro j o Q crq ft fs fp fd fc fw fl hm_12 hj ho hs
      refine ld_iload O (pc := 12) 5 dX3_seasonBy_12 rfl ?_
      rcases o with _ | w
      · obtain ⟨hs_, hq_, hc99_, hfc_, hbd_⟩ := ho rfl
        show K (us (us (us (us (us (us (us σ 21 ft) 22 fs) 23 fp) 27 fd) 142 fc) 143 fw) 149 fl) [(0, .ref (ad 8)), (1, .int (nI i0)), (2, .int (nI n)), (3, .int what), (4, .int (-9 : Int32)), (5, .int (nI j))] [.int (nI j)] 14
        refine ld_iload_n O (pc := 14) 2 dX3_seasonBy_14 rfl rfl ?_
        refine ld_icmp_ge O (pc := 15) ((j : Nat) : Int) ((n : Nat) : Int) (nI_toInt (by omega)) (nI_toInt (by omega)) 69 dX3_seasonBy_15 (by decide) (fun c1 => ?_) (fun c1 => ?_)
        · refine ld_iload_n O (pc := 69) 3 dX3_seasonBy_69 rfl rfl ?_
          refine ld_iconst O (pc := 70) (v := nI 1) dX3_seasonBy_70 (by decide) ?_
          refine ld_icmp_ne O (pc := 71) (what).toInt 1 rfl (by decide) 77 dX3_seasonBy_71 (by decide) (fun c2 => ?_) (fun c2 => ?_)
          · refine ld_iload O (pc := 77) 4 dX3_seasonBy_77 rfl ?_
            refine ld_if_lt O (pc := 79) (-9) (by decide) 88 dX3_seasonBy_79 (by decide) (fun _ => ?_) (fun z => absurd z (by decide))
            refine ld_iload_n O (pc := 88) 3 dX3_seasonBy_88 rfl rfl ?_
            refine ld_bipush O (pc := 89) (v := nI 10) dX3_seasonBy_89 (by decide) ?_
            refine ld_icmp_lt O (pc := 91) (what).toInt 10 rfl (by decide) 120 dX3_seasonBy_91 (by decide) (fun c4 => ?_) (fun c4 => ?_)
            · refine ld_iconst O (pc := 120) (v := nI 0) dX3_seasonBy_120 (by decide) ?_
              refine ld_istore O (pc := 121) [(5, .int (nI 0)), (0, .ref (ad 8)), (1, .int (nI i0)), (2, .int (nI n)), (3, .int what), (4, .int (-9 : Int32))] dX3_seasonBy_121 (by decide) rfl ?_
              refine ld_iconst O (pc := 123) (v := nI 0) dX3_seasonBy_123 (by decide) ?_
              refine ld_istore O (pc := 124) [(6, .int (nI 0)), (5, .int (nI 0)), (0, .ref (ad 8)), (1, .int (nI i0)), (2, .int (nI n)), (3, .int what), (4, .int (-9 : Int32))] dX3_seasonBy_124 (by decide) rfl ?_
              refine ld_iconst O (pc := 126) (v := nI 0) dX3_seasonBy_126 (by decide) ?_
              refine ld_istore O (pc := 127) [(7, .int (nI 0)), (6, .int (nI 0)), (5, .int (nI 0)), (0, .ref (ad 8)), (1, .int (nI i0)), (2, .int (nI n)), (3, .int what), (4, .int (-9 : Int32))] dX3_seasonBy_127 (by decide) rfl ?_
              refine ld_iconst O (pc := 129) (v := nI 0) dX3_seasonBy_129 (by decide) ?_
              refine ld_istore O (pc := 130) [(8, .int (nI 0)), (7, .int (nI 0)), (6, .int (nI 0)), (5, .int (nI 0)), (0, .ref (ad 8)), (1, .int (nI i0)), (2, .int (nI n)), (3, .int what), (4, .int (-9 : Int32))] dX3_seasonBy_130 (by decide) rfl ?_
              have L132 : ∀ (m_132 : Nat) (i : Nat) (s5 : Int32) (s6 : Int32) (s7 : Int32), h - i < m_132 → (i ≤ h) → (s5 = l_sum fs i) → (s6 = l_sum ft i) → (s7 = l_sum fp i) → K (us (us (us (us (us (us (us σ 21 ft) 22 fs) 23 fp) 27 fd) 142 fc) 143 fw) 149 fl) [(0, .ref (ad 8)), (1, .int (nI i0)), (2, .int (nI n)), (3, .int what), (4, .int (-9 : Int32)), (5, .int s5), (6, .int s6), (7, .int s7), (8, .int (nI i))] [] 132 := by
                intro m_132
                induction m_132 with
                | zero => intro i s5 s6 s7 hm_; exact absurd hm_ (Nat.not_lt_zero _)
                | succ m_132 ih132 =>
                  intro i s5 s6 s7 hm_132 hi hs5 hs6 hs7
                  refine ld_iload O (pc := 132) 8 dX3_seasonBy_132 rfl ?_
                  refine ld_aload_n O (pc := 134) 0 dX3_seasonBy_134 rfl rfl ?_
                  refine ld_g_M_houses O (pc := 135) (v := nI h) ld_w119 hh dX3_seasonBy_135 ?_
                  refine ld_icmp_ge O (pc := 138) ((i : Nat) : Int) ((h : Nat) : Int) (nI_toInt (by omega)) (nI_toInt (by omega)) 183 dX3_seasonBy_138 (by decide) (fun c5 => ?_) (fun c5 => ?_)
                  · refine ld_iload_n O (pc := 183) 3 dX3_seasonBy_183 rfl rfl ?_
                    refine ld_if_ne O (pc := 184) (what).toInt rfl 192 dX3_seasonBy_184 (by decide) (fun c6 => ?_) (fun c6 => ?_)
                    · refine ld_iload_n O (pc := 192) 3 dX3_seasonBy_192 rfl rfl ?_
                      refine ld_iconst O (pc := 193) (v := nI 2) dX3_seasonBy_193 (by decide) ?_
                      refine ld_icmp_ne O (pc := 194) (what).toInt 2 rfl (by decide) 202 dX3_seasonBy_194 (by decide) (fun c7 => ?_) (fun c7 => ?_)
                      · refine ld_iload_n O (pc := 202) 3 dX3_seasonBy_202 rfl rfl ?_
                        refine ld_iconst O (pc := 203) (v := nI 3) dX3_seasonBy_203 (by decide) ?_
                        refine ld_icmp_ne O (pc := 204) (what).toInt 3 rfl (by decide) 214 dX3_seasonBy_204 (by decide) (fun c8 => ?_) (fun c8 => ?_)
                        · refine ld_iload O (pc := 214) 7 dX3_seasonBy_214 rfl ?_
                          refine ld_ireti E dX3_seasonBy_216 ?_
                          refine ⟨?_, ft, fs, fp, fd, fc, fw, fl, ?_⟩
                          · rw [show j = n by omega] at hs_
                            rw [hs_]
                            dsimp only
                            rw [ld_sr2_n (by omega)]
                            refine Eq.trans ?_ (ld_an_cong (by omega) (by omega) hq_.2.1 hq_.2.2 h8)
                            unfold ld_an
                            dsimp only
                            rw [show i = h by omega] at hs5 hs6 hs7
                            repeat' split
                            all_goals first | (exfalso; omega) | exact hs5 | exact hs6 | exact hs7 | rfl
                          · funext b_
                            by_cases h0_ : b_ = 21
                            · subst h0_; exact ((us_ne _ _ (by decide)).trans ((us_ne _ _ (by decide)).trans ((us_ne _ _ (by decide)).trans ((us_ne _ _ (by decide)).trans ((us_ne _ _ (by decide)).trans ((us_ne _ _ (by decide)).trans (us_eq _ _ _))))))).trans ((us_ne _ _ (by decide)).trans ((us_ne _ _ (by decide)).trans ((us_ne _ _ (by decide)).trans ((us_ne _ _ (by decide)).trans ((us_ne _ _ (by decide)).trans ((us_ne _ _ (by decide)).trans (us_eq _ _ _))))))).symm
                            by_cases h1_ : b_ = 22
                            · subst h1_; exact ((us_ne _ _ (by decide)).trans ((us_ne _ _ (by decide)).trans ((us_ne _ _ (by decide)).trans ((us_ne _ _ (by decide)).trans ((us_ne _ _ (by decide)).trans (us_eq _ _ _)))))).trans ((us_ne _ _ (by decide)).trans ((us_ne _ _ (by decide)).trans ((us_ne _ _ (by decide)).trans ((us_ne _ _ (by decide)).trans ((us_ne _ _ (by decide)).trans (us_eq _ _ _)))))).symm
                            by_cases h2_ : b_ = 23
                            · subst h2_; exact ((us_ne _ _ (by decide)).trans ((us_ne _ _ (by decide)).trans ((us_ne _ _ (by decide)).trans ((us_ne _ _ (by decide)).trans (us_eq _ _ _))))).trans ((us_ne _ _ (by decide)).trans ((us_ne _ _ (by decide)).trans ((us_ne _ _ (by decide)).trans ((us_ne _ _ (by decide)).trans (us_eq _ _ _))))).symm
                            by_cases h3_ : b_ = 27
                            · subst h3_; exact ((us_ne _ _ (by decide)).trans ((us_ne _ _ (by decide)).trans ((us_ne _ _ (by decide)).trans (us_eq _ _ _)))).trans ((us_ne _ _ (by decide)).trans ((us_ne _ _ (by decide)).trans ((us_ne _ _ (by decide)).trans (us_eq _ _ _)))).symm
                            by_cases h4_ : b_ = 142
                            · subst h4_; exact ((us_ne _ _ (by decide)).trans ((us_ne _ _ (by decide)).trans (us_eq _ _ _))).trans ((us_ne _ _ (by decide)).trans ((us_ne _ _ (by decide)).trans (us_eq _ _ _))).symm
                            by_cases h5_ : b_ = 143
                            · subst h5_; exact ((us_ne _ _ (by decide)).trans (us_eq _ _ _)).trans ((us_ne _ _ (by decide)).trans (us_eq _ _ _)).symm
                            by_cases h6_ : b_ = 149
                            · subst h6_; exact (us_eq _ _ _).trans (us_eq _ _ _).symm
                            simp only [us, h0_, h1_, h2_, h3_, h4_, h5_, h6_, if_false]
                        · refine ld_aload_n O (pc := 207) 0 dX3_seasonBy_207 rfl rfl ?_
                          refine ld_g_M_weeksWithout O (pc := 208) (v := fl 0) ld_w358 rfl dX3_seasonBy_208 ?_
                          refine ld_goto O (pc := 211) 216 dX3_seasonBy_211 (by decide) ?_
                          refine ld_ireti E dX3_seasonBy_216 ?_
                          refine ⟨?_, ft, fs, fp, fd, fc, fw, fl, ?_⟩
                          · rw [show j = n by omega] at hs_
                            rw [hs_]
                            dsimp only
                            rw [ld_sr2_n (by omega)]
                            refine Eq.trans ?_ (ld_an_cong (by omega) (by omega) hq_.2.1 hq_.2.2 h8)
                            unfold ld_an
                            dsimp only
                            rw [show i = h by omega] at hs5 hs6 hs7
                            repeat' split
                            all_goals first | (exfalso; omega) | exact hs5 | exact hs6 | exact hs7 | rfl
                          · funext b_
                            by_cases h0_ : b_ = 21
                            · subst h0_; exact ((us_ne _ _ (by decide)).trans ((us_ne _ _ (by decide)).trans ((us_ne _ _ (by decide)).trans ((us_ne _ _ (by decide)).trans ((us_ne _ _ (by decide)).trans ((us_ne _ _ (by decide)).trans (us_eq _ _ _))))))).trans ((us_ne _ _ (by decide)).trans ((us_ne _ _ (by decide)).trans ((us_ne _ _ (by decide)).trans ((us_ne _ _ (by decide)).trans ((us_ne _ _ (by decide)).trans ((us_ne _ _ (by decide)).trans (us_eq _ _ _))))))).symm
                            by_cases h1_ : b_ = 22
                            · subst h1_; exact ((us_ne _ _ (by decide)).trans ((us_ne _ _ (by decide)).trans ((us_ne _ _ (by decide)).trans ((us_ne _ _ (by decide)).trans ((us_ne _ _ (by decide)).trans (us_eq _ _ _)))))).trans ((us_ne _ _ (by decide)).trans ((us_ne _ _ (by decide)).trans ((us_ne _ _ (by decide)).trans ((us_ne _ _ (by decide)).trans ((us_ne _ _ (by decide)).trans (us_eq _ _ _)))))).symm
                            by_cases h2_ : b_ = 23
                            · subst h2_; exact ((us_ne _ _ (by decide)).trans ((us_ne _ _ (by decide)).trans ((us_ne _ _ (by decide)).trans ((us_ne _ _ (by decide)).trans (us_eq _ _ _))))).trans ((us_ne _ _ (by decide)).trans ((us_ne _ _ (by decide)).trans ((us_ne _ _ (by decide)).trans ((us_ne _ _ (by decide)).trans (us_eq _ _ _))))).symm
                            by_cases h3_ : b_ = 27
                            · subst h3_; exact ((us_ne _ _ (by decide)).trans ((us_ne _ _ (by decide)).trans ((us_ne _ _ (by decide)).trans (us_eq _ _ _)))).trans ((us_ne _ _ (by decide)).trans ((us_ne _ _ (by decide)).trans ((us_ne _ _ (by decide)).trans (us_eq _ _ _)))).symm
                            by_cases h4_ : b_ = 142
                            · subst h4_; exact ((us_ne _ _ (by decide)).trans ((us_ne _ _ (by decide)).trans (us_eq _ _ _))).trans ((us_ne _ _ (by decide)).trans ((us_ne _ _ (by decide)).trans (us_eq _ _ _))).symm
                            by_cases h5_ : b_ = 143
                            · subst h5_; exact ((us_ne _ _ (by decide)).trans (us_eq _ _ _)).trans ((us_ne _ _ (by decide)).trans (us_eq _ _ _)).symm
                            by_cases h6_ : b_ = 149
                            · subst h6_; exact (us_eq _ _ _).trans (us_eq _ _ _).symm
                            simp only [us, h0_, h1_, h2_, h3_, h4_, h5_, h6_, if_false]
                      · refine ld_iload O (pc := 197) 6 dX3_seasonBy_197 rfl ?_
                        refine ld_goto O (pc := 199) 216 dX3_seasonBy_199 (by decide) ?_
                        refine ld_ireti E dX3_seasonBy_216 ?_
                        refine ⟨?_, ft, fs, fp, fd, fc, fw, fl, ?_⟩
                        · rw [show j = n by omega] at hs_
                          rw [hs_]
                          dsimp only
                          rw [ld_sr2_n (by omega)]
                          refine Eq.trans ?_ (ld_an_cong (by omega) (by omega) hq_.2.1 hq_.2.2 h8)
                          unfold ld_an
                          dsimp only
                          rw [show i = h by omega] at hs5 hs6 hs7
                          repeat' split
                          all_goals first | (exfalso; omega) | exact hs5 | exact hs6 | exact hs7 | rfl
                        · funext b_
                          by_cases h0_ : b_ = 21
                          · subst h0_; exact ((us_ne _ _ (by decide)).trans ((us_ne _ _ (by decide)).trans ((us_ne _ _ (by decide)).trans ((us_ne _ _ (by decide)).trans ((us_ne _ _ (by decide)).trans ((us_ne _ _ (by decide)).trans (us_eq _ _ _))))))).trans ((us_ne _ _ (by decide)).trans ((us_ne _ _ (by decide)).trans ((us_ne _ _ (by decide)).trans ((us_ne _ _ (by decide)).trans ((us_ne _ _ (by decide)).trans ((us_ne _ _ (by decide)).trans (us_eq _ _ _))))))).symm
                          by_cases h1_ : b_ = 22
                          · subst h1_; exact ((us_ne _ _ (by decide)).trans ((us_ne _ _ (by decide)).trans ((us_ne _ _ (by decide)).trans ((us_ne _ _ (by decide)).trans ((us_ne _ _ (by decide)).trans (us_eq _ _ _)))))).trans ((us_ne _ _ (by decide)).trans ((us_ne _ _ (by decide)).trans ((us_ne _ _ (by decide)).trans ((us_ne _ _ (by decide)).trans ((us_ne _ _ (by decide)).trans (us_eq _ _ _)))))).symm
                          by_cases h2_ : b_ = 23
                          · subst h2_; exact ((us_ne _ _ (by decide)).trans ((us_ne _ _ (by decide)).trans ((us_ne _ _ (by decide)).trans ((us_ne _ _ (by decide)).trans (us_eq _ _ _))))).trans ((us_ne _ _ (by decide)).trans ((us_ne _ _ (by decide)).trans ((us_ne _ _ (by decide)).trans ((us_ne _ _ (by decide)).trans (us_eq _ _ _))))).symm
                          by_cases h3_ : b_ = 27
                          · subst h3_; exact ((us_ne _ _ (by decide)).trans ((us_ne _ _ (by decide)).trans ((us_ne _ _ (by decide)).trans (us_eq _ _ _)))).trans ((us_ne _ _ (by decide)).trans ((us_ne _ _ (by decide)).trans ((us_ne _ _ (by decide)).trans (us_eq _ _ _)))).symm
                          by_cases h4_ : b_ = 142
                          · subst h4_; exact ((us_ne _ _ (by decide)).trans ((us_ne _ _ (by decide)).trans (us_eq _ _ _))).trans ((us_ne _ _ (by decide)).trans ((us_ne _ _ (by decide)).trans (us_eq _ _ _))).symm
                          by_cases h5_ : b_ = 143
                          · subst h5_; exact ((us_ne _ _ (by decide)).trans (us_eq _ _ _)).trans ((us_ne _ _ (by decide)).trans (us_eq _ _ _)).symm
                          by_cases h6_ : b_ = 149
                          · subst h6_; exact (us_eq _ _ _).trans (us_eq _ _ _).symm
                          simp only [us, h0_, h1_, h2_, h3_, h4_, h5_, h6_, if_false]
                    · refine ld_iload O (pc := 187) 5 dX3_seasonBy_187 rfl ?_
                      refine ld_goto O (pc := 189) 216 dX3_seasonBy_189 (by decide) ?_
                      refine ld_ireti E dX3_seasonBy_216 ?_
                      refine ⟨?_, ft, fs, fp, fd, fc, fw, fl, ?_⟩
                      · rw [show j = n by omega] at hs_
                        rw [hs_]
                        dsimp only
                        rw [ld_sr2_n (by omega)]
                        refine Eq.trans ?_ (ld_an_cong (by omega) (by omega) hq_.2.1 hq_.2.2 h8)
                        unfold ld_an
                        dsimp only
                        rw [show i = h by omega] at hs5 hs6 hs7
                        repeat' split
                        all_goals first | (exfalso; omega) | exact hs5 | exact hs6 | exact hs7 | rfl
                      · funext b_
                        by_cases h0_ : b_ = 21
                        · subst h0_; exact ((us_ne _ _ (by decide)).trans ((us_ne _ _ (by decide)).trans ((us_ne _ _ (by decide)).trans ((us_ne _ _ (by decide)).trans ((us_ne _ _ (by decide)).trans ((us_ne _ _ (by decide)).trans (us_eq _ _ _))))))).trans ((us_ne _ _ (by decide)).trans ((us_ne _ _ (by decide)).trans ((us_ne _ _ (by decide)).trans ((us_ne _ _ (by decide)).trans ((us_ne _ _ (by decide)).trans ((us_ne _ _ (by decide)).trans (us_eq _ _ _))))))).symm
                        by_cases h1_ : b_ = 22
                        · subst h1_; exact ((us_ne _ _ (by decide)).trans ((us_ne _ _ (by decide)).trans ((us_ne _ _ (by decide)).trans ((us_ne _ _ (by decide)).trans ((us_ne _ _ (by decide)).trans (us_eq _ _ _)))))).trans ((us_ne _ _ (by decide)).trans ((us_ne _ _ (by decide)).trans ((us_ne _ _ (by decide)).trans ((us_ne _ _ (by decide)).trans ((us_ne _ _ (by decide)).trans (us_eq _ _ _)))))).symm
                        by_cases h2_ : b_ = 23
                        · subst h2_; exact ((us_ne _ _ (by decide)).trans ((us_ne _ _ (by decide)).trans ((us_ne _ _ (by decide)).trans ((us_ne _ _ (by decide)).trans (us_eq _ _ _))))).trans ((us_ne _ _ (by decide)).trans ((us_ne _ _ (by decide)).trans ((us_ne _ _ (by decide)).trans ((us_ne _ _ (by decide)).trans (us_eq _ _ _))))).symm
                        by_cases h3_ : b_ = 27
                        · subst h3_; exact ((us_ne _ _ (by decide)).trans ((us_ne _ _ (by decide)).trans ((us_ne _ _ (by decide)).trans (us_eq _ _ _)))).trans ((us_ne _ _ (by decide)).trans ((us_ne _ _ (by decide)).trans ((us_ne _ _ (by decide)).trans (us_eq _ _ _)))).symm
                        by_cases h4_ : b_ = 142
                        · subst h4_; exact ((us_ne _ _ (by decide)).trans ((us_ne _ _ (by decide)).trans (us_eq _ _ _))).trans ((us_ne _ _ (by decide)).trans ((us_ne _ _ (by decide)).trans (us_eq _ _ _))).symm
                        by_cases h5_ : b_ = 143
                        · subst h5_; exact ((us_ne _ _ (by decide)).trans (us_eq _ _ _)).trans ((us_ne _ _ (by decide)).trans (us_eq _ _ _)).symm
                        by_cases h6_ : b_ = 149
                        · subst h6_; exact (us_eq _ _ _).trans (us_eq _ _ _).symm
                        simp only [us, h0_, h1_, h2_, h3_, h4_, h5_, h6_, if_false]
                  · refine ld_iload O (pc := 141) 5 dX3_seasonBy_141 rfl ?_
                    refine ld_aload_n O (pc := 143) 0 dX3_seasonBy_143 rfl rfl ?_
                    refine ld_g_M_stockOf O (pc := 144) ld_w53 dX3_seasonBy_144 ?_
                    refine ld_iload O (pc := 147) 8 dX3_seasonBy_147 rfl ?_
                    refine ld_iald O (pc := 149) 22 i (v := fs i) rfl (by decide) (show i < 8 by omega) rfl dX3_seasonBy_149 ?_
                    refine ld_iadd O (pc := 150) dX3_seasonBy_150 ?_
                    refine ld_istore O (pc := 151) [(5, .int (s5 + (fs i))), (0, .ref (ad 8)), (1, .int (nI i0)), (2, .int (nI n)), (3, .int what), (4, .int (-9 : Int32)), (6, .int s6), (7, .int s7), (8, .int (nI i))] dX3_seasonBy_151 (by decide) rfl ?_
                    refine ld_iload O (pc := 153) 6 dX3_seasonBy_153 rfl ?_
                    refine ld_aload_n O (pc := 155) 1 dX3_seasonBy_155 rfl rfl ?_
                    refine ld_g_M_temperOf O (pc := 156) ld_w52 dX3_seasonBy_156 ?_
                    refine ld_iload O (pc := 159) 8 dX3_seasonBy_159 rfl ?_
                    refine ld_iald O (pc := 161) 21 i (v := ft i) rfl (by decide) (show i < 8 by omega) rfl dX3_seasonBy_161 ?_
                    refine ld_iadd O (pc := 162) dX3_seasonBy_162 ?_
                    refine ld_istore O (pc := 163) [(6, .int (s6 + (ft i))), (5, .int (s5 + (fs i))), (0, .ref (ad 8)), (1, .int (nI i0)), (2, .int (nI n)), (3, .int what), (4, .int (-9 : Int32)), (7, .int s7), (8, .int (nI i))] dX3_seasonBy_163 (by decide) rfl ?_
                    refine ld_iload O (pc := 165) 7 dX3_seasonBy_165 rfl ?_
                    refine ld_aload_n O (pc := 167) 2 dX3_seasonBy_167 rfl rfl ?_
                    refine ld_g_M_pipsOf O (pc := 168) ld_w54 dX3_seasonBy_168 ?_
                    refine ld_iload O (pc := 171) 8 dX3_seasonBy_171 rfl ?_
                    refine ld_iald O (pc := 173) 23 i (v := fp i) rfl (by decide) (show i < 8 by omega) rfl dX3_seasonBy_173 ?_
                    refine ld_iadd O (pc := 174) dX3_seasonBy_174 ?_
                    refine ld_istore O (pc := 175) [(7, .int (s7 + (fp i))), (6, .int (s6 + (ft i))), (5, .int (s5 + (fs i))), (0, .ref (ad 8)), (1, .int (nI i0)), (2, .int (nI n)), (3, .int what), (4, .int (-9 : Int32)), (8, .int (nI i))] dX3_seasonBy_175 (by decide) rfl ?_
                    refine ld_iincN O (pc := 177) [(8, .int (nI (i + 1))), (7, .int (s7 + (fp i))), (6, .int (s6 + (ft i))), (5, .int (s5 + (fs i))), (0, .ref (ad 8)), (1, .int (nI i0)), (2, .int (nI n)), (3, .int what), (4, .int (-9 : Int32))] 8 dX3_seasonBy_177 rfl (by decide) rfl ?_
                    refine ld_goto O (pc := 180) 132 dX3_seasonBy_180 (by decide) ?_
                    refine ld_less O [4, 5, 6, 7, 8, 3, 2, 1, 0] (lv2 := [(0, .ref (ad 8)), (1, .int (nI i0)), (2, .int (nI n)), (3, .int what), (4, .int (-9 : Int32)), (5, .int (s5 + (fs i))), (6, .int (s6 + (ft i))), (7, .int (s7 + (fp i))), (8, .int (nI (i + 1)))]) rfl ?_
                    exact ih132 (i + 1) (s5 + (fs i)) (s6 + (ft i)) (s7 + (fp i)) (by omega) (by omega) (by rw [hs5]; rfl) (by rw [hs6]; rfl) (by rw [hs7]; rfl)
              refine ld_less O [4, 5, 6, 7, 8, 3, 2, 1, 0] (lv2 := [(0, .ref (ad 8)), (1, .int (nI i0)), (2, .int (nI n)), (3, .int what), (4, .int (-9 : Int32)), (5, .int (nI 0)), (6, .int (nI 0)), (7, .int (nI 0)), (8, .int (nI 0))]) rfl ?_
              exact L132 _ 0 (nI 0) (nI 0) (nI 0) (Nat.lt_succ_self _) (Nat.zero_le _) rfl rfl rfl
            · have hm10_ := ld_m10 (x := what) (by omega)
              refine ld_aload_n O (pc := 94) 0 dX3_seasonBy_94 rfl rfl ?_
              refine ld_iload_n O (pc := 95) 3 dX3_seasonBy_95 rfl rfl ?_
              refine ld_bipush O (pc := 96) (v := nI 10) dX3_seasonBy_96 (by decide) ?_
              refine ld_isub O (pc := 98) dX3_seasonBy_98 ?_
              refine ld_callVi O (pc := 99) (As := [.int (what - (nI 10))]) (st := []) ld_recv8 (c_X3_noHouse l ad (us (us (us (us (us (us (us σ 21 ft) 22 fs) 23 fp) 27 fd) 142 fc) 143 fw) 149 fl) (what - (nI 10)) h hh h8) ld_mw_X3_noHouse ld_w194 rfl rfl ⟨by decide, by decide⟩ (Nat.le_of_ble_eq_true rfl) dX3_seasonBy_99 (fun r_p99 σ_p99 h_p99 => ?_)
              obtain ⟨rfl, hσ_p99⟩ := h_p99
              rw [hσ_p99]
              show K (us (us (us (us (us (us (us σ 21 ft) 22 fs) 23 fp) 27 fd) 142 fc) 143 fw) 149 fl) [(0, .ref (ad 8)), (1, .int (nI i0)), (2, .int (nI n)), (3, .int what), (4, .int (-9 : Int32)), (5, .int (nI j))] [.int (ld_b (¬ (0 ≤ (what - (nI 10)).toInt ∧ (what - (nI 10)).toInt < (h : Int))))] 102
              refine ld_ifb_eq O (pc := 102) 110 dX3_seasonBy_102 (by decide) (fun c9 => ?_) (fun c9 => ?_)
              · replace c9 := Classical.byContradiction c9
                refine ld_aload_n O (pc := 110) 0 dX3_seasonBy_110 rfl rfl ?_
                refine ld_g_M_temperOf O (pc := 111) ld_w52 dX3_seasonBy_111 ?_
                refine ld_iload_n O (pc := 114) 3 dX3_seasonBy_114 rfl rfl ?_
                refine ld_bipush O (pc := 115) (v := nI 10) dX3_seasonBy_115 (by decide) ?_
                refine ld_isub O (pc := 117) dX3_seasonBy_117 ?_
                refine ld_iald O (pc := 118) 21 (ld_ix (what - nI 10)) (v := ft (ld_ix (what - nI 10))) (ld_ofIx (h := h) (by assumption)).1 (by decide) (show ld_ix (what - nI 10) < 8 by have := (ld_ofIx (k := what - nI 10) (h := h) (by assumption)).2.1; omega) rfl dX3_seasonBy_118 ?_
                refine ld_ireti E dX3_seasonBy_119 ?_
                refine ⟨?_, ft, fs, fp, fd, fc, fw, fl, ?_⟩
                · rw [show j = n by omega] at hs_
                  rw [hs_]
                  dsimp only
                  rw [ld_sr2_n (by omega)]
                  refine Eq.trans ?_ (ld_an_cong (by omega) (by omega) hq_.2.1 hq_.2.2 h8)
                  unfold ld_an
                  dsimp only
                  repeat' split
                  all_goals first | (exfalso; omega) | exact hs5 | exact hs6 | exact hs7 | rfl
                · funext b_
                  by_cases h0_ : b_ = 21
                  · subst h0_; exact ((us_ne _ _ (by decide)).trans ((us_ne _ _ (by decide)).trans ((us_ne _ _ (by decide)).trans ((us_ne _ _ (by decide)).trans ((us_ne _ _ (by decide)).trans ((us_ne _ _ (by decide)).trans (us_eq _ _ _))))))).trans ((us_ne _ _ (by decide)).trans ((us_ne _ _ (by decide)).trans ((us_ne _ _ (by decide)).trans ((us_ne _ _ (by decide)).trans ((us_ne _ _ (by decide)).trans ((us_ne _ _ (by decide)).trans (us_eq _ _ _))))))).symm
                  by_cases h1_ : b_ = 22
                  · subst h1_; exact ((us_ne _ _ (by decide)).trans ((us_ne _ _ (by decide)).trans ((us_ne _ _ (by decide)).trans ((us_ne _ _ (by decide)).trans ((us_ne _ _ (by decide)).trans (us_eq _ _ _)))))).trans ((us_ne _ _ (by decide)).trans ((us_ne _ _ (by decide)).trans ((us_ne _ _ (by decide)).trans ((us_ne _ _ (by decide)).trans ((us_ne _ _ (by decide)).trans (us_eq _ _ _)))))).symm
                  by_cases h2_ : b_ = 23
                  · subst h2_; exact ((us_ne _ _ (by decide)).trans ((us_ne _ _ (by decide)).trans ((us_ne _ _ (by decide)).trans ((us_ne _ _ (by decide)).trans (us_eq _ _ _))))).trans ((us_ne _ _ (by decide)).trans ((us_ne _ _ (by decide)).trans ((us_ne _ _ (by decide)).trans ((us_ne _ _ (by decide)).trans (us_eq _ _ _))))).symm
                  by_cases h3_ : b_ = 27
                  · subst h3_; exact ((us_ne _ _ (by decide)).trans ((us_ne _ _ (by decide)).trans ((us_ne _ _ (by decide)).trans (us_eq _ _ _)))).trans ((us_ne _ _ (by decide)).trans ((us_ne _ _ (by decide)).trans ((us_ne _ _ (by decide)).trans (us_eq _ _ _)))).symm
                  by_cases h4_ : b_ = 142
                  · subst h4_; exact ((us_ne _ _ (by decide)).trans ((us_ne _ _ (by decide)).trans (us_eq _ _ _))).trans ((us_ne _ _ (by decide)).trans ((us_ne _ _ (by decide)).trans (us_eq _ _ _))).symm
                  by_cases h5_ : b_ = 143
                  · subst h5_; exact ((us_ne _ _ (by decide)).trans (us_eq _ _ _)).trans ((us_ne _ _ (by decide)).trans (us_eq _ _ _)).symm
                  by_cases h6_ : b_ = 149
                  · subst h6_; exact (us_eq _ _ _).trans (us_eq _ _ _).symm
                  simp only [us, h0_, h1_, h2_, h3_, h4_, h5_, h6_, if_false]
              · refine ld_bipush O (pc := 105) (v := (-9 : Int32)) dX3_seasonBy_105 (by decide) ?_
                refine ld_goto O (pc := 107) 119 dX3_seasonBy_107 (by decide) ?_
                refine ld_ireti E dX3_seasonBy_119 ?_
                refine ⟨?_, ft, fs, fp, fd, fc, fw, fl, ?_⟩
                · rw [show j = n by omega] at hs_
                  rw [hs_]
                  dsimp only
                  rw [ld_sr2_n (by omega)]
                  refine Eq.trans ?_ (ld_an_cong (by omega) (by omega) hq_.2.1 hq_.2.2 h8)
                  unfold ld_an
                  dsimp only
                  repeat' split
                  all_goals first | (exfalso; omega) | exact hs5 | exact hs6 | exact hs7 | rfl
                · funext b_
                  by_cases h0_ : b_ = 21
                  · subst h0_; exact ((us_ne _ _ (by decide)).trans ((us_ne _ _ (by decide)).trans ((us_ne _ _ (by decide)).trans ((us_ne _ _ (by decide)).trans ((us_ne _ _ (by decide)).trans ((us_ne _ _ (by decide)).trans (us_eq _ _ _))))))).trans ((us_ne _ _ (by decide)).trans ((us_ne _ _ (by decide)).trans ((us_ne _ _ (by decide)).trans ((us_ne _ _ (by decide)).trans ((us_ne _ _ (by decide)).trans ((us_ne _ _ (by decide)).trans (us_eq _ _ _))))))).symm
                  by_cases h1_ : b_ = 22
                  · subst h1_; exact ((us_ne _ _ (by decide)).trans ((us_ne _ _ (by decide)).trans ((us_ne _ _ (by decide)).trans ((us_ne _ _ (by decide)).trans ((us_ne _ _ (by decide)).trans (us_eq _ _ _)))))).trans ((us_ne _ _ (by decide)).trans ((us_ne _ _ (by decide)).trans ((us_ne _ _ (by decide)).trans ((us_ne _ _ (by decide)).trans ((us_ne _ _ (by decide)).trans (us_eq _ _ _)))))).symm
                  by_cases h2_ : b_ = 23
                  · subst h2_; exact ((us_ne _ _ (by decide)).trans ((us_ne _ _ (by decide)).trans ((us_ne _ _ (by decide)).trans ((us_ne _ _ (by decide)).trans (us_eq _ _ _))))).trans ((us_ne _ _ (by decide)).trans ((us_ne _ _ (by decide)).trans ((us_ne _ _ (by decide)).trans ((us_ne _ _ (by decide)).trans (us_eq _ _ _))))).symm
                  by_cases h3_ : b_ = 27
                  · subst h3_; exact ((us_ne _ _ (by decide)).trans ((us_ne _ _ (by decide)).trans ((us_ne _ _ (by decide)).trans (us_eq _ _ _)))).trans ((us_ne _ _ (by decide)).trans ((us_ne _ _ (by decide)).trans ((us_ne _ _ (by decide)).trans (us_eq _ _ _)))).symm
                  by_cases h4_ : b_ = 142
                  · subst h4_; exact ((us_ne _ _ (by decide)).trans ((us_ne _ _ (by decide)).trans (us_eq _ _ _))).trans ((us_ne _ _ (by decide)).trans ((us_ne _ _ (by decide)).trans (us_eq _ _ _))).symm
                  by_cases h5_ : b_ = 143
                  · subst h5_; exact ((us_ne _ _ (by decide)).trans (us_eq _ _ _)).trans ((us_ne _ _ (by decide)).trans (us_eq _ _ _)).symm
                  by_cases h6_ : b_ = 149
                  · subst h6_; exact (us_eq _ _ _).trans (us_eq _ _ _).symm
                  simp only [us, h0_, h1_, h2_, h3_, h4_, h5_, h6_, if_false]
          · refine ld_iload O (pc := 74) 4 dX3_seasonBy_74 rfl ?_
            refine ld_ireti E dX3_seasonBy_76 ?_
            refine ⟨?_, ft, fs, fp, fd, fc, fw, fl, ?_⟩
            · rw [show j = n by omega] at hs_
              rw [hs_]
              dsimp only
              rw [ld_sr2_1 (by omega)]
              rfl
            · funext b_
              by_cases h0_ : b_ = 21
              · subst h0_; exact ((us_ne _ _ (by decide)).trans ((us_ne _ _ (by decide)).trans ((us_ne _ _ (by decide)).trans ((us_ne _ _ (by decide)).trans ((us_ne _ _ (by decide)).trans ((us_ne _ _ (by decide)).trans (us_eq _ _ _))))))).trans ((us_ne _ _ (by decide)).trans ((us_ne _ _ (by decide)).trans ((us_ne _ _ (by decide)).trans ((us_ne _ _ (by decide)).trans ((us_ne _ _ (by decide)).trans ((us_ne _ _ (by decide)).trans (us_eq _ _ _))))))).symm
              by_cases h1_ : b_ = 22
              · subst h1_; exact ((us_ne _ _ (by decide)).trans ((us_ne _ _ (by decide)).trans ((us_ne _ _ (by decide)).trans ((us_ne _ _ (by decide)).trans ((us_ne _ _ (by decide)).trans (us_eq _ _ _)))))).trans ((us_ne _ _ (by decide)).trans ((us_ne _ _ (by decide)).trans ((us_ne _ _ (by decide)).trans ((us_ne _ _ (by decide)).trans ((us_ne _ _ (by decide)).trans (us_eq _ _ _)))))).symm
              by_cases h2_ : b_ = 23
              · subst h2_; exact ((us_ne _ _ (by decide)).trans ((us_ne _ _ (by decide)).trans ((us_ne _ _ (by decide)).trans ((us_ne _ _ (by decide)).trans (us_eq _ _ _))))).trans ((us_ne _ _ (by decide)).trans ((us_ne _ _ (by decide)).trans ((us_ne _ _ (by decide)).trans ((us_ne _ _ (by decide)).trans (us_eq _ _ _))))).symm
              by_cases h3_ : b_ = 27
              · subst h3_; exact ((us_ne _ _ (by decide)).trans ((us_ne _ _ (by decide)).trans ((us_ne _ _ (by decide)).trans (us_eq _ _ _)))).trans ((us_ne _ _ (by decide)).trans ((us_ne _ _ (by decide)).trans ((us_ne _ _ (by decide)).trans (us_eq _ _ _)))).symm
              by_cases h4_ : b_ = 142
              · subst h4_; exact ((us_ne _ _ (by decide)).trans ((us_ne _ _ (by decide)).trans (us_eq _ _ _))).trans ((us_ne _ _ (by decide)).trans ((us_ne _ _ (by decide)).trans (us_eq _ _ _))).symm
              by_cases h5_ : b_ = 143
              · subst h5_; exact ((us_ne _ _ (by decide)).trans (us_eq _ _ _)).trans ((us_ne _ _ (by decide)).trans (us_eq _ _ _)).symm
              by_cases h6_ : b_ = 149
              · subst h6_; exact (us_eq _ _ _).trans (us_eq _ _ _).symm
              simp only [us, h0_, h1_, h2_, h3_, h4_, h5_, h6_, if_false]
        · refine ld_iload O (pc := 18) 4 dX3_seasonBy_18 rfl ?_
          refine ld_if_ge O (pc := 20) (-9) (by decide) 69 dX3_seasonBy_20 (by decide) (fun z => absurd z (by decide)) (fun _ => ?_)
          refine ld_aload_n O (pc := 23) 0 dX3_seasonBy_23 rfl rfl ?_
          refine ld_aload_n O (pc := 24) 0 dX3_seasonBy_24 rfl rfl ?_
          refine ld_g_M_sheet O (pc := 25) ld_w67 dX3_seasonBy_25 ?_
          refine ld_iload_n O (pc := 28) 1 dX3_seasonBy_28 rfl rfl ?_
          refine ld_iconst O (pc := 29) (v := nI 2) dX3_seasonBy_29 (by decide) ?_
          refine ld_iload O (pc := 30) 5 dX3_seasonBy_30 rfl ?_
          refine ld_imulN O (pc := 32) dX3_seasonBy_32 ?_
          refine ld_iaddN O (pc := 33) dX3_seasonBy_33 ?_
          refine ld_iald O (pc := 34) 36 (i0 + (2 * j)) (v := σ 36 (i0 + (2 * j))) rfl (by decide) (show i0 + (2 * j) < 240 by omega) rfl dX3_seasonBy_34 ?_
          rw [show σ 36 (i0 + (2 * j)) = C (2 * j) from hC (2 * j)]
          refine ld_aload_n O (pc := 35) 0 dX3_seasonBy_35 rfl rfl ?_
          refine ld_g_M_sheet O (pc := 36) ld_w67 dX3_seasonBy_36 ?_
          refine ld_iload_n O (pc := 39) 1 dX3_seasonBy_39 rfl rfl ?_
          refine ld_iconst O (pc := 40) (v := nI 2) dX3_seasonBy_40 (by decide) ?_
          refine ld_iload O (pc := 41) 5 dX3_seasonBy_41 rfl ?_
          refine ld_imulN O (pc := 43) dX3_seasonBy_43 ?_
          refine ld_iaddN O (pc := 44) dX3_seasonBy_44 ?_
          refine ld_iconst O (pc := 45) (v := nI 1) dX3_seasonBy_45 (by decide) ?_
          refine ld_iaddN O (pc := 46) dX3_seasonBy_46 ?_
          refine ld_iald O (pc := 47) 36 ((i0 + (2 * j)) + 1) (v := σ 36 ((i0 + (2 * j)) + 1)) rfl (by decide) (show (i0 + (2 * j)) + 1 < 240 by omega) rfl dX3_seasonBy_47 ?_
          rw [show σ 36 ((i0 + (2 * j)) + 1) = C (2 * j + 1) from hC (2 * j + 1)]
          refine ld_callVi O (pc := 48) (As := [.int (C (2 * j)), .int (C (2 * j + 1))]) (st := []) ld_recv8 (c_X3_did l ad (us (us (us (us (us (us (us σ 21 ft) 22 fs) 23 fp) 27 fd) 142 fc) 143 fw) 149 fl) h hh h8 crq hfc_ (by omega) (T + 10 * j) (by omega) hbd_ (C (2 * j)) (C (2 * j + 1)) (hrp j (by omega))) ld_mw_X3_did ld_w359 rfl rfl ⟨by decide, by decide⟩ (Nat.le_of_ble_eq_true rfl) dX3_seasonBy_48 (fun r_p48 σ_p48 h_p48 => ?_)
          obtain ⟨ft_p48, fs_p48, fp_p48, fd_p48, fc_p48, fw_p48, fl_p48, hσ_p48, rfl, hq_p48⟩ := h_p48
          rw [hσ_p48]
          have hq_p48 : ∀ Q2, ld_act h (σ 20) (C (2 * j)) (C (2 * j + 1)) (fc 0, (ft, fs, fp), fl 0) = some Q2 → ld_seq h (fc_p48 0, (ft_p48, fs_p48, fp_p48), fl_p48 0) Q2 := hq_p48
          show K (us (us (us (us (us (us (us (us (us (us (us (us (us (us σ 21 ft) 22 fs) 23 fp) 27 fd) 142 fc) 143 fw) 149 fl) 21 ft_p48) 22 fs_p48) 23 fp_p48) 27 fd_p48) 142 fc_p48) 143 fw_p48) 149 fl_p48) [(0, .ref (ad 8)), (1, .int (nI i0)), (2, .int (nI n)), (3, .int what), (4, .int (-9 : Int32)), (5, .int (nI j))] [.int (ld_b (¬ ld_act h (σ 20) (C (2 * j)) (C (2 * j + 1)) (fc 0, (ft, fs, fp), fl 0) = none))] 51
          have hc_ := ld_act_cong (kd := σ 20) (kd2 := σ 20) (hrp j (by omega)) (fun _ _ => rfl) hq_
          refine ld_ifb_eq O (pc := 51) 59 dX3_seasonBy_51 (by decide) (fun c11 => ?_) (fun c11 => ?_)
          · refine ld_iload O (pc := 59) 5 dX3_seasonBy_59 rfl ?_
            refine ld_istore O (pc := 61) [(4, .int (nI j)), (0, .ref (ad 8)), (1, .int (nI i0)), (2, .int (nI n)), (3, .int what), (5, .int (nI j))] dX3_seasonBy_61 (by decide) rfl ?_
            refine ld_iincN O (pc := 63) [(5, .int (nI (j + 1))), (4, .int (nI j)), (0, .ref (ad 8)), (1, .int (nI i0)), (2, .int (nI n)), (3, .int what)] 5 dX3_seasonBy_63 rfl (by decide) rfl ?_
            refine ld_goto O (pc := 66) 12 dX3_seasonBy_66 (by decide) ?_
            refine ld_less O [2, 3, 4, 5, 1, 0] (lv2 := [(0, .ref (ad 8)), (1, .int (nI i0)), (2, .int (nI n)), (3, .int what), (4, .int (ld_nv (some j))), (5, .int (nI (j + 1)))]) rfl ?_
            have hs12 : us (us (us (us (us (us (us (us (us (us (us (us (us (us σ 21 ft) 22 fs) 23 fp) 27 fd) 142 fc) 143 fw) 149 fl) 21 ft_p48) 22 fs_p48) 23 fp_p48) 27 fd_p48) 142 fc_p48) 143 fw_p48) 149 fl_p48 = us (us (us (us (us (us (us σ 21 ft_p48) 22 fs_p48) 23 fp_p48) 27 fd_p48) 142 fc_p48) 143 fw_p48) 149 fl_p48 := by
              funext b_
              by_cases h0_ : b_ = 21
              · subst h0_; exact ((us_ne _ _ (by decide)).trans ((us_ne _ _ (by decide)).trans ((us_ne _ _ (by decide)).trans ((us_ne _ _ (by decide)).trans ((us_ne _ _ (by decide)).trans ((us_ne _ _ (by decide)).trans (us_eq _ _ _))))))).trans ((us_ne _ _ (by decide)).trans ((us_ne _ _ (by decide)).trans ((us_ne _ _ (by decide)).trans ((us_ne _ _ (by decide)).trans ((us_ne _ _ (by decide)).trans ((us_ne _ _ (by decide)).trans (us_eq _ _ _))))))).symm
              by_cases h1_ : b_ = 22
              · subst h1_; exact ((us_ne _ _ (by decide)).trans ((us_ne _ _ (by decide)).trans ((us_ne _ _ (by decide)).trans ((us_ne _ _ (by decide)).trans ((us_ne _ _ (by decide)).trans (us_eq _ _ _)))))).trans ((us_ne _ _ (by decide)).trans ((us_ne _ _ (by decide)).trans ((us_ne _ _ (by decide)).trans ((us_ne _ _ (by decide)).trans ((us_ne _ _ (by decide)).trans (us_eq _ _ _)))))).symm
              by_cases h2_ : b_ = 23
              · subst h2_; exact ((us_ne _ _ (by decide)).trans ((us_ne _ _ (by decide)).trans ((us_ne _ _ (by decide)).trans ((us_ne _ _ (by decide)).trans (us_eq _ _ _))))).trans ((us_ne _ _ (by decide)).trans ((us_ne _ _ (by decide)).trans ((us_ne _ _ (by decide)).trans ((us_ne _ _ (by decide)).trans (us_eq _ _ _))))).symm
              by_cases h3_ : b_ = 27
              · subst h3_; exact ((us_ne _ _ (by decide)).trans ((us_ne _ _ (by decide)).trans ((us_ne _ _ (by decide)).trans (us_eq _ _ _)))).trans ((us_ne _ _ (by decide)).trans ((us_ne _ _ (by decide)).trans ((us_ne _ _ (by decide)).trans (us_eq _ _ _)))).symm
              by_cases h4_ : b_ = 142
              · subst h4_; exact ((us_ne _ _ (by decide)).trans ((us_ne _ _ (by decide)).trans (us_eq _ _ _))).trans ((us_ne _ _ (by decide)).trans ((us_ne _ _ (by decide)).trans (us_eq _ _ _))).symm
              by_cases h5_ : b_ = 143
              · subst h5_; exact ((us_ne _ _ (by decide)).trans (us_eq _ _ _)).trans ((us_ne _ _ (by decide)).trans (us_eq _ _ _)).symm
              by_cases h6_ : b_ = 149
              · subst h6_; exact (us_eq _ _ _).trans (us_eq _ _ _).symm
              simp only [us, h0_, h1_, h2_, h3_, h4_, h5_, h6_, if_false]
            refine ld_cv hs12 ?_
            exact ih12 (j + 1) (some j) Q 0 ft_p48 fs_p48 fp_p48 fd_p48 fc_p48 fw_p48 fl_p48 (by omega) (by omega) (fun z => by cases z) (fun w z => by cases z; exact ⟨by omega, ld_sn_yes hs_ (hc_.1.mp (Classical.byContradiction c11)) (by omega)⟩)
          · obtain ⟨Q1_, hQ1_⟩ := Option.ne_none_iff_exists'.mp c11
            obtain ⟨U2_, hU_, hqU_⟩ := hc_.2 Q1_ hQ1_
            have hq2_ := ld_seq.tr (hq_p48 Q1_ hQ1_) hqU_
            obtain ⟨cr2_, c2_, e2_, b2_⟩ := ld_act_bd h8 (hrp j (by omega)) hfc_ hc99_ hbd_ (by omega) hQ1_
            refine ld_bipush O (pc := 54) (v := (-9 : Int32)) dX3_seasonBy_54 (by decide) ?_
            refine ld_goto O (pc := 56) 61 dX3_seasonBy_56 (by decide) ?_
            refine ld_istore O (pc := 61) [(4, .int (-9 : Int32)), (0, .ref (ad 8)), (1, .int (nI i0)), (2, .int (nI n)), (3, .int what), (5, .int (nI j))] dX3_seasonBy_61 (by decide) rfl ?_
            refine ld_iincN O (pc := 63) [(5, .int (nI (j + 1))), (4, .int (-9 : Int32)), (0, .ref (ad 8)), (1, .int (nI i0)), (2, .int (nI n)), (3, .int what)] 5 dX3_seasonBy_63 rfl (by decide) rfl ?_
            refine ld_goto O (pc := 66) 12 dX3_seasonBy_66 (by decide) ?_
            refine ld_less O [2, 3, 4, 5, 1, 0] (lv2 := [(0, .ref (ad 8)), (1, .int (nI i0)), (2, .int (nI n)), (3, .int what), (4, .int (ld_nv none)), (5, .int (nI (j + 1)))]) rfl ?_
            have hs13 : us (us (us (us (us (us (us (us (us (us (us (us (us (us σ 21 ft) 22 fs) 23 fp) 27 fd) 142 fc) 143 fw) 149 fl) 21 ft_p48) 22 fs_p48) 23 fp_p48) 27 fd_p48) 142 fc_p48) 143 fw_p48) 149 fl_p48 = us (us (us (us (us (us (us σ 21 ft_p48) 22 fs_p48) 23 fp_p48) 27 fd_p48) 142 fc_p48) 143 fw_p48) 149 fl_p48 := by
              funext b_
              by_cases h0_ : b_ = 21
              · subst h0_; exact ((us_ne _ _ (by decide)).trans ((us_ne _ _ (by decide)).trans ((us_ne _ _ (by decide)).trans ((us_ne _ _ (by decide)).trans ((us_ne _ _ (by decide)).trans ((us_ne _ _ (by decide)).trans (us_eq _ _ _))))))).trans ((us_ne _ _ (by decide)).trans ((us_ne _ _ (by decide)).trans ((us_ne _ _ (by decide)).trans ((us_ne _ _ (by decide)).trans ((us_ne _ _ (by decide)).trans ((us_ne _ _ (by decide)).trans (us_eq _ _ _))))))).symm
              by_cases h1_ : b_ = 22
              · subst h1_; exact ((us_ne _ _ (by decide)).trans ((us_ne _ _ (by decide)).trans ((us_ne _ _ (by decide)).trans ((us_ne _ _ (by decide)).trans ((us_ne _ _ (by decide)).trans (us_eq _ _ _)))))).trans ((us_ne _ _ (by decide)).trans ((us_ne _ _ (by decide)).trans ((us_ne _ _ (by decide)).trans ((us_ne _ _ (by decide)).trans ((us_ne _ _ (by decide)).trans (us_eq _ _ _)))))).symm
              by_cases h2_ : b_ = 23
              · subst h2_; exact ((us_ne _ _ (by decide)).trans ((us_ne _ _ (by decide)).trans ((us_ne _ _ (by decide)).trans ((us_ne _ _ (by decide)).trans (us_eq _ _ _))))).trans ((us_ne _ _ (by decide)).trans ((us_ne _ _ (by decide)).trans ((us_ne _ _ (by decide)).trans ((us_ne _ _ (by decide)).trans (us_eq _ _ _))))).symm
              by_cases h3_ : b_ = 27
              · subst h3_; exact ((us_ne _ _ (by decide)).trans ((us_ne _ _ (by decide)).trans ((us_ne _ _ (by decide)).trans (us_eq _ _ _)))).trans ((us_ne _ _ (by decide)).trans ((us_ne _ _ (by decide)).trans ((us_ne _ _ (by decide)).trans (us_eq _ _ _)))).symm
              by_cases h4_ : b_ = 142
              · subst h4_; exact ((us_ne _ _ (by decide)).trans ((us_ne _ _ (by decide)).trans (us_eq _ _ _))).trans ((us_ne _ _ (by decide)).trans ((us_ne _ _ (by decide)).trans (us_eq _ _ _))).symm
              by_cases h5_ : b_ = 143
              · subst h5_; exact ((us_ne _ _ (by decide)).trans (us_eq _ _ _)).trans ((us_ne _ _ (by decide)).trans (us_eq _ _ _)).symm
              by_cases h6_ : b_ = 149
              · subst h6_; exact (us_eq _ _ _).trans (us_eq _ _ _).symm
              simp only [us, h0_, h1_, h2_, h3_, h4_, h5_, h6_, if_false]
            refine ld_cv hs13 ?_
            exact ih12 (j + 1) none U2_ cr2_ ft_p48 fs_p48 fp_p48 fd_p48 fc_p48 fw_p48 fl_p48 (by omega) (by omega) (fun _ => ⟨ld_sn_no hs_ hU_, hq2_, c2_, (hq_p48 Q1_ hQ1_).1.trans e2_, by have b3_ := ld_bd_cong (hq_p48 Q1_ hQ1_).2.1 b2_; exact b3_⟩) (fun w z => by cases z)
      · obtain ⟨h1_, h2_⟩ := hs w rfl
        show K (us (us (us (us (us (us (us σ 21 ft) 22 fs) 23 fp) 27 fd) 142 fc) 143 fw) 149 fl) [(0, .ref (ad 8)), (1, .int (nI i0)), (2, .int (nI n)), (3, .int what), (4, .int (nI w)), (5, .int (nI j))] [.int (nI j)] 14
        refine ld_iload_n O (pc := 14) 2 dX3_seasonBy_14 rfl rfl ?_
        refine ld_icmp_ge O (pc := 15) ((j : Nat) : Int) ((n : Nat) : Int) (nI_toInt (by omega)) (nI_toInt (by omega)) 69 dX3_seasonBy_15 (by decide) (fun c14 => ?_) (fun c14 => ?_)
        · refine ld_iload_n O (pc := 69) 3 dX3_seasonBy_69 rfl rfl ?_
          refine ld_iconst O (pc := 70) (v := nI 1) dX3_seasonBy_70 (by decide) ?_
          refine ld_icmp_ne O (pc := 71) (what).toInt 1 rfl (by decide) 77 dX3_seasonBy_71 (by decide) (fun c15 => ?_) (fun c15 => ?_)
          · refine ld_iload O (pc := 77) 4 dX3_seasonBy_77 rfl ?_
            refine ld_if_lt O (pc := 79) ((w : Nat) : Int) (nI_toInt (by omega)) 88 dX3_seasonBy_79 (by decide) (fun c16 => ?_) (fun c16 => ?_)
            · exact False.elim (by omega)
            · refine ld_bipush O (pc := 82) (v := (-100 : Int32)) dX3_seasonBy_82 (by decide) ?_
              refine ld_iload O (pc := 84) 4 dX3_seasonBy_84 rfl ?_
              refine ld_isub O (pc := 86) dX3_seasonBy_86 ?_
              refine ld_ireti E dX3_seasonBy_87 ?_
              refine ⟨?_, ft, fs, fp, fd, fc, fw, fl, ?_⟩
              · rw [h2_]
                first | (rw [ld_sr2_1 (by omega)]; rfl) | (rw [ld_sr2_s (by omega) (by omega)]; done)
              · funext b_
                by_cases h0_ : b_ = 21
                · subst h0_; exact ((us_ne _ _ (by decide)).trans ((us_ne _ _ (by decide)).trans ((us_ne _ _ (by decide)).trans ((us_ne _ _ (by decide)).trans ((us_ne _ _ (by decide)).trans ((us_ne _ _ (by decide)).trans (us_eq _ _ _))))))).trans ((us_ne _ _ (by decide)).trans ((us_ne _ _ (by decide)).trans ((us_ne _ _ (by decide)).trans ((us_ne _ _ (by decide)).trans ((us_ne _ _ (by decide)).trans ((us_ne _ _ (by decide)).trans (us_eq _ _ _))))))).symm
                by_cases h1_ : b_ = 22
                · subst h1_; exact ((us_ne _ _ (by decide)).trans ((us_ne _ _ (by decide)).trans ((us_ne _ _ (by decide)).trans ((us_ne _ _ (by decide)).trans ((us_ne _ _ (by decide)).trans (us_eq _ _ _)))))).trans ((us_ne _ _ (by decide)).trans ((us_ne _ _ (by decide)).trans ((us_ne _ _ (by decide)).trans ((us_ne _ _ (by decide)).trans ((us_ne _ _ (by decide)).trans (us_eq _ _ _)))))).symm
                by_cases h2_ : b_ = 23
                · subst h2_; exact ((us_ne _ _ (by decide)).trans ((us_ne _ _ (by decide)).trans ((us_ne _ _ (by decide)).trans ((us_ne _ _ (by decide)).trans (us_eq _ _ _))))).trans ((us_ne _ _ (by decide)).trans ((us_ne _ _ (by decide)).trans ((us_ne _ _ (by decide)).trans ((us_ne _ _ (by decide)).trans (us_eq _ _ _))))).symm
                by_cases h3_ : b_ = 27
                · subst h3_; exact ((us_ne _ _ (by decide)).trans ((us_ne _ _ (by decide)).trans ((us_ne _ _ (by decide)).trans (us_eq _ _ _)))).trans ((us_ne _ _ (by decide)).trans ((us_ne _ _ (by decide)).trans ((us_ne _ _ (by decide)).trans (us_eq _ _ _)))).symm
                by_cases h4_ : b_ = 142
                · subst h4_; exact ((us_ne _ _ (by decide)).trans ((us_ne _ _ (by decide)).trans (us_eq _ _ _))).trans ((us_ne _ _ (by decide)).trans ((us_ne _ _ (by decide)).trans (us_eq _ _ _))).symm
                by_cases h5_ : b_ = 143
                · subst h5_; exact ((us_ne _ _ (by decide)).trans (us_eq _ _ _)).trans ((us_ne _ _ (by decide)).trans (us_eq _ _ _)).symm
                by_cases h6_ : b_ = 149
                · subst h6_; exact (us_eq _ _ _).trans (us_eq _ _ _).symm
                simp only [us, h0_, h1_, h2_, h3_, h4_, h5_, h6_, if_false]
          · refine ld_iload O (pc := 74) 4 dX3_seasonBy_74 rfl ?_
            refine ld_ireti E dX3_seasonBy_76 ?_
            refine ⟨?_, ft, fs, fp, fd, fc, fw, fl, ?_⟩
            · rw [h2_]
              first | (rw [ld_sr2_1 (by omega)]; rfl) | (rw [ld_sr2_s (by omega) (by omega)]; done)
            · funext b_
              by_cases h0_ : b_ = 21
              · subst h0_; exact ((us_ne _ _ (by decide)).trans ((us_ne _ _ (by decide)).trans ((us_ne _ _ (by decide)).trans ((us_ne _ _ (by decide)).trans ((us_ne _ _ (by decide)).trans ((us_ne _ _ (by decide)).trans (us_eq _ _ _))))))).trans ((us_ne _ _ (by decide)).trans ((us_ne _ _ (by decide)).trans ((us_ne _ _ (by decide)).trans ((us_ne _ _ (by decide)).trans ((us_ne _ _ (by decide)).trans ((us_ne _ _ (by decide)).trans (us_eq _ _ _))))))).symm
              by_cases h1_ : b_ = 22
              · subst h1_; exact ((us_ne _ _ (by decide)).trans ((us_ne _ _ (by decide)).trans ((us_ne _ _ (by decide)).trans ((us_ne _ _ (by decide)).trans ((us_ne _ _ (by decide)).trans (us_eq _ _ _)))))).trans ((us_ne _ _ (by decide)).trans ((us_ne _ _ (by decide)).trans ((us_ne _ _ (by decide)).trans ((us_ne _ _ (by decide)).trans ((us_ne _ _ (by decide)).trans (us_eq _ _ _)))))).symm
              by_cases h2_ : b_ = 23
              · subst h2_; exact ((us_ne _ _ (by decide)).trans ((us_ne _ _ (by decide)).trans ((us_ne _ _ (by decide)).trans ((us_ne _ _ (by decide)).trans (us_eq _ _ _))))).trans ((us_ne _ _ (by decide)).trans ((us_ne _ _ (by decide)).trans ((us_ne _ _ (by decide)).trans ((us_ne _ _ (by decide)).trans (us_eq _ _ _))))).symm
              by_cases h3_ : b_ = 27
              · subst h3_; exact ((us_ne _ _ (by decide)).trans ((us_ne _ _ (by decide)).trans ((us_ne _ _ (by decide)).trans (us_eq _ _ _)))).trans ((us_ne _ _ (by decide)).trans ((us_ne _ _ (by decide)).trans ((us_ne _ _ (by decide)).trans (us_eq _ _ _)))).symm
              by_cases h4_ : b_ = 142
              · subst h4_; exact ((us_ne _ _ (by decide)).trans ((us_ne _ _ (by decide)).trans (us_eq _ _ _))).trans ((us_ne _ _ (by decide)).trans ((us_ne _ _ (by decide)).trans (us_eq _ _ _))).symm
              by_cases h5_ : b_ = 143
              · subst h5_; exact ((us_ne _ _ (by decide)).trans (us_eq _ _ _)).trans ((us_ne _ _ (by decide)).trans (us_eq _ _ _)).symm
              by_cases h6_ : b_ = 149
              · subst h6_; exact (us_eq _ _ _).trans (us_eq _ _ _).symm
              simp only [us, h0_, h1_, h2_, h3_, h4_, h5_, h6_, if_false]
        · refine ld_iload O (pc := 18) 4 dX3_seasonBy_18 rfl ?_
          refine ld_if_ge O (pc := 20) ((w : Nat) : Int) (nI_toInt (by omega)) 69 dX3_seasonBy_20 (by decide) (fun c17 => ?_) (fun c17 => ?_)
          · refine ld_iload_n O (pc := 69) 3 dX3_seasonBy_69 rfl rfl ?_
            refine ld_iconst O (pc := 70) (v := nI 1) dX3_seasonBy_70 (by decide) ?_
            refine ld_icmp_ne O (pc := 71) (what).toInt 1 rfl (by decide) 77 dX3_seasonBy_71 (by decide) (fun c18 => ?_) (fun c18 => ?_)
            · refine ld_iload O (pc := 77) 4 dX3_seasonBy_77 rfl ?_
              refine ld_if_lt O (pc := 79) ((w : Nat) : Int) (nI_toInt (by omega)) 88 dX3_seasonBy_79 (by decide) (fun c19 => ?_) (fun c19 => ?_)
              · exact False.elim (by omega)
              · refine ld_bipush O (pc := 82) (v := (-100 : Int32)) dX3_seasonBy_82 (by decide) ?_
                refine ld_iload O (pc := 84) 4 dX3_seasonBy_84 rfl ?_
                refine ld_isub O (pc := 86) dX3_seasonBy_86 ?_
                refine ld_ireti E dX3_seasonBy_87 ?_
                refine ⟨?_, ft, fs, fp, fd, fc, fw, fl, ?_⟩
                · rw [h2_]
                  first | (rw [ld_sr2_1 (by omega)]; rfl) | (rw [ld_sr2_s (by omega) (by omega)]; done)
                · funext b_
                  by_cases h0_ : b_ = 21
                  · subst h0_; exact ((us_ne _ _ (by decide)).trans ((us_ne _ _ (by decide)).trans ((us_ne _ _ (by decide)).trans ((us_ne _ _ (by decide)).trans ((us_ne _ _ (by decide)).trans ((us_ne _ _ (by decide)).trans (us_eq _ _ _))))))).trans ((us_ne _ _ (by decide)).trans ((us_ne _ _ (by decide)).trans ((us_ne _ _ (by decide)).trans ((us_ne _ _ (by decide)).trans ((us_ne _ _ (by decide)).trans ((us_ne _ _ (by decide)).trans (us_eq _ _ _))))))).symm
                  by_cases h1_ : b_ = 22
                  · subst h1_; exact ((us_ne _ _ (by decide)).trans ((us_ne _ _ (by decide)).trans ((us_ne _ _ (by decide)).trans ((us_ne _ _ (by decide)).trans ((us_ne _ _ (by decide)).trans (us_eq _ _ _)))))).trans ((us_ne _ _ (by decide)).trans ((us_ne _ _ (by decide)).trans ((us_ne _ _ (by decide)).trans ((us_ne _ _ (by decide)).trans ((us_ne _ _ (by decide)).trans (us_eq _ _ _)))))).symm
                  by_cases h2_ : b_ = 23
                  · subst h2_; exact ((us_ne _ _ (by decide)).trans ((us_ne _ _ (by decide)).trans ((us_ne _ _ (by decide)).trans ((us_ne _ _ (by decide)).trans (us_eq _ _ _))))).trans ((us_ne _ _ (by decide)).trans ((us_ne _ _ (by decide)).trans ((us_ne _ _ (by decide)).trans ((us_ne _ _ (by decide)).trans (us_eq _ _ _))))).symm
                  by_cases h3_ : b_ = 27
                  · subst h3_; exact ((us_ne _ _ (by decide)).trans ((us_ne _ _ (by decide)).trans ((us_ne _ _ (by decide)).trans (us_eq _ _ _)))).trans ((us_ne _ _ (by decide)).trans ((us_ne _ _ (by decide)).trans ((us_ne _ _ (by decide)).trans (us_eq _ _ _)))).symm
                  by_cases h4_ : b_ = 142
                  · subst h4_; exact ((us_ne _ _ (by decide)).trans ((us_ne _ _ (by decide)).trans (us_eq _ _ _))).trans ((us_ne _ _ (by decide)).trans ((us_ne _ _ (by decide)).trans (us_eq _ _ _))).symm
                  by_cases h5_ : b_ = 143
                  · subst h5_; exact ((us_ne _ _ (by decide)).trans (us_eq _ _ _)).trans ((us_ne _ _ (by decide)).trans (us_eq _ _ _)).symm
                  by_cases h6_ : b_ = 149
                  · subst h6_; exact (us_eq _ _ _).trans (us_eq _ _ _).symm
                  simp only [us, h0_, h1_, h2_, h3_, h4_, h5_, h6_, if_false]
            · refine ld_iload O (pc := 74) 4 dX3_seasonBy_74 rfl ?_
              refine ld_ireti E dX3_seasonBy_76 ?_
              refine ⟨?_, ft, fs, fp, fd, fc, fw, fl, ?_⟩
              · rw [h2_]
                first | (rw [ld_sr2_1 (by omega)]; rfl) | (rw [ld_sr2_s (by omega) (by omega)]; done)
              · funext b_
                by_cases h0_ : b_ = 21
                · subst h0_; exact ((us_ne _ _ (by decide)).trans ((us_ne _ _ (by decide)).trans ((us_ne _ _ (by decide)).trans ((us_ne _ _ (by decide)).trans ((us_ne _ _ (by decide)).trans ((us_ne _ _ (by decide)).trans (us_eq _ _ _))))))).trans ((us_ne _ _ (by decide)).trans ((us_ne _ _ (by decide)).trans ((us_ne _ _ (by decide)).trans ((us_ne _ _ (by decide)).trans ((us_ne _ _ (by decide)).trans ((us_ne _ _ (by decide)).trans (us_eq _ _ _))))))).symm
                by_cases h1_ : b_ = 22
                · subst h1_; exact ((us_ne _ _ (by decide)).trans ((us_ne _ _ (by decide)).trans ((us_ne _ _ (by decide)).trans ((us_ne _ _ (by decide)).trans ((us_ne _ _ (by decide)).trans (us_eq _ _ _)))))).trans ((us_ne _ _ (by decide)).trans ((us_ne _ _ (by decide)).trans ((us_ne _ _ (by decide)).trans ((us_ne _ _ (by decide)).trans ((us_ne _ _ (by decide)).trans (us_eq _ _ _)))))).symm
                by_cases h2_ : b_ = 23
                · subst h2_; exact ((us_ne _ _ (by decide)).trans ((us_ne _ _ (by decide)).trans ((us_ne _ _ (by decide)).trans ((us_ne _ _ (by decide)).trans (us_eq _ _ _))))).trans ((us_ne _ _ (by decide)).trans ((us_ne _ _ (by decide)).trans ((us_ne _ _ (by decide)).trans ((us_ne _ _ (by decide)).trans (us_eq _ _ _))))).symm
                by_cases h3_ : b_ = 27
                · subst h3_; exact ((us_ne _ _ (by decide)).trans ((us_ne _ _ (by decide)).trans ((us_ne _ _ (by decide)).trans (us_eq _ _ _)))).trans ((us_ne _ _ (by decide)).trans ((us_ne _ _ (by decide)).trans ((us_ne _ _ (by decide)).trans (us_eq _ _ _)))).symm
                by_cases h4_ : b_ = 142
                · subst h4_; exact ((us_ne _ _ (by decide)).trans ((us_ne _ _ (by decide)).trans (us_eq _ _ _))).trans ((us_ne _ _ (by decide)).trans ((us_ne _ _ (by decide)).trans (us_eq _ _ _))).symm
                by_cases h5_ : b_ = 143
                · subst h5_; exact ((us_ne _ _ (by decide)).trans (us_eq _ _ _)).trans ((us_ne _ _ (by decide)).trans (us_eq _ _ _)).symm
                by_cases h6_ : b_ = 149
                · subst h6_; exact (us_eq _ _ _).trans (us_eq _ _ _).symm
                simp only [us, h0_, h1_, h2_, h3_, h4_, h5_, h6_, if_false]
          · exact False.elim (by omega)
  refine ld_less O [2, 3, 4, 5, 1, 0] (lv2 := [(0, .ref (ad 8)), (1, .int (nI i0)), (2, .int (nI n)), (3, .int what), (4, .int (ld_nv none)), (5, .int (nI 0))]) rfl ?_
  have hs20 : us σ 149 (fun _ => nI 0) = us (us (us (us (us (us (us σ 21 (σ 21)) 22 (σ 22)) 23 (σ 23)) 27 (σ 27)) 142 (σ 142)) 143 (σ 143)) 149 (fun _ => nI 0) := by
    funext b_
    by_cases h0_ : b_ = 149
    · subst h0_; exact (us_eq _ _ _).trans (us_eq _ _ _).symm
    by_cases h1_ : b_ = 21
    · subst h1_; exact (us_ne _ _ (by decide)).trans ((us_ne _ _ (by decide)).trans ((us_ne _ _ (by decide)).trans ((us_ne _ _ (by decide)).trans ((us_ne _ _ (by decide)).trans ((us_ne _ _ (by decide)).trans ((us_ne _ _ (by decide)).trans (us_eq _ _ _))))))).symm
    by_cases h2_ : b_ = 22
    · subst h2_; exact (us_ne _ _ (by decide)).trans ((us_ne _ _ (by decide)).trans ((us_ne _ _ (by decide)).trans ((us_ne _ _ (by decide)).trans ((us_ne _ _ (by decide)).trans ((us_ne _ _ (by decide)).trans (us_eq _ _ _)))))).symm
    by_cases h3_ : b_ = 23
    · subst h3_; exact (us_ne _ _ (by decide)).trans ((us_ne _ _ (by decide)).trans ((us_ne _ _ (by decide)).trans ((us_ne _ _ (by decide)).trans ((us_ne _ _ (by decide)).trans (us_eq _ _ _))))).symm
    by_cases h4_ : b_ = 27
    · subst h4_; exact (us_ne _ _ (by decide)).trans ((us_ne _ _ (by decide)).trans ((us_ne _ _ (by decide)).trans ((us_ne _ _ (by decide)).trans (us_eq _ _ _)))).symm
    by_cases h5_ : b_ = 142
    · subst h5_; exact (us_ne _ _ (by decide)).trans ((us_ne _ _ (by decide)).trans ((us_ne _ _ (by decide)).trans (us_eq _ _ _))).symm
    by_cases h6_ : b_ = 143
    · subst h6_; exact (us_ne _ _ (by decide)).trans ((us_ne _ _ (by decide)).trans (us_eq _ _ _)).symm
    simp only [us, h0_, h1_, h2_, h3_, h4_, h5_, h6_, if_false]
  refine ld_cv hs20 ?_
  exact L12 _ 0 none (σ 142 0, (σ 21, σ 22, σ 23), nI 0) cr (σ 21) (σ 22) (σ 23) (σ 27) (σ 142) (σ 143) (fun _ => nI 0) (Nat.lt_succ_self _) (Nat.zero_le _) (fun _ => ⟨rfl, ld_seq.rf, c99, hcr, hbd⟩) (fun w z => by cases z)
