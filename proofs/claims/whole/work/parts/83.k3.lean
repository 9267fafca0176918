set_option maxHeartbeats 4000000 in
set_option maxRecDepth 100000 in
theorem op_make {C : CT} {l : Launch} {Po : PoT} {S : ShT} {I : DI} {J : DJ} {k : Nat} {x : Int32} {u : Nat × Nat} (hC : OKC C l) (hN : cN C ≤ 2560) (hS : SHP S) (hr : REL I J I J) (ex : x = nI (5 * k)) (hk5 : 5 * k + 5 ≤ cN C) (hu : u.1 + 1 ≤ 601024 ∧ u.2 + 6 ≤ 7293034) (kk : ∀ (S' : ShT) (I' : DI) (J' : DJ) (u' : Nat × Nat), SHP S' → REL I' J' I' J' → u'.1 ≤ u.1 + 1 → u'.2 ≤ u.2 + 6 → V C l k_Lw_law (10, 601024, 7293034) Po 938 [(4, .int x), (3, .ref 148), (2, .ref 124), (1, .ref 0), (0, .retAddr 0)] [] S' I' J' u') : V C l k_Lw_law (10, 601024, 7293034) Po 108 [(4, .int x), (3, .ref 148), (2, .ref 124), (1, .ref 0), (0, .retAddr 0)] [] S I J u := by
  obtain ⟨⟨m, hm, h2, _, hq1, _⟩, hlo, _⟩ := hr.hyC
  obtain ⟨p, hp⟩ : ∃ p : Bool, p = !decide (cX C (5 * k + 3) = 0) := ⟨_, rfl⟩
  refine v_aload_n 3 d_Lw_law_108 rfl rfl rfl ?_
  refine v_sload_n 4 d_Lw_law_109 rfl rfl rfl ?_
  refine v_iload 0 d_Lw_law_110 rfl rfl ?_
  refine v_iconst (v := 1) d_Lw_law_112 (by decide) rfl ?_
  refine v_iadd d_Lw_law_113 rfl ?_
  refine v_nmi (fun z1 ez1 => ?_)
  have nz1 : z1 = nI ((5 * k) + 1) := by rw [ez1, show x = nI (5 * k) from ex, show 1 = nI 1 from rfl]; exact nI_add _ _
  refine v_sld (j := ((5 * k) + 1)) d_Lw_law_114 nz1 (by omega) hN rfl ?_
  refine v_sload_n 4 d_Lw_law_115 rfl rfl rfl ?_
  refine v_iload 0 d_Lw_law_116 rfl rfl ?_
  refine v_iconst (v := 2) d_Lw_law_118 (by decide) rfl ?_
  refine v_iadd d_Lw_law_119 rfl ?_
  refine v_nmi (fun z2 ez2 => ?_)
  have nz2 : z2 = nI ((5 * k) + 2) := by rw [ez2, show x = nI (5 * k) from ex, show 2 = nI 2 from rfl]; exact nI_add _ _
  refine v_sld (j := ((5 * k) + 2)) d_Lw_law_120 nz2 (by omega) hN rfl ?_
  refine v_sload_n 4 d_Lw_law_121 rfl rfl rfl ?_
  refine v_iload 0 d_Lw_law_122 rfl rfl ?_
  refine v_iconst (v := 3) d_Lw_law_124 (by decide) rfl ?_
  refine v_iadd d_Lw_law_125 rfl ?_
  refine v_nmi (fun z3 ez3 => ?_)
  have nz3 : z3 = nI ((5 * k) + 3) := by rw [ez3, show x = nI (5 * k) from ex, show 3 = nI 3 from rfl]; exact nI_add _ _
  refine v_sld (j := ((5 * k) + 3)) d_Lw_law_126 nz3 (by omega) hN rfl ?_
  have hq4 : V C l k_Lw_law (10, 601024, 7293034) Po 135 [(4, .int x), (3, .ref 148), (2, .ref 124), (1, .ref 0), (0, .retAddr 0)] [.int (bI p), .int (cX C ((5 * k) + 2)), .int (cX C ((5 * k) + 1)), .ref 0] S I J u := by
    refine v_aload_n 1 d_Lw_law_135 rfl rfl rfl ?_
    refine v_callS (as := [.ref 0, .int (cX C ((5 * k) + 1)), .int (cX C ((5 * k) + 2)), .int (bI p), .ref 148]) d_Lw_law_136 cs_Lw_59 (c_Lw_make hC hS (d := 9) (p := p) hm h2 (by omega)) rfl rfl (by decide) (Nat.le_of_ble_eq_true rfl) hu rfl (fun v9 S9 I9 J9 hP9 => ?_) (fun _ _ _ _ _ hP9 => False.elim hP9)
    obtain ⟨hS, k9, r9, rfl, I1, J1, hQ, eI, eJ, hK⟩ := hP9
    have hB := st_b hr hQ.fr eI eJ
    obtain ⟨⟨m2, hm2, _, h29, _, hq2⟩, _, hlo2⟩ := hB.hyC
    refine v_istore (L' := [(5, .int k9), (4, .int x), (3, .ref 148), (2, .ref 124), (1, .ref 0), (0, .retAddr 0)]) d_Lw_law_139 (by decide) rfl rfl ?_
    refine v_aload_n 3 d_Lw_law_141 rfl rfl rfl ?_
    refine v_sload_n 5 d_Lw_law_142 rfl rfl rfl ?_
    refine v_iload 1 d_Lw_law_143 rfl rfl ?_
    refine v_iconst (v := 1) d_Lw_law_145 (by decide) rfl ?_
    refine v_iadd d_Lw_law_146 rfl ?_
    refine v_nmi (fun z5 ez5 => ?_)
    have nz5 : z5 = nI ((5 * k) + 1) := by rw [ez5, show x = nI (5 * k) from ex, show 1 = nI 1 from rfl]; exact nI_add _ _
    refine v_sld (j := ((5 * k) + 1)) d_Lw_law_147 nz5 (by omega) hN rfl ?_
    refine v_sload_n 5 d_Lw_law_148 rfl rfl rfl ?_
    refine v_iload 1 d_Lw_law_149 rfl rfl ?_
    refine v_iconst (v := 2) d_Lw_law_151 (by decide) rfl ?_
    refine v_iadd d_Lw_law_152 rfl ?_
    refine v_nmi (fun z6 ez6 => ?_)
    have nz6 : z6 = nI ((5 * k) + 2) := by rw [ez6, show x = nI (5 * k) from ex, show 2 = nI 2 from rfl]; exact nI_add _ _
    refine v_sld (j := ((5 * k) + 2)) d_Lw_law_153 nz6 (by omega) hN rfl ?_
    refine v_sload_n 5 d_Lw_law_154 rfl rfl rfl ?_
    refine v_iload 1 d_Lw_law_155 rfl rfl ?_
    refine v_iconst (v := 3) d_Lw_law_157 (by decide) rfl ?_
    refine v_iadd d_Lw_law_158 rfl ?_
    refine v_nmi (fun z7 ez7 => ?_)
    have nz7 : z7 = nI ((5 * k) + 3) := by rw [ez7, show x = nI (5 * k) from ex, show 3 = nI 3 from rfl]; exact nI_add _ _
    refine v_sld (j := ((5 * k) + 3)) d_Lw_law_159 nz7 (by omega) hN rfl ?_
    have hq8 : V C l k_Lw_law (10, 601024, 7293034) Po 168 [(5, .int k9), (4, .int x), (3, .ref 148), (2, .ref 124), (1, .ref 0), (0, .retAddr 0)] [.int (bI p), .int (cX C ((5 * k) + 2)), .int (cX C ((5 * k) + 1)), .ref 124] S9 I9 J9 (u.1 + 1, u.2 + 6) := by
      refine v_cVi (as := [.int (cX C ((5 * k) + 1)), .int (cX C ((5 * k) + 2)), .int (bI p)]) d_Lw_law_168 cs_Lw_64 (c_Md_make hC hS rfl (d := 9) (p := p) hm2 h29 (by omega)) (hS.o (by decide) rfl) (by decide) rfl rfl rfl (by decide) (by omega) rfl (fun y9 I10 hM => ?_)
      obtain ⟨g1, g2, g3⟩ := st_all eI eJ hK hM.fr (mk_ag hB u2_s hQ hM)
      refine v_istore (L' := [(6, .int y9), (5, .int k9), (4, .int x), (3, .ref 148), (2, .ref 124), (1, .ref 0), (0, .retAddr 0)]) d_Lw_law_171 (by decide) rfl rfl ?_
      refine v_aload_n 4 d_Lw_law_173 rfl rfl rfl ?_
      refine v_cVp (as := []) d_Lw_law_174 cs_Lw_65 (c_Md_thrown hC hS (d := 9) (by omega)) (hS.o (by decide) rfl) (by decide) rfl rfl rfl (by decide) (by omega) rfl ?_
      refine v_iload 1 d_Lw_law_177 rfl rfl ?_
      refine v_icmp_eq (tgt := 184) d_Lw_law_179 (by decide) rfl (fun c9 => ?_) (fun c9 => ?_)
      · refine v_iload 1 d_Lw_law_184 rfl rfl ?_
        refine v_if_ne (tgt := 201) d_Lw_law_186 (by decide) rfl (fun c10 => ?_) (fun c10 => ?_)
        · refine v_goto (tgt := 938) d_Lw_law_201 (by decide) ?_
          refine v_sub (L' := [(4, .int x), (3, .ref 148), (2, .ref 124), (1, .ref 0), (0, .retAddr 0)]) [2, 3, 4, 5, 6] rfl ?_
          exact kk _ _ _ _ hS g3 (Nat.le_refl _) (Nat.le_refl _)
        · refine v_aload_n 3 d_Lw_law_189 rfl rfl rfl ?_
          refine v_iconst (v := 0) d_Lw_law_190 (by decide) rfl ?_
          refine v_lald (j := 0) d_Lw_law_191 (hS.a (t := 34) (n := 1) (by decide) rfl) rfl (by omega) (by decide) rfl ?_
          refine v_iload 0 d_Lw_law_192 rfl rfl ?_
          refine v_i2l d_Lw_law_194 rfl rfl ?_
          refine v_nml (fun z11 ez11 => ?_)
          refine v_lcmp d_Lw_law_195 rfl ?_
          refine v_nmi (fun z12 ez12 => ?_)
          refine v_if_eq (tgt := 201) d_Lw_law_196 (by decide) rfl (fun c13 => ?_) (fun c13 => ?_)
          · refine v_goto (tgt := 938) d_Lw_law_201 (by decide) ?_
            refine v_sub (L' := [(4, .int x), (3, .ref 148), (2, .ref 124), (1, .ref 0), (0, .retAddr 0)]) [2, 3, 4, 5, 6] rfl ?_
            exact kk _ _ _ _ hS g3 (Nat.le_refl _) (Nat.le_refl _)
          · exact absurd (by rw [ez12, ez11]; exact (lg_cmp_0 _ _).mpr (g2 c10)) c13
      · exact absurd g1 c9
    refine v_if_eq (tgt := 167) d_Lw_law_160 (by decide) rfl (fun cq8 => ?_) (fun cq8 => ?_)
    · rw [show bI p = 0 by rw [hp, cq8]; rfl] at hq8
      refine v_iconst (v := 0) d_Lw_law_167 (by decide) rfl ?_
      exact hq8
    · rw [show bI p = 1 by rw [hp, decide_eq_false cq8]; rfl] at hq8
      refine v_iconst (v := 1) d_Lw_law_163 (by decide) rfl ?_
      refine v_goto (tgt := 168) d_Lw_law_164 (by decide) ?_
      exact hq8
  refine v_if_eq (tgt := 134) d_Lw_law_127 (by decide) rfl (fun cq4 => ?_) (fun cq4 => ?_)
  · rw [show bI p = 0 by rw [hp, cq4]; rfl] at hq4
    refine v_iconst (v := 0) d_Lw_law_134 (by decide) rfl ?_
    exact hq4
  · rw [show bI p = 1 by rw [hp, decide_eq_false cq4]; rfl] at hq4
    refine v_iconst (v := 1) d_Lw_law_130 (by decide) rfl ?_
    refine v_goto (tgt := 135) d_Lw_law_131 (by decide) ?_
    exact hq4
set_option maxHeartbeats 4000000 in
set_option maxRecDepth 100000 in
theorem op_write {C : CT} {l : Launch} {Po : PoT} {S : ShT} {I : DI} {J : DJ} {k : Nat} {x : Int32} {u : Nat × Nat} (hC : OKC C l) (hN : cN C ≤ 2560) (hS : SHP S) (hr : REL I J I J) (ex : x = nI (5 * k)) (hk5 : 5 * k + 5 ≤ cN C) (hu : u.1 + 1 ≤ 601024 ∧ u.2 + 6 ≤ 7293034) (kk : ∀ (S' : ShT) (I' : DI) (J' : DJ) (u' : Nat × Nat), SHP S' → REL I' J' I' J' → u'.1 ≤ u.1 + 1 → u'.2 ≤ u.2 + 6 → V C l k_Lw_law (10, 601024, 7293034) Po 938 [(4, .int x), (3, .ref 148), (2, .ref 124), (1, .ref 0), (0, .retAddr 0)] [] S' I' J' u') : V C l k_Lw_law (10, 601024, 7293034) Po 204 [(4, .int x), (3, .ref 148), (2, .ref 124), (1, .ref 0), (0, .retAddr 0)] [] S I J u := by
  obtain ⟨⟨m, hm, h2, _, hq1, _⟩, hlo, _⟩ := hr.hyC
  refine v_aload_n 3 d_Lw_law_204 rfl rfl rfl ?_
  refine v_sload_n 4 d_Lw_law_205 rfl rfl rfl ?_
  refine v_iload 0 d_Lw_law_206 rfl rfl ?_
  refine v_iconst (v := 1) d_Lw_law_208 (by decide) rfl ?_
  refine v_iadd d_Lw_law_209 rfl ?_
  refine v_nmi (fun z1 ez1 => ?_)
  have nz1 : z1 = nI ((5 * k) + 1) := by rw [ez1, show x = nI (5 * k) from ex, show 1 = nI 1 from rfl]; exact nI_add _ _
  refine v_sld (j := ((5 * k) + 1)) d_Lw_law_210 nz1 (by omega) hN rfl ?_
  refine v_sload_n 4 d_Lw_law_211 rfl rfl rfl ?_
  refine v_iload 0 d_Lw_law_212 rfl rfl ?_
  refine v_iconst (v := 2) d_Lw_law_214 (by decide) rfl ?_
  refine v_iadd d_Lw_law_215 rfl ?_
  refine v_nmi (fun z2 ez2 => ?_)
  have nz2 : z2 = nI ((5 * k) + 2) := by rw [ez2, show x = nI (5 * k) from ex, show 2 = nI 2 from rfl]; exact nI_add _ _
  refine v_sld (j := ((5 * k) + 2)) d_Lw_law_216 nz2 (by omega) hN rfl ?_
  refine v_i2l d_Lw_law_217 rfl rfl ?_
  refine v_nml (fun z3 ez3 => ?_)
  refine v_bipush (v := 32) d_Lw_law_218 (by decide) rfl ?_
  refine v_lshl d_Lw_law_220 rfl rfl ?_
  refine v_nml (fun z4 ez4 => ?_)
  refine v_sload_n 4 d_Lw_law_221 rfl rfl rfl ?_
  refine v_iload 0 d_Lw_law_222 rfl rfl ?_
  refine v_iconst (v := 3) d_Lw_law_224 (by decide) rfl ?_
  refine v_iadd d_Lw_law_225 rfl ?_
  refine v_nmi (fun z5 ez5 => ?_)
  have nz5 : z5 = nI ((5 * k) + 3) := by rw [ez5, show x = nI (5 * k) from ex, show 3 = nI 3 from rfl]; exact nI_add _ _
  refine v_sld (j := ((5 * k) + 3)) d_Lw_law_226 nz5 (by omega) hN rfl ?_
  refine v_i2l d_Lw_law_227 rfl rfl ?_
  refine v_nml (fun z6 ez6 => ?_)
  refine v_ldc2 (v := 4294967295) d_Lw_law_228 wk_Lw_69 rfl ?_
  refine v_land d_Lw_law_231 rfl ?_
  refine v_nml (fun z7 ez7 => ?_)
  refine v_lor d_Lw_law_232 rfl ?_
  refine v_nml (fun z8 ez8 => ?_)
  refine v_sload_n 4 d_Lw_law_233 rfl rfl rfl ?_
  refine v_iload 0 d_Lw_law_234 rfl rfl ?_
  refine v_iconst (v := 4) d_Lw_law_236 (by decide) rfl ?_
  refine v_iadd d_Lw_law_237 rfl ?_
  refine v_nmi (fun z9 ez9 => ?_)
  have nz9 : z9 = nI ((5 * k) + 4) := by rw [ez9, show x = nI (5 * k) from ex, show 4 = nI 4 from rfl]; exact nI_add _ _
  refine v_sld (j := ((5 * k) + 4)) d_Lw_law_238 nz9 (by omega) hN rfl ?_
  refine v_aload_n 1 d_Lw_law_239 rfl rfl rfl ?_
  refine v_callS (as := [.ref 0, .int (cX C ((5 * k) + 1)), .long z8, .int (cX C ((5 * k) + 4)), .ref 148]) d_Lw_law_240 cs_Lw_71 (c_Lw_write hC hS (d := 9) hm h2 hr.len.1 (by omega)) rfl rfl (by decide) (Nat.le_of_ble_eq_true rfl) hu rfl (fun v9 S9 I9 J9 hP9 => ?_) (fun _ _ _ _ _ hP9 => False.elim hP9)
  obtain ⟨hS, k9, r9, rfl, I1, J1, hQ, eI, eJ, hK⟩ := hP9
  have hB := st_b hr hQ.fr eI eJ
  obtain ⟨⟨m2, hm2, _, h29, _, hq2⟩, _, hlo2⟩ := hB.hyC
  refine v_istore (L' := [(5, .int k9), (4, .int x), (3, .ref 148), (2, .ref 124), (1, .ref 0), (0, .retAddr 0)]) d_Lw_law_243 (by decide) rfl rfl ?_
  refine v_aload_n 3 d_Lw_law_245 rfl rfl rfl ?_
  refine v_sload_n 5 d_Lw_law_246 rfl rfl rfl ?_
  refine v_iload 1 d_Lw_law_247 rfl rfl ?_
  refine v_iconst (v := 1) d_Lw_law_249 (by decide) rfl ?_
  refine v_iadd d_Lw_law_250 rfl ?_
  refine v_nmi (fun z10 ez10 => ?_)
  have nz10 : z10 = nI ((5 * k) + 1) := by rw [ez10, show x = nI (5 * k) from ex, show 1 = nI 1 from rfl]; exact nI_add _ _
  refine v_sld (j := ((5 * k) + 1)) d_Lw_law_251 nz10 (by omega) hN rfl ?_
  refine v_sload_n 5 d_Lw_law_252 rfl rfl rfl ?_
  refine v_iload 1 d_Lw_law_253 rfl rfl ?_
  refine v_iconst (v := 2) d_Lw_law_255 (by decide) rfl ?_
  refine v_iadd d_Lw_law_256 rfl ?_
  refine v_nmi (fun z11 ez11 => ?_)
  have nz11 : z11 = nI ((5 * k) + 2) := by rw [ez11, show x = nI (5 * k) from ex, show 2 = nI 2 from rfl]; exact nI_add _ _
  refine v_sld (j := ((5 * k) + 2)) d_Lw_law_257 nz11 (by omega) hN rfl ?_
  refine v_i2l d_Lw_law_258 rfl rfl ?_
  refine v_nml (fun z12 ez12 => ?_)
  refine v_bipush (v := 32) d_Lw_law_259 (by decide) rfl ?_
  refine v_lshl d_Lw_law_261 rfl rfl ?_
  refine v_nml (fun z13 ez13 => ?_)
  refine v_sload_n 5 d_Lw_law_262 rfl rfl rfl ?_
  refine v_iload 1 d_Lw_law_263 rfl rfl ?_
  refine v_iconst (v := 3) d_Lw_law_265 (by decide) rfl ?_
  refine v_iadd d_Lw_law_266 rfl ?_
  refine v_nmi (fun z14 ez14 => ?_)
  have nz14 : z14 = nI ((5 * k) + 3) := by rw [ez14, show x = nI (5 * k) from ex, show 3 = nI 3 from rfl]; exact nI_add _ _
  refine v_sld (j := ((5 * k) + 3)) d_Lw_law_267 nz14 (by omega) hN rfl ?_
  refine v_i2l d_Lw_law_268 rfl rfl ?_
  refine v_nml (fun z15 ez15 => ?_)
  refine v_ldc2 (v := 4294967295) d_Lw_law_269 wk_Lw_69 rfl ?_
  refine v_land d_Lw_law_272 rfl ?_
  refine v_nml (fun z16 ez16 => ?_)
  refine v_lor d_Lw_law_273 rfl ?_
  refine v_nml (fun z17 ez17 => ?_)
  refine v_sload_n 5 d_Lw_law_274 rfl rfl rfl ?_
  refine v_iload 1 d_Lw_law_275 rfl rfl ?_
  refine v_iconst (v := 4) d_Lw_law_277 (by decide) rfl ?_
  refine v_iadd d_Lw_law_278 rfl ?_
  refine v_nmi (fun z18 ez18 => ?_)
  have nz18 : z18 = nI ((5 * k) + 4) := by rw [ez18, show x = nI (5 * k) from ex, show 4 = nI 4 from rfl]; exact nI_add _ _
  refine v_sld (j := ((5 * k) + 4)) d_Lw_law_279 nz18 (by omega) hN rfl ?_
  refine v_cVi (as := [.int (cX C ((5 * k) + 1)), .long z17, .int (cX C ((5 * k) + 4))]) d_Lw_law_280 cs_Lw_74 (c_Md_write hC hS rfl (d := 9) hm2 h29 hB.len.2 (by omega)) (hS.o (by decide) rfl) (by decide) rfl rfl rfl (by decide) (by omega) rfl (fun y9 I10 hM => ?_)
  have hv : z17 = z8 := by rw [ez17, ez16, ez15, ez13, ez12, ez8, ez7, ez6, ez4, ez3]
  rw [hv] at hM
  obtain ⟨g1, g2, g3⟩ := st_all eI eJ hK hM.fr (wr_ag hB u2_s hQ hM)
  refine v_istore (L' := [(6, .int y9), (5, .int k9), (4, .int x), (3, .ref 148), (2, .ref 124), (1, .ref 0), (0, .retAddr 0)]) d_Lw_law_283 (by decide) rfl rfl ?_
  refine v_aload_n 4 d_Lw_law_285 rfl rfl rfl ?_
  refine v_cVp (as := []) d_Lw_law_286 cs_Lw_65 (c_Md_thrown hC hS (d := 9) (by omega)) (hS.o (by decide) rfl) (by decide) rfl rfl rfl (by decide) (by omega) rfl ?_
  refine v_iload 1 d_Lw_law_289 rfl rfl ?_
  refine v_icmp_eq (tgt := 296) d_Lw_law_291 (by decide) rfl (fun c19 => ?_) (fun c19 => ?_)
  · refine v_iload 1 d_Lw_law_296 rfl rfl ?_
    refine v_if_ne (tgt := 313) d_Lw_law_298 (by decide) rfl (fun c20 => ?_) (fun c20 => ?_)
    · refine v_goto (tgt := 938) d_Lw_law_313 (by decide) ?_
      refine v_sub (L' := [(4, .int x), (3, .ref 148), (2, .ref 124), (1, .ref 0), (0, .retAddr 0)]) [2, 3, 4, 5, 6] rfl ?_
      exact kk _ _ _ _ hS g3 (Nat.le_refl _) (Nat.le_refl _)
    · refine v_aload_n 3 d_Lw_law_301 rfl rfl rfl ?_
      refine v_iconst (v := 0) d_Lw_law_302 (by decide) rfl ?_
      refine v_lald (j := 0) d_Lw_law_303 (hS.a (t := 34) (n := 1) (by decide) rfl) rfl (by omega) (by decide) rfl ?_
      refine v_iload 0 d_Lw_law_304 rfl rfl ?_
      refine v_i2l d_Lw_law_306 rfl rfl ?_
      refine v_nml (fun z21 ez21 => ?_)
      refine v_lcmp d_Lw_law_307 rfl ?_
      refine v_nmi (fun z22 ez22 => ?_)
      refine v_if_eq (tgt := 313) d_Lw_law_308 (by decide) rfl (fun c23 => ?_) (fun c23 => ?_)
      · refine v_goto (tgt := 938) d_Lw_law_313 (by decide) ?_
        refine v_sub (L' := [(4, .int x), (3, .ref 148), (2, .ref 124), (1, .ref 0), (0, .retAddr 0)]) [2, 3, 4, 5, 6] rfl ?_
        exact kk _ _ _ _ hS g3 (Nat.le_refl _) (Nat.le_refl _)
      · exact absurd (by rw [ez22, ez21]; exact (lg_cmp_0 _ _).mpr (g2 c20)) c23
  · exact absurd g1 c19
set_option maxHeartbeats 4000000 in
set_option maxRecDepth 100000 in
theorem op_cut {C : CT} {l : Launch} {Po : PoT} {S : ShT} {I : DI} {J : DJ} {k : Nat} {x : Int32} {u : Nat × Nat} (hC : OKC C l) (hN : cN C ≤ 2560) (hS : SHP S) (hr : REL I J I J) (ex : x = nI (5 * k)) (hk5 : 5 * k + 5 ≤ cN C) (hu : u.1 + 1 ≤ 601024 ∧ u.2 + 6 ≤ 7293034) (kk : ∀ (S' : ShT) (I' : DI) (J' : DJ) (u' : Nat × Nat), SHP S' → REL I' J' I' J' → u'.1 ≤ u.1 + 1 → u'.2 ≤ u.2 + 6 → V C l k_Lw_law (10, 601024, 7293034) Po 938 [(4, .int x), (3, .ref 148), (2, .ref 124), (1, .ref 0), (0, .retAddr 0)] [] S' I' J' u') : V C l k_Lw_law (10, 601024, 7293034) Po 316 [(4, .int x), (3, .ref 148), (2, .ref 124), (1, .ref 0), (0, .retAddr 0)] [] S I J u := by
  obtain ⟨⟨m, hm, h2, _, hq1, _⟩, hlo, _⟩ := hr.hyC
  refine v_aload_n 3 d_Lw_law_316 rfl rfl rfl ?_
  refine v_sload_n 4 d_Lw_law_317 rfl rfl rfl ?_
  refine v_iload 0 d_Lw_law_318 rfl rfl ?_
  refine v_iconst (v := 1) d_Lw_law_320 (by decide) rfl ?_
  refine v_iadd d_Lw_law_321 rfl ?_
  refine v_nmi (fun z1 ez1 => ?_)
  have nz1 : z1 = nI ((5 * k) + 1) := by rw [ez1, show x = nI (5 * k) from ex, show 1 = nI 1 from rfl]; exact nI_add _ _
  refine v_sld (j := ((5 * k) + 1)) d_Lw_law_322 nz1 (by omega) hN rfl ?_
  refine v_sload_n 4 d_Lw_law_323 rfl rfl rfl ?_
  refine v_iload 0 d_Lw_law_324 rfl rfl ?_
  refine v_iconst (v := 2) d_Lw_law_326 (by decide) rfl ?_
  refine v_iadd d_Lw_law_327 rfl ?_
  refine v_nmi (fun z2 ez2 => ?_)
  have nz2 : z2 = nI ((5 * k) + 2) := by rw [ez2, show x = nI (5 * k) from ex, show 2 = nI 2 from rfl]; exact nI_add _ _
  refine v_sld (j := ((5 * k) + 2)) d_Lw_law_328 nz2 (by omega) hN rfl ?_
  refine v_aload_n 1 d_Lw_law_329 rfl rfl rfl ?_
  refine v_callS (as := [.ref 0, .int (cX C ((5 * k) + 1)), .int (cX C ((5 * k) + 2)), .ref 148]) d_Lw_law_330 cs_Lw_75 (c_Lw_cut hC hS (d := 9) hm h2 hr.len.1 (by omega)) rfl rfl (by decide) (Nat.le_of_ble_eq_true rfl) hu rfl (fun v9 S9 I9 J9 hP9 => ?_) (fun _ _ _ _ _ hP9 => False.elim hP9)
  obtain ⟨hS, k9, r9, rfl, I1, J1, hQ, eI, eJ, hK⟩ := hP9
  have hB := st_b hr hQ.fr eI eJ
  obtain ⟨⟨m2, hm2, _, h29, _, hq2⟩, _, hlo2⟩ := hB.hyC
  refine v_istore (L' := [(5, .int k9), (4, .int x), (3, .ref 148), (2, .ref 124), (1, .ref 0), (0, .retAddr 0)]) d_Lw_law_333 (by decide) rfl rfl ?_
  refine v_aload_n 3 d_Lw_law_335 rfl rfl rfl ?_
  refine v_sload_n 5 d_Lw_law_336 rfl rfl rfl ?_
  refine v_iload 1 d_Lw_law_337 rfl rfl ?_
  refine v_iconst (v := 1) d_Lw_law_339 (by decide) rfl ?_
  refine v_iadd d_Lw_law_340 rfl ?_
  refine v_nmi (fun z3 ez3 => ?_)
  have nz3 : z3 = nI ((5 * k) + 1) := by rw [ez3, show x = nI (5 * k) from ex, show 1 = nI 1 from rfl]; exact nI_add _ _
  refine v_sld (j := ((5 * k) + 1)) d_Lw_law_341 nz3 (by omega) hN rfl ?_
  refine v_sload_n 5 d_Lw_law_342 rfl rfl rfl ?_
  refine v_iload 1 d_Lw_law_343 rfl rfl ?_
  refine v_iconst (v := 2) d_Lw_law_345 (by decide) rfl ?_
  refine v_iadd d_Lw_law_346 rfl ?_
  refine v_nmi (fun z4 ez4 => ?_)
  have nz4 : z4 = nI ((5 * k) + 2) := by rw [ez4, show x = nI (5 * k) from ex, show 2 = nI 2 from rfl]; exact nI_add _ _
  refine v_sld (j := ((5 * k) + 2)) d_Lw_law_347 nz4 (by omega) hN rfl ?_
  refine v_cVi (as := [.int (cX C ((5 * k) + 1)), .int (cX C ((5 * k) + 2))]) d_Lw_law_348 cs_Lw_78 (c_Md_cut hC hS rfl (d := 9) hm2 h29 hB.len.2 (by omega)) (hS.o (by decide) rfl) (by decide) rfl rfl rfl (by decide) (by omega) rfl (fun y9 I10 hM => ?_)
  obtain ⟨g1, g2, g3⟩ := st_all eI eJ hK hM.fr (ct_ag hB u2_s hQ hM)
  refine v_istore (L' := [(6, .int y9), (5, .int k9), (4, .int x), (3, .ref 148), (2, .ref 124), (1, .ref 0), (0, .retAddr 0)]) d_Lw_law_351 (by decide) rfl rfl ?_
  refine v_aload_n 4 d_Lw_law_353 rfl rfl rfl ?_
  refine v_cVp (as := []) d_Lw_law_354 cs_Lw_65 (c_Md_thrown hC hS (d := 9) (by omega)) (hS.o (by decide) rfl) (by decide) rfl rfl rfl (by decide) (by omega) rfl ?_
  refine v_iload 1 d_Lw_law_357 rfl rfl ?_
  refine v_icmp_eq (tgt := 364) d_Lw_law_359 (by decide) rfl (fun c5 => ?_) (fun c5 => ?_)
  · refine v_iload 1 d_Lw_law_364 rfl rfl ?_
    refine v_if_ne (tgt := 381) d_Lw_law_366 (by decide) rfl (fun c6 => ?_) (fun c6 => ?_)
    · refine v_goto (tgt := 938) d_Lw_law_381 (by decide) ?_
      refine v_sub (L' := [(4, .int x), (3, .ref 148), (2, .ref 124), (1, .ref 0), (0, .retAddr 0)]) [2, 3, 4, 5, 6] rfl ?_
      exact kk _ _ _ _ hS g3 (Nat.le_refl _) (Nat.le_refl _)
    · refine v_aload_n 3 d_Lw_law_369 rfl rfl rfl ?_
      refine v_iconst (v := 0) d_Lw_law_370 (by decide) rfl ?_
      refine v_lald (j := 0) d_Lw_law_371 (hS.a (t := 34) (n := 1) (by decide) rfl) rfl (by omega) (by decide) rfl ?_
      refine v_iload 0 d_Lw_law_372 rfl rfl ?_
      refine v_i2l d_Lw_law_374 rfl rfl ?_
      refine v_nml (fun z7 ez7 => ?_)
      refine v_lcmp d_Lw_law_375 rfl ?_
      refine v_nmi (fun z8 ez8 => ?_)
      refine v_if_eq (tgt := 381) d_Lw_law_376 (by decide) rfl (fun c9 => ?_) (fun c9 => ?_)
      · refine v_goto (tgt := 938) d_Lw_law_381 (by decide) ?_
        refine v_sub (L' := [(4, .int x), (3, .ref 148), (2, .ref 124), (1, .ref 0), (0, .retAddr 0)]) [2, 3, 4, 5, 6] rfl ?_
        exact kk _ _ _ _ hS g3 (Nat.le_refl _) (Nat.le_refl _)
      · exact absurd (by rw [ez8, ez7]; exact (lg_cmp_0 _ _).mpr (g2 c6)) c9
  · exact absurd g1 c5
set_option maxHeartbeats 4000000 in
set_option maxRecDepth 100000 in
theorem op_remove {C : CT} {l : Launch} {Po : PoT} {S : ShT} {I : DI} {J : DJ} {k : Nat} {x : Int32} {u : Nat × Nat} (hC : OKC C l) (hN : cN C ≤ 2560) (hS : SHP S) (hr : REL I J I J) (ex : x = nI (5 * k)) (hk5 : 5 * k + 5 ≤ cN C) (hu : u.1 + 1 ≤ 601024 ∧ u.2 + 6 ≤ 7293034) (kk : ∀ (S' : ShT) (I' : DI) (J' : DJ) (u' : Nat × Nat), SHP S' → REL I' J' I' J' → u'.1 ≤ u.1 + 1 → u'.2 ≤ u.2 + 6 → V C l k_Lw_law (10, 601024, 7293034) Po 938 [(4, .int x), (3, .ref 148), (2, .ref 124), (1, .ref 0), (0, .retAddr 0)] [] S' I' J' u') : V C l k_Lw_law (10, 601024, 7293034) Po 384 [(4, .int x), (3, .ref 148), (2, .ref 124), (1, .ref 0), (0, .retAddr 0)] [] S I J u := by
  obtain ⟨⟨m, hm, h2, _, hq1, _⟩, hlo, _⟩ := hr.hyC
  refine v_aload_n 3 d_Lw_law_384 rfl rfl rfl ?_
  refine v_sload_n 4 d_Lw_law_385 rfl rfl rfl ?_
  refine v_iload 0 d_Lw_law_386 rfl rfl ?_
  refine v_iconst (v := 1) d_Lw_law_388 (by decide) rfl ?_
  refine v_iadd d_Lw_law_389 rfl ?_
  refine v_nmi (fun z1 ez1 => ?_)
  have nz1 : z1 = nI ((5 * k) + 1) := by rw [ez1, show x = nI (5 * k) from ex, show 1 = nI 1 from rfl]; exact nI_add _ _
  refine v_sld (j := ((5 * k) + 1)) d_Lw_law_390 nz1 (by omega) hN rfl ?_
  refine v_aload_n 1 d_Lw_law_391 rfl rfl rfl ?_
  refine v_callS (as := [.ref 0, .int (cX C ((5 * k) + 1)), .ref 148]) d_Lw_law_392 cs_Lw_79 (c_Lw_remove hC hS (d := 9) hm h2 hr.par.1 (by omega)) rfl rfl (by decide) (Nat.le_of_ble_eq_true rfl) hu rfl (fun v9 S9 I9 J9 hP9 => ?_) (fun _ _ _ _ _ hP9 => False.elim hP9)
  obtain ⟨hS, k9, r9, rfl, I1, J1, hQ, eI, eJ, hK⟩ := hP9
  have hB := st_b hr (hQ.fr hm h2) eI eJ
  obtain ⟨⟨m2, hm2, _, h29, _, hq2⟩, _, hlo2⟩ := hB.hyC
  refine v_istore (L' := [(5, .int k9), (4, .int x), (3, .ref 148), (2, .ref 124), (1, .ref 0), (0, .retAddr 0)]) d_Lw_law_395 (by decide) rfl rfl ?_
  refine v_aload_n 3 d_Lw_law_397 rfl rfl rfl ?_
  refine v_sload_n 5 d_Lw_law_398 rfl rfl rfl ?_
  refine v_iload 1 d_Lw_law_399 rfl rfl ?_
  refine v_iconst (v := 1) d_Lw_law_401 (by decide) rfl ?_
  refine v_iadd d_Lw_law_402 rfl ?_
  refine v_nmi (fun z2 ez2 => ?_)
  have nz2 : z2 = nI ((5 * k) + 1) := by rw [ez2, show x = nI (5 * k) from ex, show 1 = nI 1 from rfl]; exact nI_add _ _
  refine v_sld (j := ((5 * k) + 1)) d_Lw_law_403 nz2 (by omega) hN rfl ?_
  refine v_cVi (as := [.int (cX C ((5 * k) + 1))]) d_Lw_law_404 cs_Lw_82 (c_Md_remove hC hS rfl (d := 9) hm2 h29 hB.par.2.1 hB.par.2.2.1 hB.par.2.2.2 (by omega)) (hS.o (by decide) rfl) (by decide) rfl rfl rfl (by decide) (by omega) rfl (fun y9 I10 hM => ?_)
  obtain ⟨g1, g2, g3⟩ := st_all eI eJ hK (hM.fr hm2 h29) (rv_ag hB u2_s hQ hM)
  refine v_istore (L' := [(6, .int y9), (5, .int k9), (4, .int x), (3, .ref 148), (2, .ref 124), (1, .ref 0), (0, .retAddr 0)]) d_Lw_law_407 (by decide) rfl rfl ?_
  refine v_aload_n 4 d_Lw_law_409 rfl rfl rfl ?_
  refine v_cVp (as := []) d_Lw_law_410 cs_Lw_65 (c_Md_thrown hC hS (d := 9) (by omega)) (hS.o (by decide) rfl) (by decide) rfl rfl rfl (by decide) (by omega) rfl ?_
  refine v_iload 1 d_Lw_law_413 rfl rfl ?_
  refine v_icmp_eq (tgt := 420) d_Lw_law_415 (by decide) rfl (fun c3 => ?_) (fun c3 => ?_)
  · refine v_iload 1 d_Lw_law_420 rfl rfl ?_
    refine v_if_ne (tgt := 437) d_Lw_law_422 (by decide) rfl (fun c4 => ?_) (fun c4 => ?_)
    · refine v_goto (tgt := 938) d_Lw_law_437 (by decide) ?_
      refine v_sub (L' := [(4, .int x), (3, .ref 148), (2, .ref 124), (1, .ref 0), (0, .retAddr 0)]) [2, 3, 4, 5, 6] rfl ?_
      exact kk _ _ _ _ hS g3 (Nat.le_refl _) (Nat.le_refl _)
    · refine v_aload_n 3 d_Lw_law_425 rfl rfl rfl ?_
      refine v_iconst (v := 0) d_Lw_law_426 (by decide) rfl ?_
      refine v_lald (j := 0) d_Lw_law_427 (hS.a (t := 34) (n := 1) (by decide) rfl) rfl (by omega) (by decide) rfl ?_
      refine v_iload 0 d_Lw_law_428 rfl rfl ?_
      refine v_i2l d_Lw_law_430 rfl rfl ?_
      refine v_nml (fun z5 ez5 => ?_)
      refine v_lcmp d_Lw_law_431 rfl ?_
      refine v_nmi (fun z6 ez6 => ?_)
      refine v_if_eq (tgt := 437) d_Lw_law_432 (by decide) rfl (fun c7 => ?_) (fun c7 => ?_)
      · refine v_goto (tgt := 938) d_Lw_law_437 (by decide) ?_
        refine v_sub (L' := [(4, .int x), (3, .ref 148), (2, .ref 124), (1, .ref 0), (0, .retAddr 0)]) [2, 3, 4, 5, 6] rfl ?_
        exact kk _ _ _ _ hS g3 (Nat.le_refl _) (Nat.le_refl _)
      · exact absurd (by rw [ez6, ez5]; exact (lg_cmp_0 _ _).mpr (g2 c4)) c7
  · exact absurd g1 c3
set_option maxHeartbeats 4000000 in
set_option maxRecDepth 100000 in
theorem op_move {C : CT} {l : Launch} {Po : PoT} {S : ShT} {I : DI} {J : DJ} {k : Nat} {x : Int32} {u : Nat × Nat} (hC : OKC C l) (hN : cN C ≤ 2560) (hS : SHP S) (hr : REL I J I J) (ex : x = nI (5 * k)) (hk5 : 5 * k + 5 ≤ cN C) (hu : u.1 + 1 ≤ 601024 ∧ u.2 + 6 ≤ 7293034) (kk : ∀ (S' : ShT) (I' : DI) (J' : DJ) (u' : Nat × Nat), SHP S' → REL I' J' I' J' → u'.1 ≤ u.1 + 1 → u'.2 ≤ u.2 + 6 → V C l k_Lw_law (10, 601024, 7293034) Po 938 [(4, .int x), (3, .ref 148), (2, .ref 124), (1, .ref 0), (0, .retAddr 0)] [] S' I' J' u') : V C l k_Lw_law (10, 601024, 7293034) Po 440 [(4, .int x), (3, .ref 148), (2, .ref 124), (1, .ref 0), (0, .retAddr 0)] [] S I J u := by
  refine v_aload_n 3 d_Lw_law_440 rfl rfl rfl ?_
  refine v_sload_n 4 d_Lw_law_441 rfl rfl rfl ?_
  refine v_iload 0 d_Lw_law_442 rfl rfl ?_
  refine v_iconst (v := 1) d_Lw_law_444 (by decide) rfl ?_
  refine v_iadd d_Lw_law_445 rfl ?_
  refine v_nmi (fun z1 ez1 => ?_)
  have nz1 : z1 = nI ((5 * k) + 1) := by rw [ez1, show x = nI (5 * k) from ex, show 1 = nI 1 from rfl]; exact nI_add _ _
  refine v_sld (j := ((5 * k) + 1)) d_Lw_law_446 nz1 (by omega) hN rfl ?_
  refine v_sload_n 4 d_Lw_law_447 rfl rfl rfl ?_
  refine v_iload 0 d_Lw_law_448 rfl rfl ?_
  refine v_iconst (v := 2) d_Lw_law_450 (by decide) rfl ?_
  refine v_iadd d_Lw_law_451 rfl ?_
  refine v_nmi (fun z2 ez2 => ?_)
  have nz2 : z2 = nI ((5 * k) + 2) := by rw [ez2, show x = nI (5 * k) from ex, show 2 = nI 2 from rfl]; exact nI_add _ _
  refine v_sld (j := ((5 * k) + 2)) d_Lw_law_452 nz2 (by omega) hN rfl ?_
  refine v_aload_n 1 d_Lw_law_453 rfl rfl rfl ?_
  refine v_callS (as := [.ref 0, .int (cX C ((5 * k) + 1)), .int (cX C ((5 * k) + 2)), .ref 148]) d_Lw_law_454 cs_Lw_83 (c_Lw_move hC hS (d := 9) hr.par.1 (by omega)) rfl rfl (by decide) (Nat.le_of_ble_eq_true rfl) hu rfl (fun v9 S9 I9 J9 hP9 => ?_) (fun _ _ _ _ _ hP9 => False.elim hP9)
  obtain ⟨hS, k9, r9, rfl, I1, J1, hQ, eI, eJ, hK⟩ := hP9
  have hB := st_b hr hQ.fr eI eJ
  refine v_istore (L' := [(5, .int k9), (4, .int x), (3, .ref 148), (2, .ref 124), (1, .ref 0), (0, .retAddr 0)]) d_Lw_law_457 (by decide) rfl rfl ?_
  refine v_aload_n 3 d_Lw_law_459 rfl rfl rfl ?_
  refine v_sload_n 5 d_Lw_law_460 rfl rfl rfl ?_
  refine v_iload 1 d_Lw_law_461 rfl rfl ?_
  refine v_iconst (v := 1) d_Lw_law_463 (by decide) rfl ?_
  refine v_iadd d_Lw_law_464 rfl ?_
  refine v_nmi (fun z3 ez3 => ?_)
  have nz3 : z3 = nI ((5 * k) + 1) := by rw [ez3, show x = nI (5 * k) from ex, show 1 = nI 1 from rfl]; exact nI_add _ _
  refine v_sld (j := ((5 * k) + 1)) d_Lw_law_465 nz3 (by omega) hN rfl ?_
  refine v_sload_n 5 d_Lw_law_466 rfl rfl rfl ?_
  refine v_iload 1 d_Lw_law_467 rfl rfl ?_
  refine v_iconst (v := 2) d_Lw_law_469 (by decide) rfl ?_
  refine v_iadd d_Lw_law_470 rfl ?_
  refine v_nmi (fun z4 ez4 => ?_)
  have nz4 : z4 = nI ((5 * k) + 2) := by rw [ez4, show x = nI (5 * k) from ex, show 2 = nI 2 from rfl]; exact nI_add _ _
  refine v_sld (j := ((5 * k) + 2)) d_Lw_law_471 nz4 (by omega) hN rfl ?_
  refine v_cVi (as := [.int (cX C ((5 * k) + 1)), .int (cX C ((5 * k) + 2))]) d_Lw_law_472 cs_Lw_85 (c_Md_move hC hS rfl (d := 9) hB.par.2.1 hB.par.2.2.1 hB.par.2.2.2 (by omega)) (hS.o (by decide) rfl) (by decide) rfl rfl rfl (by decide) (by omega) rfl (fun y9 I10 hM => ?_)
  obtain ⟨g1, g2, g3⟩ := st_all eI eJ hK hM.fr (mv_ag hB u2_s hQ hM)
  refine v_istore (L' := [(6, .int y9), (5, .int k9), (4, .int x), (3, .ref 148), (2, .ref 124), (1, .ref 0), (0, .retAddr 0)]) d_Lw_law_475 (by decide) rfl rfl ?_
  refine v_aload_n 4 d_Lw_law_477 rfl rfl rfl ?_
  refine v_cVp (as := []) d_Lw_law_478 cs_Lw_65 (c_Md_thrown hC hS (d := 9) (by omega)) (hS.o (by decide) rfl) (by decide) rfl rfl rfl (by decide) (by omega) rfl ?_
  refine v_iload 1 d_Lw_law_481 rfl rfl ?_
  refine v_icmp_eq (tgt := 488) d_Lw_law_483 (by decide) rfl (fun c5 => ?_) (fun c5 => ?_)
  · refine v_iload 1 d_Lw_law_488 rfl rfl ?_
    refine v_if_ne (tgt := 505) d_Lw_law_490 (by decide) rfl (fun c6 => ?_) (fun c6 => ?_)
    · refine v_goto (tgt := 938) d_Lw_law_505 (by decide) ?_
      refine v_sub (L' := [(4, .int x), (3, .ref 148), (2, .ref 124), (1, .ref 0), (0, .retAddr 0)]) [2, 3, 4, 5, 6] rfl ?_
      exact kk _ _ _ _ hS g3 (Nat.le_refl _) (Nat.le_refl _)
    · refine v_aload_n 3 d_Lw_law_493 rfl rfl rfl ?_
      refine v_iconst (v := 0) d_Lw_law_494 (by decide) rfl ?_
      refine v_lald (j := 0) d_Lw_law_495 (hS.a (t := 34) (n := 1) (by decide) rfl) rfl (by omega) (by decide) rfl ?_
      refine v_iload 0 d_Lw_law_496 rfl rfl ?_
      refine v_i2l d_Lw_law_498 rfl rfl ?_
      refine v_nml (fun z7 ez7 => ?_)
      refine v_lcmp d_Lw_law_499 rfl ?_
      refine v_nmi (fun z8 ez8 => ?_)
      refine v_if_eq (tgt := 505) d_Lw_law_500 (by decide) rfl (fun c9 => ?_) (fun c9 => ?_)
      · refine v_goto (tgt := 938) d_Lw_law_505 (by decide) ?_
        refine v_sub (L' := [(4, .int x), (3, .ref 148), (2, .ref 124), (1, .ref 0), (0, .retAddr 0)]) [2, 3, 4, 5, 6] rfl ?_
        exact kk _ _ _ _ hS g3 (Nat.le_refl _) (Nat.le_refl _)
      · exact absurd (by rw [ez8, ez7]; exact (lg_cmp_0 _ _).mpr (g2 c6)) c9
  · exact absurd g1 c5
set_option maxHeartbeats 4000000 in
set_option maxRecDepth 100000 in
theorem op_work {C : CT} {l : Launch} {Po : PoT} {S : ShT} {I : DI} {J : DJ} {k : Nat} {x : Int32} {u : Nat × Nat} (hC : OKC C l) (hN : cN C ≤ 2560) (hS : SHP S) (hr : REL I J I J) (ex : x = nI (5 * k)) (hk5 : 5 * k + 5 ≤ cN C) (hu : u.1 + 1 ≤ 601024 ∧ u.2 + 6 ≤ 7293034) (kk : ∀ (S' : ShT) (I' : DI) (J' : DJ) (u' : Nat × Nat), SHP S' → REL I' J' I' J' → u'.1 ≤ u.1 + 1 → u'.2 ≤ u.2 + 6 → V C l k_Lw_law (10, 601024, 7293034) Po 938 [(4, .int x), (3, .ref 148), (2, .ref 124), (1, .ref 0), (0, .retAddr 0)] [] S' I' J' u') : V C l k_Lw_law (10, 601024, 7293034) Po 508 [(4, .int x), (3, .ref 148), (2, .ref 124), (1, .ref 0), (0, .retAddr 0)] [] S I J u := by
  obtain ⟨⟨m, hm, h2, _, hq1, _⟩, hlo, _⟩ := hr.hyC
  refine v_aload_n 3 d_Lw_law_508 rfl rfl rfl ?_
  refine v_sload_n 4 d_Lw_law_509 rfl rfl rfl ?_
  refine v_iload 0 d_Lw_law_510 rfl rfl ?_
  refine v_iconst (v := 1) d_Lw_law_512 (by decide) rfl ?_
  refine v_iadd d_Lw_law_513 rfl ?_
  refine v_nmi (fun z1 ez1 => ?_)
  have nz1 : z1 = nI ((5 * k) + 1) := by rw [ez1, show x = nI (5 * k) from ex, show 1 = nI 1 from rfl]; exact nI_add _ _
  refine v_sld (j := ((5 * k) + 1)) d_Lw_law_514 nz1 (by omega) hN rfl ?_
  refine v_aload_n 1 d_Lw_law_515 rfl rfl rfl ?_
  refine v_callS (as := [.ref 0, .int (cX C ((5 * k) + 1)), .ref 148]) d_Lw_law_516 cs_Lw_86 (c_Lw_work hC hS (d := 9) hm h2 hr.len.1 hq1 hlo (by omega)) rfl rfl (by decide) (Nat.le_of_ble_eq_true rfl) hu rfl (fun v9 S9 I9 J9 hP9 => ?_) (fun _ _ _ _ _ hP9 => False.elim hP9)
  obtain ⟨hS, k9, r9, rfl, I1, J1, hQ, eI, eJ, hK⟩ := hP9
  have hB := st_b hr (hQ.fr h2) eI eJ
  obtain ⟨⟨m2, hm2, _, h29, _, hq2⟩, _, hlo2⟩ := hB.hyC
  refine v_istore (L' := [(5, .int k9), (4, .int x), (3, .ref 148), (2, .ref 124), (1, .ref 0), (0, .retAddr 0)]) d_Lw_law_519 (by decide) rfl rfl ?_
  refine v_aload_n 3 d_Lw_law_521 rfl rfl rfl ?_
  refine v_sload_n 5 d_Lw_law_522 rfl rfl rfl ?_
  refine v_iload 1 d_Lw_law_523 rfl rfl ?_
  refine v_iconst (v := 1) d_Lw_law_525 (by decide) rfl ?_
  refine v_iadd d_Lw_law_526 rfl ?_
  refine v_nmi (fun z2 ez2 => ?_)
  have nz2 : z2 = nI ((5 * k) + 1) := by rw [ez2, show x = nI (5 * k) from ex, show 1 = nI 1 from rfl]; exact nI_add _ _
  refine v_sld (j := ((5 * k) + 1)) d_Lw_law_527 nz2 (by omega) hN rfl ?_
  refine v_cVj (as := [.int (cX C ((5 * k) + 1))]) d_Lw_law_528 cs_Lw_88 (c_Md_work hC hS rfl (d := 9) hm2 h29 hB.len.2 hq2 (by omega)) (hS.o (by decide) rfl) (by decide) rfl rfl rfl (by decide) (by omega) rfl (fun y9 I10 J10 hM => ?_)
  obtain ⟨g1, g2, g3⟩ := st_all eI eJ hK (hM.fr h29) (wk_ag hB u2_s h2 h29 hm hm2 hQ hM)
  refine v_istore (L' := [(6, .int y9), (5, .int k9), (4, .int x), (3, .ref 148), (2, .ref 124), (1, .ref 0), (0, .retAddr 0)]) d_Lw_law_531 (by decide) rfl rfl ?_
  refine v_aload_n 4 d_Lw_law_533 rfl rfl rfl ?_
  refine v_cVp (as := []) d_Lw_law_534 cs_Lw_65 (c_Md_thrown hC hS (d := 9) (by omega)) (hS.o (by decide) rfl) (by decide) rfl rfl rfl (by decide) (by omega) rfl ?_
  refine v_iload 1 d_Lw_law_537 rfl rfl ?_
  refine v_icmp_eq (tgt := 544) d_Lw_law_539 (by decide) rfl (fun c3 => ?_) (fun c3 => ?_)
  · refine v_iload 1 d_Lw_law_544 rfl rfl ?_
    refine v_if_ne (tgt := 561) d_Lw_law_546 (by decide) rfl (fun c4 => ?_) (fun c4 => ?_)
    · refine v_goto (tgt := 938) d_Lw_law_561 (by decide) ?_
      refine v_sub (L' := [(4, .int x), (3, .ref 148), (2, .ref 124), (1, .ref 0), (0, .retAddr 0)]) [2, 3, 4, 5, 6] rfl ?_
      exact kk _ _ _ _ hS g3 (Nat.le_refl _) (Nat.le_refl _)
    · refine v_aload_n 3 d_Lw_law_549 rfl rfl rfl ?_
      refine v_iconst (v := 0) d_Lw_law_550 (by decide) rfl ?_
      refine v_lald (j := 0) d_Lw_law_551 (hS.a (t := 34) (n := 1) (by decide) rfl) rfl (by omega) (by decide) rfl ?_
      refine v_iload 0 d_Lw_law_552 rfl rfl ?_
      refine v_i2l d_Lw_law_554 rfl rfl ?_
      refine v_nml (fun z5 ez5 => ?_)
      refine v_lcmp d_Lw_law_555 rfl ?_
      refine v_nmi (fun z6 ez6 => ?_)
      refine v_if_eq (tgt := 561) d_Lw_law_556 (by decide) rfl (fun c7 => ?_) (fun c7 => ?_)
      · refine v_goto (tgt := 938) d_Lw_law_561 (by decide) ?_
        refine v_sub (L' := [(4, .int x), (3, .ref 148), (2, .ref 124), (1, .ref 0), (0, .retAddr 0)]) [2, 3, 4, 5, 6] rfl ?_
        exact kk _ _ _ _ hS g3 (Nat.le_refl _) (Nat.le_refl _)
      · exact absurd (by rw [ez6, ez5]; exact (lg_cmp_0 _ _).mpr (g2 c4)) c7
  · exact absurd g1 c3
set_option maxHeartbeats 4000000 in
set_option maxRecDepth 100000 in
theorem op_type {C : CT} {l : Launch} {Po : PoT} {S : ShT} {I : DI} {J : DJ} {k : Nat} {x : Int32} {u : Nat × Nat} (hC : OKC C l) (hN : cN C ≤ 2560) (hS : SHP S) (hr : REL I J I J) (ex : x = nI (5 * k)) (hk5 : 5 * k + 5 ≤ cN C) (hu : u.1 + 1 ≤ 601024 ∧ u.2 + 6 ≤ 7293034) (kk : ∀ (S' : ShT) (I' : DI) (J' : DJ) (u' : Nat × Nat), SHP S' → REL I' J' I' J' → u'.1 ≤ u.1 + 1 → u'.2 ≤ u.2 + 6 → V C l k_Lw_law (10, 601024, 7293034) Po 938 [(4, .int x), (3, .ref 148), (2, .ref 124), (1, .ref 0), (0, .retAddr 0)] [] S' I' J' u') : V C l k_Lw_law (10, 601024, 7293034) Po 577 [(4, .int x), (3, .ref 148), (2, .ref 124), (1, .ref 0), (0, .retAddr 0)] [] S I J u := by
  obtain ⟨n, hn40, hn, _, _⟩ := hr.qry
  refine v_aload_n 3 d_Lw_law_577 rfl rfl rfl ?_
  refine v_sload_n 4 d_Lw_law_578 rfl rfl rfl ?_
  refine v_iload 0 d_Lw_law_579 rfl rfl ?_
  refine v_iconst (v := 1) d_Lw_law_581 (by decide) rfl ?_
  refine v_iadd d_Lw_law_582 rfl ?_
  refine v_nmi (fun z1 ez1 => ?_)
  have nz1 : z1 = nI ((5 * k) + 1) := by rw [ez1, show x = nI (5 * k) from ex, show 1 = nI 1 from rfl]; exact nI_add _ _
  refine v_sld (j := ((5 * k) + 1)) d_Lw_law_583 nz1 (by omega) hN rfl ?_
  refine v_aload_n 1 d_Lw_law_584 rfl rfl rfl ?_
  refine v_callS (as := [.ref 0, .int (cX C ((5 * k) + 1)), .ref 148]) d_Lw_law_585 cs_Lw_93 (c_Lw_type hC hS (d := 9) hn hn40 (by omega)) rfl rfl (by decide) (Nat.le_of_ble_eq_true rfl) hu rfl (fun v9 S9 I9 J9 hP9 => ?_) (fun _ _ _ _ _ hP9 => False.elim hP9)
  obtain ⟨hS, k9, r9, rfl, I1, J1, hQ, eI, eJ, hK⟩ := hP9
  have hB := st_b hr hQ.fr eI eJ
  obtain ⟨n2, hn42, _, hn2, _⟩ := hB.qry
  refine v_istore (L' := [(5, .int k9), (4, .int x), (3, .ref 148), (2, .ref 124), (1, .ref 0), (0, .retAddr 0)]) d_Lw_law_588 (by decide) rfl rfl ?_
  refine v_aload_n 3 d_Lw_law_590 rfl rfl rfl ?_
  refine v_sload_n 5 d_Lw_law_591 rfl rfl rfl ?_
  refine v_iload 1 d_Lw_law_592 rfl rfl ?_
  refine v_iconst (v := 1) d_Lw_law_594 (by decide) rfl ?_
  refine v_iadd d_Lw_law_595 rfl ?_
  refine v_nmi (fun z2 ez2 => ?_)
  have nz2 : z2 = nI ((5 * k) + 1) := by rw [ez2, show x = nI (5 * k) from ex, show 1 = nI 1 from rfl]; exact nI_add _ _
  refine v_sld (j := ((5 * k) + 1)) d_Lw_law_596 nz2 (by omega) hN rfl ?_
  refine v_cVi (as := [.int (cX C ((5 * k) + 1))]) d_Lw_law_597 cs_Lw_95 (c_Md_type hC hS rfl (d := 9) hn2 hn42 (by omega)) (hS.o (by decide) rfl) (by decide) rfl rfl rfl (by decide) (by omega) rfl (fun y9 I10 hM => ?_)
  obtain ⟨g1, g2, g3⟩ := st_all eI eJ hK hM.fr (ty_ag hB u2_s hn hn2 hn40 hn42 hQ hM)
  refine v_istore (L' := [(6, .int y9), (5, .int k9), (4, .int x), (3, .ref 148), (2, .ref 124), (1, .ref 0), (0, .retAddr 0)]) d_Lw_law_600 (by decide) rfl rfl ?_
  refine v_aload_n 4 d_Lw_law_602 rfl rfl rfl ?_
  refine v_cVp (as := []) d_Lw_law_603 cs_Lw_65 (c_Md_thrown hC hS (d := 9) (by omega)) (hS.o (by decide) rfl) (by decide) rfl rfl rfl (by decide) (by omega) rfl ?_
  refine v_iload 1 d_Lw_law_606 rfl rfl ?_
  refine v_icmp_eq (tgt := 613) d_Lw_law_608 (by decide) rfl (fun c3 => ?_) (fun c3 => ?_)
  · refine v_iload 1 d_Lw_law_613 rfl rfl ?_
    refine v_if_ne (tgt := 630) d_Lw_law_615 (by decide) rfl (fun c4 => ?_) (fun c4 => ?_)
    · refine v_goto (tgt := 938) d_Lw_law_630 (by decide) ?_
      refine v_sub (L' := [(4, .int x), (3, .ref 148), (2, .ref 124), (1, .ref 0), (0, .retAddr 0)]) [2, 3, 4, 5, 6] rfl ?_
      exact kk _ _ _ _ hS g3 (Nat.le_refl _) (Nat.le_refl _)
    · refine v_aload_n 3 d_Lw_law_618 rfl rfl rfl ?_
      refine v_iconst (v := 0) d_Lw_law_619 (by decide) rfl ?_
      refine v_lald (j := 0) d_Lw_law_620 (hS.a (t := 34) (n := 1) (by decide) rfl) rfl (by omega) (by decide) rfl ?_
      refine v_iload 0 d_Lw_law_621 rfl rfl ?_
      refine v_i2l d_Lw_law_623 rfl rfl ?_
      refine v_nml (fun z5 ez5 => ?_)
      refine v_lcmp d_Lw_law_624 rfl ?_
      refine v_nmi (fun z6 ez6 => ?_)
      refine v_if_eq (tgt := 630) d_Lw_law_625 (by decide) rfl (fun c7 => ?_) (fun c7 => ?_)
      · refine v_goto (tgt := 938) d_Lw_law_630 (by decide) ?_
        refine v_sub (L' := [(4, .int x), (3, .ref 148), (2, .ref 124), (1, .ref 0), (0, .retAddr 0)]) [2, 3, 4, 5, 6] rfl ?_
        exact kk _ _ _ _ hS g3 (Nat.le_refl _) (Nat.le_refl _)
      · exact absurd (by rw [ez6, ez5]; exact (lg_cmp_0 _ _).mpr (g2 c4)) c7
  · exact absurd g1 c3
set_option maxHeartbeats 4000000 in
set_option maxRecDepth 100000 in
theorem op_search {C : CT} {l : Launch} {Po : PoT} {S : ShT} {I : DI} {J : DJ} {k : Nat} {x : Int32} {u : Nat × Nat} (hC : OKC C l) (hN : cN C ≤ 2560) (hS : SHP S) (hr : REL I J I J) (ex : x = nI (5 * k)) (hk5 : 5 * k + 5 ≤ cN C) (hu : u.1 + 1 ≤ 601024 ∧ u.2 + 6 ≤ 7293034) (kk : ∀ (S' : ShT) (I' : DI) (J' : DJ) (u' : Nat × Nat), SHP S' → REL I' J' I' J' → u'.1 ≤ u.1 + 1 → u'.2 ≤ u.2 + 6 → V C l k_Lw_law (10, 601024, 7293034) Po 938 [(4, .int x), (3, .ref 148), (2, .ref 124), (1, .ref 0), (0, .retAddr 0)] [] S' I' J' u') : V C l k_Lw_law (10, 601024, 7293034) Po 633 [(4, .int x), (3, .ref 148), (2, .ref 124), (1, .ref 0), (0, .retAddr 0)] [] S I J u := by
  obtain ⟨n, hn40, hn, _, _⟩ := hr.qry
  refine v_aload_n 3 d_Lw_law_633 rfl rfl rfl ?_
  refine v_sload_n 4 d_Lw_law_634 rfl rfl rfl ?_
  refine v_iload 0 d_Lw_law_635 rfl rfl ?_
  refine v_iconst (v := 1) d_Lw_law_637 (by decide) rfl ?_
  refine v_iadd d_Lw_law_638 rfl ?_
  refine v_nmi (fun z1 ez1 => ?_)
  have nz1 : z1 = nI ((5 * k) + 1) := by rw [ez1, show x = nI (5 * k) from ex, show 1 = nI 1 from rfl]; exact nI_add _ _
  refine v_sld (j := ((5 * k) + 1)) d_Lw_law_639 nz1 (by omega) hN rfl ?_
  refine v_aload_n 1 d_Lw_law_640 rfl rfl rfl ?_
  refine v_callS (as := [.ref 0, .int (cX C ((5 * k) + 1)), .ref 148]) d_Lw_law_641 cs_Lw_96 (c_Lw_search hC hS (d := 9) hn40 hn hr.idx.2.2.1 hr.idx.1 hr.par.1 (by omega)) rfl rfl (by decide) (Nat.le_of_ble_eq_true rfl) hu rfl (fun v9 S9 I9 J9 hP9 => ?_) (fun _ _ _ _ _ hP9 => False.elim hP9)
  obtain ⟨hS, k9, r9, rfl, I1, J1, hQ, eI, eJ, hK⟩ := hP9
  have hB := st_b hr hQ.fr eI eJ
  obtain ⟨n2, hn42, _, hn2, hch⟩ := hB.qry
  refine v_istore (L' := [(5, .int k9), (4, .int x), (3, .ref 148), (2, .ref 124), (1, .ref 0), (0, .retAddr 0)]) d_Lw_law_644 (by decide) rfl rfl ?_
  refine v_aload_n 3 d_Lw_law_646 rfl rfl rfl ?_
  refine v_sload_n 5 d_Lw_law_647 rfl rfl rfl ?_
  refine v_iload 1 d_Lw_law_648 rfl rfl ?_
  refine v_iconst (v := 1) d_Lw_law_650 (by decide) rfl ?_
  refine v_iadd d_Lw_law_651 rfl ?_
  refine v_nmi (fun z2 ez2 => ?_)
  have nz2 : z2 = nI ((5 * k) + 1) := by rw [ez2, show x = nI (5 * k) from ex, show 1 = nI 1 from rfl]; exact nI_add _ _
  refine v_sld (j := ((5 * k) + 1)) d_Lw_law_652 nz2 (by omega) hN rfl ?_
  refine v_cVj (as := [.int (cX C ((5 * k) + 1))]) d_Lw_law_653 cs_Lw_98 (c_Md_search hC hS rfl (d := 9) hn42 hch hn2 hB.idx.2.2.2 hB.par.2.1 hB.par.2.2.1 hB.par.2.2.2 (by omega)) (hS.o (by decide) rfl) (by decide) rfl rfl rfl (by decide) (by omega) rfl (fun y9 I10 J10 hM => ?_)
  obtain ⟨g1, g2, g3⟩ := st_all eI eJ hK hM.fr (se_ag hB u2_s hn hn2 hn40 hn42 hQ hM)
  refine v_istore (L' := [(6, .int y9), (5, .int k9), (4, .int x), (3, .ref 148), (2, .ref 124), (1, .ref 0), (0, .retAddr 0)]) d_Lw_law_656 (by decide) rfl rfl ?_
  refine v_aload_n 4 d_Lw_law_658 rfl rfl rfl ?_
  refine v_cVp (as := []) d_Lw_law_659 cs_Lw_65 (c_Md_thrown hC hS (d := 9) (by omega)) (hS.o (by decide) rfl) (by decide) rfl rfl rfl (by decide) (by omega) rfl ?_
  refine v_iload 1 d_Lw_law_662 rfl rfl ?_
  refine v_icmp_eq (tgt := 669) d_Lw_law_664 (by decide) rfl (fun c3 => ?_) (fun c3 => ?_)
  · refine v_iload 1 d_Lw_law_669 rfl rfl ?_
    refine v_if_ne (tgt := 686) d_Lw_law_671 (by decide) rfl (fun c4 => ?_) (fun c4 => ?_)
    · refine v_goto (tgt := 938) d_Lw_law_686 (by decide) ?_
      refine v_sub (L' := [(4, .int x), (3, .ref 148), (2, .ref 124), (1, .ref 0), (0, .retAddr 0)]) [2, 3, 4, 5, 6] rfl ?_
      exact kk _ _ _ _ hS g3 (Nat.le_refl _) (Nat.le_refl _)
    · refine v_aload_n 3 d_Lw_law_674 rfl rfl rfl ?_
      refine v_iconst (v := 0) d_Lw_law_675 (by decide) rfl ?_
      refine v_lald (j := 0) d_Lw_law_676 (hS.a (t := 34) (n := 1) (by decide) rfl) rfl (by omega) (by decide) rfl ?_
      refine v_iload 0 d_Lw_law_677 rfl rfl ?_
      refine v_i2l d_Lw_law_679 rfl rfl ?_
      refine v_nml (fun z5 ez5 => ?_)
      refine v_lcmp d_Lw_law_680 rfl ?_
      refine v_nmi (fun z6 ez6 => ?_)
      refine v_if_eq (tgt := 686) d_Lw_law_681 (by decide) rfl (fun c7 => ?_) (fun c7 => ?_)
      · refine v_goto (tgt := 938) d_Lw_law_686 (by decide) ?_
        refine v_sub (L' := [(4, .int x), (3, .ref 148), (2, .ref 124), (1, .ref 0), (0, .retAddr 0)]) [2, 3, 4, 5, 6] rfl ?_
        exact kk _ _ _ _ hS g3 (Nat.le_refl _) (Nat.le_refl _)
      · exact absurd (by rw [ez6, ez5]; exact (lg_cmp_0 _ _).mpr (g2 c4)) c7
  · exact absurd g1 c3
set_option maxHeartbeats 4000000 in
set_option maxRecDepth 100000 in
theorem op_result {C : CT} {l : Launch} {Po : PoT} {S : ShT} {I : DI} {J : DJ} {k : Nat} {x : Int32} {u : Nat × Nat} (hC : OKC C l) (hN : cN C ≤ 2560) (hS : SHP S) (hr : REL I J I J) (ex : x = nI (5 * k)) (hk5 : 5 * k + 5 ≤ cN C) (hu : u.1 + 1 ≤ 601024 ∧ u.2 + 6 ≤ 7293034) (kk : ∀ (S' : ShT) (I' : DI) (J' : DJ) (u' : Nat × Nat), SHP S' → REL I' J' I' J' → u'.1 ≤ u.1 + 1 → u'.2 ≤ u.2 + 6 → V C l k_Lw_law (10, 601024, 7293034) Po 938 [(4, .int x), (3, .ref 148), (2, .ref 124), (1, .ref 0), (0, .retAddr 0)] [] S' I' J' u') : V C l k_Lw_law (10, 601024, 7293034) Po 702 [(4, .int x), (3, .ref 148), (2, .ref 124), (1, .ref 0), (0, .retAddr 0)] [] S I J u := by
  obtain ⟨q, hq16, hq, _⟩ := hr.rsl
  refine v_aload_n 3 d_Lw_law_702 rfl rfl rfl ?_
  refine v_sload_n 4 d_Lw_law_703 rfl rfl rfl ?_
  refine v_iload 0 d_Lw_law_704 rfl rfl ?_
  refine v_iconst (v := 1) d_Lw_law_706 (by decide) rfl ?_
  refine v_iadd d_Lw_law_707 rfl ?_
  refine v_nmi (fun z1 ez1 => ?_)
  have nz1 : z1 = nI ((5 * k) + 1) := by rw [ez1, show x = nI (5 * k) from ex, show 1 = nI 1 from rfl]; exact nI_add _ _
  refine v_sld (j := ((5 * k) + 1)) d_Lw_law_708 nz1 (by omega) hN rfl ?_
  refine v_sload_n 4 d_Lw_law_709 rfl rfl rfl ?_
  refine v_iload 0 d_Lw_law_710 rfl rfl ?_
  refine v_iconst (v := 2) d_Lw_law_712 (by decide) rfl ?_
  refine v_iadd d_Lw_law_713 rfl ?_
  refine v_nmi (fun z2 ez2 => ?_)
  have nz2 : z2 = nI ((5 * k) + 2) := by rw [ez2, show x = nI (5 * k) from ex, show 2 = nI 2 from rfl]; exact nI_add _ _
  refine v_sld (j := ((5 * k) + 2)) d_Lw_law_714 nz2 (by omega) hN rfl ?_
  refine v_aload_n 1 d_Lw_law_715 rfl rfl rfl ?_
  refine v_callS (as := [.ref 0, .int (cX C ((5 * k) + 1)), .int (cX C ((5 * k) + 2)), .ref 148]) d_Lw_law_716 cs_Lw_103 (c_Lw_result hC hS (d := 9) hq hq16 (by omega)) rfl rfl (by decide) (Nat.le_of_ble_eq_true rfl) hu rfl (fun v9 S9 I9 J9 hP9 => ?_) (fun _ _ _ _ _ hP9 => False.elim hP9)
  obtain ⟨hS, k9, r9, rfl, I1, J1, hQ, eI, eJ, hK⟩ := hP9
  have hB := st_b hr hQ.fr eI eJ
  obtain ⟨q2, hq26, _, hq2⟩ := hB.rsl
  refine v_istore (L' := [(5, .int k9), (4, .int x), (3, .ref 148), (2, .ref 124), (1, .ref 0), (0, .retAddr 0)]) d_Lw_law_719 (by decide) rfl rfl ?_
  refine v_aload_n 3 d_Lw_law_721 rfl rfl rfl ?_
  refine v_sload_n 5 d_Lw_law_722 rfl rfl rfl ?_
  refine v_iload 1 d_Lw_law_723 rfl rfl ?_
  refine v_iconst (v := 1) d_Lw_law_725 (by decide) rfl ?_
  refine v_iadd d_Lw_law_726 rfl ?_
  refine v_nmi (fun z3 ez3 => ?_)
  have nz3 : z3 = nI ((5 * k) + 1) := by rw [ez3, show x = nI (5 * k) from ex, show 1 = nI 1 from rfl]; exact nI_add _ _
  refine v_sld (j := ((5 * k) + 1)) d_Lw_law_727 nz3 (by omega) hN rfl ?_
  refine v_sload_n 5 d_Lw_law_728 rfl rfl rfl ?_
  refine v_iload 1 d_Lw_law_729 rfl rfl ?_
  refine v_iconst (v := 2) d_Lw_law_731 (by decide) rfl ?_
  refine v_iadd d_Lw_law_732 rfl ?_
  refine v_nmi (fun z4 ez4 => ?_)
  have nz4 : z4 = nI ((5 * k) + 2) := by rw [ez4, show x = nI (5 * k) from ex, show 2 = nI 2 from rfl]; exact nI_add _ _
  refine v_sld (j := ((5 * k) + 2)) d_Lw_law_733 nz4 (by omega) hN rfl ?_
  refine v_cVi (as := [.int (cX C ((5 * k) + 1)), .int (cX C ((5 * k) + 2))]) d_Lw_law_734 cs_Lw_105 (c_Md_result hC hS rfl (d := 9) hq2 hq26 (by omega)) (hS.o (by decide) rfl) (by decide) rfl rfl rfl (by decide) (by omega) rfl (fun y9 I10 hM => ?_)
  obtain ⟨g1, g2, g3⟩ := st_all eI eJ hK hM.fr (rs_ag hB u2_s hq hq2 hq16 hq26 hQ hM)
  refine v_istore (L' := [(6, .int y9), (5, .int k9), (4, .int x), (3, .ref 148), (2, .ref 124), (1, .ref 0), (0, .retAddr 0)]) d_Lw_law_737 (by decide) rfl rfl ?_
  refine v_aload_n 4 d_Lw_law_739 rfl rfl rfl ?_
  refine v_cVp (as := []) d_Lw_law_740 cs_Lw_65 (c_Md_thrown hC hS (d := 9) (by omega)) (hS.o (by decide) rfl) (by decide) rfl rfl rfl (by decide) (by omega) rfl ?_
  refine v_iload 1 d_Lw_law_743 rfl rfl ?_
  refine v_icmp_eq (tgt := 750) d_Lw_law_745 (by decide) rfl (fun c5 => ?_) (fun c5 => ?_)
  · refine v_iload 1 d_Lw_law_750 rfl rfl ?_
    refine v_if_ne (tgt := 767) d_Lw_law_752 (by decide) rfl (fun c6 => ?_) (fun c6 => ?_)
    · refine v_goto (tgt := 938) d_Lw_law_767 (by decide) ?_
      refine v_sub (L' := [(4, .int x), (3, .ref 148), (2, .ref 124), (1, .ref 0), (0, .retAddr 0)]) [2, 3, 4, 5, 6] rfl ?_
      exact kk _ _ _ _ hS g3 (Nat.le_refl _) (Nat.le_refl _)
    · refine v_aload_n 3 d_Lw_law_755 rfl rfl rfl ?_
      refine v_iconst (v := 0) d_Lw_law_756 (by decide) rfl ?_
      refine v_lald (j := 0) d_Lw_law_757 (hS.a (t := 34) (n := 1) (by decide) rfl) rfl (by omega) (by decide) rfl ?_
      refine v_iload 0 d_Lw_law_758 rfl rfl ?_
      refine v_i2l d_Lw_law_760 rfl rfl ?_
      refine v_nml (fun z7 ez7 => ?_)
      refine v_lcmp d_Lw_law_761 rfl ?_
      refine v_nmi (fun z8 ez8 => ?_)
      refine v_if_eq (tgt := 767) d_Lw_law_762 (by decide) rfl (fun c9 => ?_) (fun c9 => ?_)
      · refine v_goto (tgt := 938) d_Lw_law_767 (by decide) ?_
        refine v_sub (L' := [(4, .int x), (3, .ref 148), (2, .ref 124), (1, .ref 0), (0, .retAddr 0)]) [2, 3, 4, 5, 6] rfl ?_
        exact kk _ _ _ _ hS g3 (Nat.le_refl _) (Nat.le_refl _)
      · exact absurd (by rw [ez8, ez7]; exact (lg_cmp_0 _ _).mpr (g2 c6)) c9
  · exact absurd g1 c5
set_option maxHeartbeats 4000000 in
set_option maxRecDepth 100000 in
theorem op_words {C : CT} {l : Launch} {Po : PoT} {S : ShT} {I : DI} {J : DJ} {k : Nat} {x : Int32} {u : Nat × Nat} (hC : OKC C l) (hN : cN C ≤ 2560) (hS : SHP S) (hr : REL I J I J) (ex : x = nI (5 * k)) (hk5 : 5 * k + 5 ≤ cN C) (hu : u.1 + 1 ≤ 601024 ∧ u.2 + 6 ≤ 7293034) (kk : ∀ (S' : ShT) (I' : DI) (J' : DJ) (u' : Nat × Nat), SHP S' → REL I' J' I' J' → u'.1 ≤ u.1 + 1 → u'.2 ≤ u.2 + 6 → V C l k_Lw_law (10, 601024, 7293034) Po 938 [(4, .int x), (3, .ref 148), (2, .ref 124), (1, .ref 0), (0, .retAddr 0)] [] S' I' J' u') : V C l k_Lw_law (10, 601024, 7293034) Po 770 [(4, .int x), (3, .ref 148), (2, .ref 124), (1, .ref 0), (0, .retAddr 0)] [] S I J u := by
  refine v_aload_n 3 d_Lw_law_770 rfl rfl rfl ?_
  refine v_sload_n 4 d_Lw_law_771 rfl rfl rfl ?_
  refine v_iload 0 d_Lw_law_772 rfl rfl ?_
  refine v_iconst (v := 1) d_Lw_law_774 (by decide) rfl ?_
  refine v_iadd d_Lw_law_775 rfl ?_
  refine v_nmi (fun z1 ez1 => ?_)
  have nz1 : z1 = nI ((5 * k) + 1) := by rw [ez1, show x = nI (5 * k) from ex, show 1 = nI 1 from rfl]; exact nI_add _ _
  refine v_sld (j := ((5 * k) + 1)) d_Lw_law_776 nz1 (by omega) hN rfl ?_
  refine v_aload_n 1 d_Lw_law_777 rfl rfl rfl ?_
  refine v_callS (as := [.ref 0, .int (cX C ((5 * k) + 1)), .ref 148]) d_Lw_law_778 cs_Lw_106 (c_Lw_words hC hS (d := 9) hr.idx.1 (by omega)) rfl rfl (by decide) (Nat.le_of_ble_eq_true rfl) hu rfl (fun v9 S9 I9 J9 hP9 => ?_) (fun _ _ _ _ _ hP9 => False.elim hP9)
  obtain ⟨hS, k9, r9, rfl, I1, J1, hQ, eI, eJ, hK⟩ := hP9
  have hB := st_b hr hQ.fr eI eJ
  refine v_istore (L' := [(5, .int k9), (4, .int x), (3, .ref 148), (2, .ref 124), (1, .ref 0), (0, .retAddr 0)]) d_Lw_law_781 (by decide) rfl rfl ?_
  refine v_aload_n 3 d_Lw_law_783 rfl rfl rfl ?_
  refine v_sload_n 5 d_Lw_law_784 rfl rfl rfl ?_
  refine v_iload 1 d_Lw_law_785 rfl rfl ?_
  refine v_iconst (v := 1) d_Lw_law_787 (by decide) rfl ?_
  refine v_iadd d_Lw_law_788 rfl ?_
  refine v_nmi (fun z2 ez2 => ?_)
  have nz2 : z2 = nI ((5 * k) + 1) := by rw [ez2, show x = nI (5 * k) from ex, show 1 = nI 1 from rfl]; exact nI_add _ _
  refine v_sld (j := ((5 * k) + 1)) d_Lw_law_789 nz2 (by omega) hN rfl ?_
  refine v_cVi (as := [.int (cX C ((5 * k) + 1))]) d_Lw_law_790 cs_Lw_108 (c_Md_words hC hS rfl (d := 9) (by omega)) (hS.o (by decide) rfl) (by decide) rfl rfl rfl (by decide) (by omega) rfl (fun y9 I10 hM => ?_)
  obtain ⟨g1, g2, g3⟩ := st_all eI eJ hK hM.fr (wo_ag hB u2_s hQ hM)
  refine v_istore (L' := [(6, .int y9), (5, .int k9), (4, .int x), (3, .ref 148), (2, .ref 124), (1, .ref 0), (0, .retAddr 0)]) d_Lw_law_793 (by decide) rfl rfl ?_
  refine v_aload_n 4 d_Lw_law_795 rfl rfl rfl ?_
  refine v_cVp (as := []) d_Lw_law_796 cs_Lw_65 (c_Md_thrown hC hS (d := 9) (by omega)) (hS.o (by decide) rfl) (by decide) rfl rfl rfl (by decide) (by omega) rfl ?_
  refine v_iload 1 d_Lw_law_799 rfl rfl ?_
  refine v_icmp_eq (tgt := 806) d_Lw_law_801 (by decide) rfl (fun c3 => ?_) (fun c3 => ?_)
  · refine v_iload 1 d_Lw_law_806 rfl rfl ?_
    refine v_if_ne (tgt := 823) d_Lw_law_808 (by decide) rfl (fun c4 => ?_) (fun c4 => ?_)
    · refine v_goto (tgt := 938) d_Lw_law_823 (by decide) ?_
      refine v_sub (L' := [(4, .int x), (3, .ref 148), (2, .ref 124), (1, .ref 0), (0, .retAddr 0)]) [2, 3, 4, 5, 6] rfl ?_
      exact kk _ _ _ _ hS g3 (Nat.le_refl _) (Nat.le_refl _)
    · refine v_aload_n 3 d_Lw_law_811 rfl rfl rfl ?_
      refine v_iconst (v := 0) d_Lw_law_812 (by decide) rfl ?_
      refine v_lald (j := 0) d_Lw_law_813 (hS.a (t := 34) (n := 1) (by decide) rfl) rfl (by omega) (by decide) rfl ?_
      refine v_iload 0 d_Lw_law_814 rfl rfl ?_
      refine v_i2l d_Lw_law_816 rfl rfl ?_
      refine v_nml (fun z5 ez5 => ?_)
      refine v_lcmp d_Lw_law_817 rfl ?_
      refine v_nmi (fun z6 ez6 => ?_)
      refine v_if_eq (tgt := 823) d_Lw_law_818 (by decide) rfl (fun c7 => ?_) (fun c7 => ?_)
      · refine v_goto (tgt := 938) d_Lw_law_823 (by decide) ?_
        refine v_sub (L' := [(4, .int x), (3, .ref 148), (2, .ref 124), (1, .ref 0), (0, .retAddr 0)]) [2, 3, 4, 5, 6] rfl ?_
        exact kk _ _ _ _ hS g3 (Nat.le_refl _) (Nat.le_refl _)
      · exact absurd (by rw [ez6, ez5]; exact (lg_cmp_0 _ _).mpr (g2 c4)) c7
  · exact absurd g1 c3
set_option maxHeartbeats 4000000 in
set_option maxRecDepth 100000 in
theorem op_event {C : CT} {l : Launch} {Po : PoT} {S : ShT} {I : DI} {J : DJ} {k : Nat} {x : Int32} {u : Nat × Nat} (hC : OKC C l) (hN : cN C ≤ 2560) (hS : SHP S) (hr : REL I J I J) (ex : x = nI (5 * k)) (hk5 : 5 * k + 5 ≤ cN C) (hu : u.1 + 1 ≤ 601024 ∧ u.2 + 6 ≤ 7293034) (kk : ∀ (S' : ShT) (I' : DI) (J' : DJ) (u' : Nat × Nat), SHP S' → REL I' J' I' J' → u'.1 ≤ u.1 + 1 → u'.2 ≤ u.2 + 6 → V C l k_Lw_law (10, 601024, 7293034) Po 938 [(4, .int x), (3, .ref 148), (2, .ref 124), (1, .ref 0), (0, .retAddr 0)] [] S' I' J' u') : V C l k_Lw_law (10, 601024, 7293034) Po 826 [(4, .int x), (3, .ref 148), (2, .ref 124), (1, .ref 0), (0, .retAddr 0)] [] S I J u := by
  obtain ⟨⟨m, hm, h2, _, hq1, _⟩, hlo, _⟩ := hr.hyC
  refine v_aload_n 3 d_Lw_law_826 rfl rfl rfl ?_
  refine v_sload_n 4 d_Lw_law_827 rfl rfl rfl ?_
  refine v_iload 0 d_Lw_law_828 rfl rfl ?_
  refine v_iconst (v := 1) d_Lw_law_830 (by decide) rfl ?_
  refine v_iadd d_Lw_law_831 rfl ?_
  refine v_nmi (fun z1 ez1 => ?_)
  have nz1 : z1 = nI ((5 * k) + 1) := by rw [ez1, show x = nI (5 * k) from ex, show 1 = nI 1 from rfl]; exact nI_add _ _
  refine v_sld (j := ((5 * k) + 1)) d_Lw_law_832 nz1 (by omega) hN rfl ?_
  refine v_aload_n 1 d_Lw_law_833 rfl rfl rfl ?_
  refine v_callS (as := [.ref 0, .int (cX C ((5 * k) + 1)), .ref 148]) d_Lw_law_834 cs_Lw_109 (c_Lw_event hC hS (d := 9) hm h2 (by omega)) rfl rfl (by decide) (Nat.le_of_ble_eq_true rfl) hu rfl (fun v9 S9 I9 J9 hP9 => ?_) (fun _ _ _ _ _ hP9 => False.elim hP9)
  obtain ⟨hS, k9, r9, rfl, I1, J1, hQ, eI, eJ, hK⟩ := hP9
  have hB := st_b hr hQ.fr eI eJ
  obtain ⟨⟨m2, hm2, _, h29, _, hq2⟩, _, hlo2⟩ := hB.hyC
  refine v_istore (L' := [(5, .int k9), (4, .int x), (3, .ref 148), (2, .ref 124), (1, .ref 0), (0, .retAddr 0)]) d_Lw_law_837 (by decide) rfl rfl ?_
  refine v_aload_n 3 d_Lw_law_839 rfl rfl rfl ?_
  refine v_sload_n 5 d_Lw_law_840 rfl rfl rfl ?_
  refine v_iload 1 d_Lw_law_841 rfl rfl ?_
  refine v_iconst (v := 1) d_Lw_law_843 (by decide) rfl ?_
  refine v_iadd d_Lw_law_844 rfl ?_
  refine v_nmi (fun z2 ez2 => ?_)
  have nz2 : z2 = nI ((5 * k) + 1) := by rw [ez2, show x = nI (5 * k) from ex, show 1 = nI 1 from rfl]; exact nI_add _ _
  refine v_sld (j := ((5 * k) + 1)) d_Lw_law_845 nz2 (by omega) hN rfl ?_
  refine v_cVi (as := [.int (cX C ((5 * k) + 1))]) d_Lw_law_846 cs_Lw_111 (c_Md_event hC hS rfl (d := 9) hm2 h29 (by omega)) (hS.o (by decide) rfl) (by decide) rfl rfl rfl (by decide) (by omega) rfl (fun y9 I10 hM => ?_)
  obtain ⟨g1, g2, g3⟩ := st_all eI eJ hK hM.fr (ev_ag hB u2_s h2 h29 hm hm2 hQ hM)
  refine v_istore (L' := [(6, .int y9), (5, .int k9), (4, .int x), (3, .ref 148), (2, .ref 124), (1, .ref 0), (0, .retAddr 0)]) d_Lw_law_849 (by decide) rfl rfl ?_
  refine v_aload_n 4 d_Lw_law_851 rfl rfl rfl ?_
  refine v_cVp (as := []) d_Lw_law_852 cs_Lw_65 (c_Md_thrown hC hS (d := 9) (by omega)) (hS.o (by decide) rfl) (by decide) rfl rfl rfl (by decide) (by omega) rfl ?_
  refine v_iload 1 d_Lw_law_855 rfl rfl ?_
  refine v_icmp_eq (tgt := 862) d_Lw_law_857 (by decide) rfl (fun c3 => ?_) (fun c3 => ?_)
  · refine v_iload 1 d_Lw_law_862 rfl rfl ?_
    refine v_if_ne (tgt := 879) d_Lw_law_864 (by decide) rfl (fun c4 => ?_) (fun c4 => ?_)
    · refine v_goto (tgt := 938) d_Lw_law_879 (by decide) ?_
      refine v_sub (L' := [(4, .int x), (3, .ref 148), (2, .ref 124), (1, .ref 0), (0, .retAddr 0)]) [2, 3, 4, 5, 6] rfl ?_
      exact kk _ _ _ _ hS g3 (Nat.le_refl _) (Nat.le_refl _)
    · refine v_aload_n 3 d_Lw_law_867 rfl rfl rfl ?_
      refine v_iconst (v := 0) d_Lw_law_868 (by decide) rfl ?_
      refine v_lald (j := 0) d_Lw_law_869 (hS.a (t := 34) (n := 1) (by decide) rfl) rfl (by omega) (by decide) rfl ?_
      refine v_iload 0 d_Lw_law_870 rfl rfl ?_
      refine v_i2l d_Lw_law_872 rfl rfl ?_
      refine v_nml (fun z5 ez5 => ?_)
      refine v_lcmp d_Lw_law_873 rfl ?_
      refine v_nmi (fun z6 ez6 => ?_)
      refine v_if_eq (tgt := 879) d_Lw_law_874 (by decide) rfl (fun c7 => ?_) (fun c7 => ?_)
      · refine v_goto (tgt := 938) d_Lw_law_879 (by decide) ?_
        refine v_sub (L' := [(4, .int x), (3, .ref 148), (2, .ref 124), (1, .ref 0), (0, .retAddr 0)]) [2, 3, 4, 5, 6] rfl ?_
        exact kk _ _ _ _ hS g3 (Nat.le_refl _) (Nat.le_refl _)
      · exact absurd (by rw [ez6, ez5]; exact (lg_cmp_0 _ _).mpr (g2 c4)) c7
  · exact absurd g1 c3
set_option maxHeartbeats 4000000 in
set_option maxRecDepth 100000 in
theorem op_count {C : CT} {l : Launch} {Po : PoT} {S : ShT} {I : DI} {J : DJ} {k : Nat} {x : Int32} {u : Nat × Nat} (hC : OKC C l) (hN : cN C ≤ 2560) (hS : SHP S) (hr : REL I J I J) (ex : x = nI (5 * k)) (hk5 : 5 * k + 5 ≤ cN C) (hu : u.1 + 1 ≤ 601024 ∧ u.2 + 6 ≤ 7293034) (kk : ∀ (S' : ShT) (I' : DI) (J' : DJ) (u' : Nat × Nat), SHP S' → REL I' J' I' J' → u'.1 ≤ u.1 + 1 → u'.2 ≤ u.2 + 6 → V C l k_Lw_law (10, 601024, 7293034) Po 938 [(4, .int x), (3, .ref 148), (2, .ref 124), (1, .ref 0), (0, .retAddr 0)] [] S' I' J' u') : V C l k_Lw_law (10, 601024, 7293034) Po 882 [(4, .int x), (3, .ref 148), (2, .ref 124), (1, .ref 0), (0, .retAddr 0)] [] S I J u := by
  obtain ⟨⟨m, hm, h2, _, hq1, _⟩, hlo, _⟩ := hr.hyC
  refine v_aload_n 3 d_Lw_law_882 rfl rfl rfl ?_
  refine v_sload_n 4 d_Lw_law_883 rfl rfl rfl ?_
  refine v_iload 0 d_Lw_law_884 rfl rfl ?_
  refine v_iconst (v := 1) d_Lw_law_886 (by decide) rfl ?_
  refine v_iadd d_Lw_law_887 rfl ?_
  refine v_nmi (fun z1 ez1 => ?_)
  have nz1 : z1 = nI ((5 * k) + 1) := by rw [ez1, show x = nI (5 * k) from ex, show 1 = nI 1 from rfl]; exact nI_add _ _
  refine v_sld (j := ((5 * k) + 1)) d_Lw_law_888 nz1 (by omega) hN rfl ?_
  refine v_aload_n 1 d_Lw_law_889 rfl rfl rfl ?_
  refine v_callS (as := [.ref 0, .int (cX C ((5 * k) + 1)), .ref 148]) d_Lw_law_890 cs_Lw_112 (c_Lw_count hC hS (d := 9) hr.idx.1 hlo (by omega)) rfl rfl (by decide) (Nat.le_of_ble_eq_true rfl) hu rfl (fun v9 S9 I9 J9 hP9 => ?_) (fun _ _ _ _ _ hP9 => False.elim hP9)
  obtain ⟨hS, k9, r9, rfl, I1, J1, hQ, eI, eJ, hK⟩ := hP9
  have hB := st_b hr hQ.fr eI eJ
  refine v_istore (L' := [(5, .int k9), (4, .int x), (3, .ref 148), (2, .ref 124), (1, .ref 0), (0, .retAddr 0)]) d_Lw_law_893 (by decide) rfl rfl ?_
  refine v_aload_n 3 d_Lw_law_895 rfl rfl rfl ?_
  refine v_sload_n 5 d_Lw_law_896 rfl rfl rfl ?_
  refine v_iload 1 d_Lw_law_897 rfl rfl ?_
  refine v_iconst (v := 1) d_Lw_law_899 (by decide) rfl ?_
  refine v_iadd d_Lw_law_900 rfl ?_
  refine v_nmi (fun z2 ez2 => ?_)
  have nz2 : z2 = nI ((5 * k) + 1) := by rw [ez2, show x = nI (5 * k) from ex, show 1 = nI 1 from rfl]; exact nI_add _ _
  refine v_sld (j := ((5 * k) + 1)) d_Lw_law_901 nz2 (by omega) hN rfl ?_
  refine v_cVi (as := [.int (cX C ((5 * k) + 1))]) d_Lw_law_902 cs_Lw_114 (c_Md_count hC hS rfl (d := 9) (by omega)) (hS.o (by decide) rfl) (by decide) rfl rfl rfl (by decide) (by omega) rfl (fun y9 I10 hM => ?_)
  obtain ⟨g1, g2, g3⟩ := st_all eI eJ hK hM.fr (cn_ag hB u2_s hQ hM)
  refine v_istore (L' := [(6, .int y9), (5, .int k9), (4, .int x), (3, .ref 148), (2, .ref 124), (1, .ref 0), (0, .retAddr 0)]) d_Lw_law_905 (by decide) rfl rfl ?_
  refine v_aload_n 4 d_Lw_law_907 rfl rfl rfl ?_
  refine v_cVp (as := []) d_Lw_law_908 cs_Lw_65 (c_Md_thrown hC hS (d := 9) (by omega)) (hS.o (by decide) rfl) (by decide) rfl rfl rfl (by decide) (by omega) rfl ?_
  refine v_iload 1 d_Lw_law_911 rfl rfl ?_
  refine v_icmp_eq (tgt := 918) d_Lw_law_913 (by decide) rfl (fun c3 => ?_) (fun c3 => ?_)
  · refine v_iload 1 d_Lw_law_918 rfl rfl ?_
    refine v_if_ne (tgt := 935) d_Lw_law_920 (by decide) rfl (fun c4 => ?_) (fun c4 => ?_)
    · refine v_goto (tgt := 938) d_Lw_law_935 (by decide) ?_
      refine v_sub (L' := [(4, .int x), (3, .ref 148), (2, .ref 124), (1, .ref 0), (0, .retAddr 0)]) [2, 3, 4, 5, 6] rfl ?_
      exact kk _ _ _ _ hS g3 (Nat.le_refl _) (Nat.le_refl _)
    · refine v_aload_n 3 d_Lw_law_923 rfl rfl rfl ?_
      refine v_iconst (v := 0) d_Lw_law_924 (by decide) rfl ?_
      refine v_lald (j := 0) d_Lw_law_925 (hS.a (t := 34) (n := 1) (by decide) rfl) rfl (by omega) (by decide) rfl ?_
      refine v_iload 0 d_Lw_law_926 rfl rfl ?_
      refine v_i2l d_Lw_law_928 rfl rfl ?_
      refine v_nml (fun z5 ez5 => ?_)
      refine v_lcmp d_Lw_law_929 rfl ?_
      refine v_nmi (fun z6 ez6 => ?_)
      refine v_if_eq (tgt := 935) d_Lw_law_930 (by decide) rfl (fun c7 => ?_) (fun c7 => ?_)
      · refine v_goto (tgt := 938) d_Lw_law_935 (by decide) ?_
        refine v_sub (L' := [(4, .int x), (3, .ref 148), (2, .ref 124), (1, .ref 0), (0, .retAddr 0)]) [2, 3, 4, 5, 6] rfl ?_
        exact kk _ _ _ _ hS g3 (Nat.le_refl _) (Nat.le_refl _)
      · exact absurd (by rw [ez6, ez5]; exact (lg_cmp_0 _ _).mpr (g2 c4)) c7
  · exact absurd g1 c3
set_option maxHeartbeats 4000000 in
set_option maxRecDepth 100000 in
theorem op_rescan {C : CT} {l : Launch} {Po : PoT} {S : ShT} {I : DI} {J : DJ} {k : Nat} {x : Int32} {u : Nat × Nat} (hC : OKC C l) (hN : cN C ≤ 2560) (hS : SHP S) (hr : REL I J I J) (ex : x = nI (5 * k)) (hk5 : 5 * k + 5 ≤ cN C) (hu : u.1 + 1 ≤ 601024 ∧ u.2 + 6 ≤ 7293034) (kk : ∀ (S' : ShT) (I' : DI) (J' : DJ) (u' : Nat × Nat), SHP S' → REL I' J' I' J' → u'.1 ≤ u.1 + 1 → u'.2 ≤ u.2 + 6 → V C l k_Lw_law (10, 601024, 7293034) Po 938 [(4, .int x), (3, .ref 148), (2, .ref 124), (1, .ref 0), (0, .retAddr 0)] [] S' I' J' u') : V C l k_Lw_law (10, 601024, 7293034) Po 564 [(4, .int x), (3, .ref 148), (2, .ref 124), (1, .ref 0), (0, .retAddr 0)] [] S I J u := by
  have hB : REL I J (u2 I 124 0 0) J := st_b hr FrC.rf (fun _ _ => rfl) (fun _ _ => rfl)
  refine v_aload_n 3 d_Lw_law_564 rfl rfl rfl ?_
  refine v_cVj (as := []) d_Lw_law_565 cs_Lw_89 (c_Fi_rescan hC hS (d := 9) hr.len.1 (by omega)) (hS.o (by decide) rfl) (by decide) rfl rfl rfl (by decide) (by omega) rfl (fun y8 I9 J9 hQ => ?_)
  have hB := st_b hr hQ.fr (fun _ _ => rfl) (fun _ _ => rfl)
  refine v_aload_n 2 d_Lw_law_568 rfl rfl rfl ?_
  refine v_cVj (as := []) d_Lw_law_569 cs_Lw_92 (c_Md_rescan hC hS rfl (d := 9) hB.len.2 (by omega)) (hS.o (by decide) rfl) (by decide) rfl rfl rfl (by simp [Value.category]) (by omega) rfl (fun y9 I10 J10 hM => ?_)
  obtain ⟨g1, g3⟩ := st_rescan hr hQ hM
  refine v_icmp_eq (tgt := 938) d_Lw_law_572 (by decide) rfl (fun c1 => ?_) (fun c1 => ?_)
  · exact kk _ _ _ _ hS g3 (Nat.le_add_right _ _) (Nat.le_add_right _ _)
  · exact absurd g1 c1
set_option maxHeartbeats 4000000 in
set_option maxRecDepth 100000 in
theorem op_fault {C : CT} {l : Launch} {Po : PoT} {S : ShT} {I : DI} {J : DJ} {k : Nat} {x : Int32} {u : Nat × Nat} (hC : OKC C l) (hN : cN C ≤ 2560) (hS : SHP S) (hr : REL I J I J) (ex : x = nI (5 * k)) (hk5 : 5 * k + 5 ≤ cN C) (hu : u.1 + 1 ≤ 601024 ∧ u.2 + 6 ≤ 7293034) (kk : ∀ (S' : ShT) (I' : DI) (J' : DJ) (u' : Nat × Nat), SHP S' → REL I' J' I' J' → u'.1 ≤ u.1 + 1 → u'.2 ≤ u.2 + 6 → V C l k_Lw_law (10, 601024, 7293034) Po 938 [(4, .int x), (3, .ref 148), (2, .ref 124), (1, .ref 0), (0, .retAddr 0)] [] S' I' J' u') : V C l k_Lw_law (10, 601024, 7293034) Po 689 [(4, .int x), (3, .ref 148), (2, .ref 124), (1, .ref 0), (0, .retAddr 0)] [] S I J u := by
  refine v_aload_n 3 d_Lw_law_689 rfl rfl rfl ?_
  refine v_cVp (as := []) d_Lw_law_690 cs_Lw_99 (c_Fi_fault hC hS (d := 9) (by omega)) (hS.o (by decide) rfl) (by decide) rfl rfl rfl (by decide) (by omega) rfl ?_
  refine v_aload_n 2 d_Lw_law_693 rfl rfl rfl ?_
  refine v_cVi (as := []) d_Lw_law_694 cs_Lw_102 (c_Md_fault hC hS rfl (d := 9) (by omega)) (hS.o (by decide) rfl) (by decide) rfl rfl rfl (by simp [Value.category]) (by omega) rfl (fun y9 I10 hM => ?_)
  obtain ⟨hM1, rfl⟩ := hM
  obtain ⟨g1, g3⟩ := st_fault hr
  refine v_icmp_eq (tgt := 938) d_Lw_law_697 (by decide) rfl (fun c1 => ?_) (fun c1 => ?_)
  · exact kk _ _ _ _ hS g3 (Nat.le_add_right _ _) (Nat.le_add_right _ _)
  · exact absurd (by rw [hM1, u2_n (Or.inr (by decide))]; exact g1) c1
