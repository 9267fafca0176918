/-! ===== the face, 4: search ===== -/
theorem paF_eq {of of' : Nat → Bool} {w w' : Nat → Int32} {un un' : Nat → Bool} : ∀ k i z, (∀ j, i ≤ j → j < i + k → of j = of' j ∧ w j = w' j ∧ un j = un' j) → paF of w un k i z = paF of' w' un' k i z
  | 0, _, _, _ => rfl
  | k + 1, i, z, h => by
    obtain ⟨h1, h2, h3⟩ := h i (Nat.le_refl _) (by omega)
    rw [paF_s, paF_s, h1, h2, h3, paF_eq k (i + 1) (z + w' i) (fun j a b => h j (by omega) (by omega)), paF_eq k (i + 1) z (fun j a b => h j (by omega) (by omega))]
theorem scF_eq {p p' : Nat → Int32} (h : ∀ j, p j = p' j) : ∀ k i z, scF p k i z = scF p' k i z := by
  intro k i z
  rw [show p = p' from funext h]
theorem sco_eq {I I0 : DI} {J : DJ} {e m k g : Nat} {sz : Nat → Nat} (hk : k ≤ 21) (he : e < 16) (h : ∀ b, b < 121 → I b = I0 b) : sco I J e m k g sz = sco I0 J e m k g sz := by
  unfold sco
  refine scF_eq (fun y => ?_) _ _ _
  unfold prt
  refine paF_eq _ _ _ (fun j _ hj => ⟨?_, ?_, ?_⟩)
  · unfold tO; rw [h _ (by omega)]
  · unfold tW wgt; rw [h _ (by omega)]
  · unfold tU; rw [h _ (by omega)]
theorem isSr_eq {I I0 : DI} {x f : Int32} (h2 : I 2 = I0 2) (h3 : I 3 = I0 3) : isSr I x f = isSr I0 x f := by
  unfold isSr ndS
  rw [h2, h3]
def SeC (I0 : DI) (J : DJ) (a : Int32) (k g : Nat) (sz : Nat → Nat) : Nat → Nat → DI → Prop
  | 0, q, I => q = 0 ∧ I = I0
  | t + 1, q, I => ∃ q0 I1, SeC I0 J a k g sz t q0 I1 ∧ (
      ((I0 27 (t + 1) = 1 ∧ isSr I0 (nI (t + 1)) a = true) ∧ ∃ m, m ≤ 30 ∧ I0 (28 + 3 * (t + 1)) 2 = nI m ∧ Rk1 I1 q0 (nI (t + 1)) (sco I0 J (t + 1) m k g sz) I ∧ q = if sco I0 J (t + 1) m k g sz = -1 then q0 else q0 + 1) ∨
      ((¬ I0 27 (t + 1) = 1 ∨ isSr I0 (nI (t + 1)) a = false) ∧ I = I1 ∧ q = q0))
theorem SeC.inv {I0 : DI} {J : DJ} {a : Int32} {k g : Nat} {sz : Nat → Nat} (h0 : I0 121 2 = nI 0) : ∀ (t q : Nat) (I : DI), SeC I0 J a k g sz t q I → q ≤ t ∧ I 121 2 = nI q ∧ ∀ b, b ≠ 121 → b ≠ 122 → b ≠ 123 → I b = I0 b := by
  intro t
  induction t with
  | zero => rintro q I ⟨rfl, rfl⟩; exact ⟨Nat.le_refl _, h0, fun _ _ _ _ => rfl⟩
  | succ t ih =>
    rintro q I ⟨q0, I1, h1, h2⟩
    obtain ⟨g1, g2, g3⟩ := ih q0 I1 h1
    rcases h2 with ⟨_, m, _, _, hr, hq⟩ | ⟨_, rfl, rfl⟩
    · rcases hr with ⟨r1, r2⟩ | ⟨r1, r2, r3, r4, r5⟩
      · rw [if_pos r1] at hq; rw [hq, r2]; exact ⟨by omega, g2, g3⟩
      · rw [if_neg r1] at hq; rw [hq]; exact ⟨by omega, r4, fun b b1 b2 b3 => by rw [r5 b b1 b2 b3, g3 b b1 b2 b3]⟩
    · exact ⟨by omega, g2, g3⟩
def SeQ (I : DI) (J : DJ) (n : Nat) (a : Int32) (r : Int32 ⊕ Nat) (I' : DI) (J' : DJ) : Prop :=
  (¬ ndS I a = 1 ∧ r = .inr 11 ∧ I' = I ∧ J' = J) ∨
  (ndS I a = 1 ∧ ∃ x I1, PsQ (u2 I 121 2 0) J n x I1 J' ∧ (
    (¬ x = -1 ∧ r = .inr 9 ∧ I' = u2 (u2 I1 0 5 x) 76 1 0) ∨
    (x = -1 ∧ ∃ ts g q, prsF (I 77) n 41 0 [] 0 = .inr (ts, g) ∧ SeC (u2 (u2 I1 0 5 (-1)) 76 1 0) J' a ts.length g (szT ts) 15 q I' ∧ r = .inl (nI q))))
set_option maxHeartbeats 4000000 in
set_option maxRecDepth 100000 in
theorem lp_Fi_search {C : CT} {l : Launch} {S : ShT} {d : Nat} (hC : OKC C l) (hS : SHP S) (hd : 6 ≤ d) {II I1 I0 : DI} {JJ J : DJ} {a : Int32} {n g : Nat} {ts : List TT} (hnd : ndS II a = 1) (hps : PsQ (u2 II 121 2 0) JJ n (-1) I1 J) (hpr : prsF (II 77) n 41 0 [] 0 = .inr (ts, g)) (hI0 : I0 = u2 (u2 I1 0 5 (-1)) 76 1 0) (hk : ts.length ≤ 21) (hg : g ≤ 100) (h3 : I0 76 3 = nI ts.length) (h4 : I0 76 4 = nI g) (hT : TmO I0 ts.length (szT ts)) (hE : ∀ e, e < 16 → ∃ m, m ≤ 30 ∧ I0 (28 + 3 * e) 2 = nI m) (hb : ∀ i, i < 16 → I0 27 i = 0 ∨ I0 27 i = 1) (hP : ∀ i, i < 16 → ∃ j, j < 16 ∧ I0 3 i = nI j) (h0 : I0 121 2 = nI 0) : ∀ (n0 : Nat) (t q : Nat) (I : DI) (x : Int32), x = nI (t + 1) → t ≤ 15 → 15 < t + n0 → SeC I0 J a ts.length g (szT ts) t q I → V C l k_Fi_search (d, 1, 6) (FP S (SeQ II JJ n a)) 62 [(2, .int x), (0, .ref 0), (1, .int a)] [] S I J (0, 0) := by
  intro n0
  induction n0 with
  | zero =>
    intro t q I x ex ht0 hf hw
    omega
  | succ n0 ih =>
    intro t q I x ex ht0 hf hw
    obtain ⟨hqt, hq2, hfr⟩ := SeC.inv h0 t q I hw
    have f27 : I 27 = I0 27 := hfr 27 (by decide) (by decide) (by decide)
    have f2 : I 2 = I0 2 := hfr 2 (by decide) (by decide) (by decide)
    have f3 : I 3 = I0 3 := hfr 3 (by decide) (by decide) (by decide)
    have f76 : I 76 = I0 76 := hfr 76 (by decide) (by decide) (by decide)
    refine v_iload_n 0 d_Fi_search_62 rfl rfl rfl ?_
    refine v_bipush (v := 16) d_Fi_search_63 (by decide) rfl ?_
    refine v_icmp_ge (tgt := 99) d_Fi_search_65 (by decide) rfl (fun c1 => ?_) (fun c1 => ?_)
    · refine v_aload_n 1 d_Fi_search_99 rfl rfl rfl ?_
      refine v_getr (r := 121) d_Fi_search_100 fl_Fi_40 (hS.o (by decide) rfl) rfl (hS.r (by decide) rfl) rfl ?_
      refine v_cVp (as := []) d_Fi_search_103 cs_Fi_174 (c_Rk_size hC hS (d := d - 1) (by omega)) (hS.o (by decide) rfl) (by decide) rfl rfl rfl (by decide) (by omega) rfl ?_
      refine v_iret d_Fi_search_106 rfl ?_
      have ht15 : 16 ≤ t + 1 := by rcases Nat.lt_or_ge (t + 1) (16) with h9 | h9; exact absurd c1 (by rw [ex]; exact nI_ge (b := 16) h9 (by omega)); exact h9
      have htw2 : t = 15 := by omega
      subst htw2
      exact ⟨rfl, _, rfl, Or.inr ⟨hnd, -1, I1, hps, Or.inr ⟨rfl, ts, g, q, hpr, hI0 ▸ hw, congrArg Sum.inl hq2⟩⟩⟩
    · have ht15 : t + 1 < 16 := by rcases Nat.lt_or_ge (t + 1) (16) with h9 | h9; exact h9; exact absurd (by rw [ex]; exact nI_le (a := 16) h9 (by omega)) c1
      obtain ⟨m, hm3, hmE⟩ := hE (t + 1) ht15
      refine v_aload_n 1 d_Fi_search_68 rfl rfl rfl ?_
      refine v_getr (r := 25) d_Fi_search_69 fl_Fi_26 (hS.o (by decide) rfl) rfl (hS.r (by decide) rfl) rfl ?_
      refine v_iload_n 0 d_Fi_search_72 rfl rfl rfl ?_
      refine v_cVp (as := [.int x]) d_Fi_search_73 cs_Fi_165 (by rw [ex]; exact c_Ix_has hC hS (d := d - 1) (by rw [f27]; exact hb) (nI (t + 1)) (by omega)) (hS.o (by decide) rfl) (by decide) rfl rfl rfl (by decide) (by omega) rfl ?_
      rw [ixH_j ht15, f27]
      refine v_if_eq (tgt := 93) d_Fi_search_76 (by decide) rfl (fun c2 => ?_) (fun c2 => ?_)
      · obtain ⟨x3, ex3⟩ : ∃ y : Int32, y = x + 1 := ⟨_, rfl⟩
        have nx3 : x3 = nI ((t + 1) + 1) := by rw [ex3, show x = nI (t + 1) from ex]; exact nI_1 _
        refine v_iinc (n := 0) (v := x3) (L' := [(2, .int x3), (0, .ref 0), (1, .int a)]) d_Fi_search_93 rfl (by rw [ex3]; rfl) (by decide) rfl rfl ?_
        refine v_goto (tgt := 62) d_Fi_search_96 (by decide) ?_
        exact ih (t + 1) q _ _ nx3 (by omega) (by omega) ⟨q, I, hw, Or.inr ⟨Or.inl (bd_f c2), rfl, rfl⟩⟩
      · refine v_aload_n 1 d_Fi_search_79 rfl rfl rfl ?_
        refine v_iload_n 0 d_Fi_search_80 rfl rfl rfl ?_
        refine v_iload_n 2 d_Fi_search_81 rfl rfl rfl ?_
        refine v_cVp (as := [.int x, .int a]) d_Fi_search_82 cs_Fi_168 (by rw [ex]; exact c_Fi_isSearched hC hS (d := d - 1) (by rw [f3]; exact hP) (nI (t + 1)) a (by omega)) (hS.o (by decide) rfl) (by decide) rfl rfl rfl (by decide) (by omega) rfl ?_
        rw [isSr_eq f2 f3]
        refine v_if_eq (tgt := 93) d_Fi_search_85 (by decide) rfl (fun c4 => ?_) (fun c4 => ?_)
        · obtain ⟨x5, ex5⟩ : ∃ y : Int32, y = x + 1 := ⟨_, rfl⟩
          have nx5 : x5 = nI ((t + 1) + 1) := by rw [ex5, show x = nI (t + 1) from ex]; exact nI_1 _
          refine v_iinc (n := 0) (v := x5) (L' := [(2, .int x5), (0, .ref 0), (1, .int a)]) d_Fi_search_93 rfl (by rw [ex5]; rfl) (by decide) rfl rfl ?_
          refine v_goto (tgt := 62) d_Fi_search_96 (by decide) ?_
          exact ih (t + 1) q _ _ nx5 (by omega) (by omega) ⟨q, I, hw, Or.inr ⟨Or.inr (bI_f c4), rfl, rfl⟩⟩
        · refine v_aload_n 1 d_Fi_search_88 rfl rfl rfl ?_
          refine v_iload_n 0 d_Fi_search_89 rfl rfl rfl ?_
          refine v_cVu (as := [.int x]) d_Fi_search_90 cs_Fi_171 (c_Fi_rank hC hS (d := d - 1) (j := t + 1) (m := m) (k := ts.length) (g := g) (q := q) (sz := szT ts) ht15 ex hm3 hk hg (by rw [f76]; exact h3) (by rw [f76]; exact h4) (by rw [hfr _ (by omega) (by omega) (by omega)]; exact hmE) (fun i hi => by rw [hfr _ (by omega) (by omega) (by omega)]; exact hT i hi) (by omega) hq2 (by omega)) (hS.o (by decide) rfl) (by decide) rfl rfl rfl (by decide) (by omega) rfl (fun I9 hrk => ?_)
          obtain ⟨x6, ex6⟩ : ∃ y : Int32, y = x + 1 := ⟨_, rfl⟩
          have nx6 : x6 = nI ((t + 1) + 1) := by rw [ex6, show x = nI (t + 1) from ex]; exact nI_1 _
          refine v_iinc (n := 0) (v := x6) (L' := [(2, .int x6), (0, .ref 0), (1, .int a)]) d_Fi_search_93 rfl (by rw [ex6]; rfl) (by decide) rfl rfl ?_
          refine v_goto (tgt := 62) d_Fi_search_96 (by decide) ?_
          rw [sco_eq hk (by omega) (fun b hb9 => hfr b (by omega) (by omega) (by omega)), ex] at hrk
          exact ih (t + 1) _ _ _ nx6 (by omega) (by omega) ⟨q, I, hw, Or.inl ⟨⟨bd_t c2, bI_t c4⟩, m, hm3, hmE, hrk, rfl⟩⟩
set_option maxHeartbeats 4000000 in
set_option maxRecDepth 100000 in
theorem c_Fi_search {C : CT} {l : Launch} {S : ShT} {I : DI} {J : DJ} {d : Nat} (hC : OKC C l) (hS : SHP S) {n : Nat} {a : Int32} (hn40 : n ≤ 40) (hn : I 76 1 = nI n) (hE : ∀ e, e < 16 → ∃ m, m ≤ 30 ∧ I (28 + 3 * e) 2 = nI m) (hb : ∀ i, i < 16 → I 27 i = 0 ∨ I 27 i = 1) (hP : ∀ i, i < 16 → ∃ j, j < 16 ∧ I 3 i = nI j) (hd : 6 ≤ d) : Sp C l k_Fi_search y_Fi_search (d, 1, 6) [.ref 0, .int a] S I J (FP S (SeQ I J n a)) := by
  refine Sp.of hC cd_Fi_search (Nat.le_of_ble_eq_true rfl) ?_
  show V C l k_Fi_search (d, 1, 6) _ 0 [(0, .ref 0), (1, .int a)] [] S I J (0, 0)
  refine v_aload_n 0 d_Fi_search_0 rfl rfl rfl ?_
  refine v_getr (r := 1) d_Fi_search_1 fl_Fi_10 (hS.o (by decide) rfl) rfl (hS.r (by decide) rfl) rfl ?_
  refine v_iload_n 1 d_Fi_search_4 rfl rfl rfl ?_
  refine v_cVp (as := [.int a]) d_Fi_search_5 cs_Fi_61 (c_Tr_isFolder hC hS (d := d - 1) a (by omega)) (hS.o (by decide) rfl) (by decide) rfl rfl rfl (by decide) (by omega) rfl ?_
  refine v_if_ne (tgt := 19) d_Fi_search_8 (by decide) rfl (fun c1 => ?_) (fun c1 => ?_)
  · refine v_aload_n 0 d_Fi_search_19 rfl rfl rfl ?_
    refine v_getr (r := 121) d_Fi_search_20 fl_Fi_40 (hS.o (by decide) rfl) rfl (hS.r (by decide) rfl) rfl ?_
    refine v_cVu (as := []) d_Fi_search_23 cs_Fi_156 (c_Rk_clear hC hS (d := d - 1) (by omega)) (hS.o (by decide) rfl) (by decide) rfl rfl rfl (by decide) (by omega) rfl (fun I5 h5 => ?_)
    refine v_aload_n 0 d_Fi_search_26 rfl rfl rfl ?_
    refine v_aload_n 0 d_Fi_search_27 rfl rfl rfl ?_
    refine v_getr (r := 76) d_Fi_search_28 fl_Fi_33 (hS.o (by decide) rfl) rfl (hS.r (by decide) rfl) rfl ?_
    refine v_cVj (as := []) d_Fi_search_31 cs_Fi_159 (c_Qy_parse hC hS (d := d - 1) (n := n) hn40 (by rw [h5, u2_o (by decide)]; exact hn) (by omega)) (hS.o (by decide) rfl) (by decide) rfl rfl rfl (by simp [Value.category]) (by omega) rfl (fun xp I6 J6 hp => ?_)
    refine v_puti d_Fi_search_34 fl_Fi_44 (hS.o (by decide) rfl) rfl rfl rfl ?_
    generalize hI2 : u2 I6 0 5 xp = I2
    refine v_aload_n 0 d_Fi_search_37 rfl rfl rfl ?_
    refine v_getr (r := 76) d_Fi_search_38 fl_Fi_33 (hS.o (by decide) rfl) rfl (hS.r (by decide) rfl) rfl ?_
    refine v_cVu (as := []) d_Fi_search_41 cs_Fi_162 (c_Qy_clearText hC hS (d := d - 1) (by omega)) (hS.o (by decide) rfl) (by decide) rfl rfl rfl (by decide) (by omega) rfl (fun I8 h8 => ?_)
    have h8b : I8 = u2 (u2 I6 0 5 xp) 76 1 0 := by rw [h8]; subst_vars; rfl
    have h05 : I8 0 5 = xp := by rw [h8b, u2_o (by decide), u2_s]
    rw [h5] at hp
    refine v_aload_n 0 d_Fi_search_44 rfl rfl rfl ?_
    refine v_geti d_Fi_search_45 fl_Fi_44 (hS.o (by decide) rfl) rfl rfl ?_
    refine v_iconst (v := (-1)) d_Fi_search_48 (by decide) rfl ?_
    refine v_icmp_eq (tgt := 60) d_Fi_search_49 (by decide) rfl (fun c3 => ?_) (fun c3 => ?_)
    · refine v_iconst (v := 1) d_Fi_search_60 (by decide) rfl ?_
      refine v_istore_n (L' := [(2, .int 1), (0, .ref 0), (1, .int a)]) d_Fi_search_61 rfl (by decide) rfl rfl ?_
      have hxp : xp = -1 := by rw [← h05]; exact c3
      rw [hxp] at hp h8b
      have hfr := hp.1
      have hp2 := hp.2
      rw [u2_o (show (77 : Nat) ≠ 121 by decide)] at hp2
      cases hpr : prsF (I 77) n 41 0 [] 0 with
      | inl f =>
        rw [hpr] at hp2; exact absurd hp2.1.symm (nI_m1 (by have := hp2.2; omega))
      | inr p =>
        obtain ⟨ts, g⟩ := p
        rw [hpr] at hp2
        obtain ⟨p1, p2, p3, p4, p5⟩ := hp2
        have hok := prsF_ok 41 0 [] 0 (by omega) (by simp) (ts, g) hpr
        have hfI : ∀ b, b < 76 → b ≠ 0 → I8 b = I b := fun b hb b0 => by rw [h8b, u2_o (by omega), u2_o b0, hfr.1 b (by omega) (by omega), u2_o (by omega)]
        simp only at p2 p3 p4 p5 hok
        refine lp_Fi_search hC hS hd (bd_t c1) hp hpr h8b (by omega) (by omega) (by rw [h8b, u2_n (by decide), u2_o (by decide)]; exact p2) (by rw [h8b, u2_n (by decide), u2_o (by decide)]; exact p3) (fun i hi => by rw [h8b, u2_o (by omega), u2_o (by omega)]; exact TsH.o p4 hok.1 i hi) (fun e9 he9 => by rw [hfI _ (by omega) (by omega)]; exact hE e9 he9) (fun i hi => by rw [hfI _ (by omega) (by omega)]; exact hb i hi) (fun i hi => by rw [hfI _ (by omega) (by omega)]; exact hP i hi) (by rw [h8b, u2_o (by decide), u2_o (by decide), hfr.1 121 (by decide) (by decide), u2_s]; rfl) 16 0 0 I8 _ rfl (by omega) (by omega) ⟨rfl, rfl⟩
    · refine v_throw (ci := 9) (by decide) d_Fi_search_52 d_Fi_search_55 d_Fi_search_56 d_Fi_search_59 wl_Fi_55 wn_Ea wi_Ea wx_Fi_57 rfl (by omega) ⟨Nat.le_of_ble_eq_true rfl, Nat.le_of_ble_eq_true rfl⟩ ?_
      exact ⟨rfl, I8, J6, rfl, rfl, Or.inr ⟨bd_t c1, xp, I6, hp, Or.inl ⟨by rw [← h05]; exact c3, rfl, h8b⟩⟩⟩
  · refine v_throw (ci := 11) (by decide) d_Fi_search_11 d_Fi_search_14 d_Fi_search_15 d_Fi_search_18 wl_Fi_78 wn_Ne wi_Ne wx_Fi_80 rfl (by omega) ⟨Nat.le_of_ble_eq_true rfl, Nat.le_of_ble_eq_true rfl⟩ ?_
    exact ⟨rfl, I, J, rfl, rfl, Or.inl ⟨bd_f c1, rfl, rfl, rfl⟩⟩
