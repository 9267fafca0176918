/-! ===== THE MODEL, 12: search ===== -/
def smF (p : Nat → Int32) : Nat → Nat → Int32 → Int32
  | 0, _, z => z
  | k + 1, i, z => smF p k (i + 1) (if p i < 0 then z else if z < 0 then p i else z + p i)
theorem smF_s (p : Nat → Int32) (k i : Nat) (z : Int32) : smF p (k + 1) i z = smF p k (i + 1) (if p i < 0 then z else if z < 0 then p i else z + p i) := rfl
def ssM (I : DI) (J : DJ) (e m k g : Nat) (fz sz : Nat → Nat) : Int32 := smF (fun j => sreM I J e m k fz sz (nI j)) g 0 (-1)
def srM (I : DI) (t : Nat) (a : Int32) : Bool := decide (a ≤ 0) || (!decide (I 125 t = 0) && wup (I 127) a 16 t)
def RaM (I : DI) (q : Nat) (x y : Int32) (I' : DI) : Prop := I' 146 = ins (I 146) (pos (I 147) y q) q x ∧ I' 147 = ins (I 147) (pos (I 147) y q) q y ∧ I' 124 33 = nI (q + 1) ∧ (∀ j, j ≠ 33 → I' 124 j = I 124 j) ∧ ∀ b, b ≠ 124 → b ≠ 146 → b ≠ 147 → I' b = I b
def SeMC (I0 : DI) (J : DJ) (a : Int32) (k g : Nat) (fz sz : Nat → Nat) : Nat → Nat → DI → Prop
  | 0, q, I => q = 0 ∧ I = I0
  | t + 1, q, I => ∃ q0 I1, SeMC I0 J a k g fz sz t q0 I1 ∧ (
      ((¬ I0 133 t = 0 ∧ srM I0 t a = true) ∧ ∃ m, m ≤ 30 ∧ I0 134 t = nI m ∧ ((ssM I0 J t m k g fz sz < 0 ∧ I = I1 ∧ q = q0) ∨ (¬ ssM I0 J t m k g fz sz < 0 ∧ RaM I1 q0 (nI t) (ssM I0 J t m k g fz sz) I ∧ q = q0 + 1))) ∨
      ((I0 133 t = 0 ∨ srM I0 t a = false) ∧ I = I1 ∧ q = q0))
theorem SeMC.inv {I0 : DI} {J : DJ} {a : Int32} {k g : Nat} {fz sz : Nat → Nat} (h0 : I0 124 33 = nI 0) : ∀ (t q : Nat) (I : DI), SeMC I0 J a k g fz sz t q I → q ≤ t ∧ I 124 33 = nI q ∧ (∀ j, j ≠ 33 → I 124 j = I0 124 j) ∧ ∀ b, b ≠ 124 → b ≠ 146 → b ≠ 147 → I b = I0 b := by
  intro t
  induction t with
  | zero => rintro q I ⟨rfl, rfl⟩; exact ⟨Nat.le_refl _, h0, fun _ _ => rfl, fun _ _ _ _ => rfl⟩
  | succ t ih =>
    rintro q I ⟨q0, I1, h1, h2⟩
    obtain ⟨g1, g2, g4, g3⟩ := ih q0 I1 h1
    rcases h2 with ⟨_, m, _, _, ⟨_, rfl, rfl⟩ | ⟨_, ⟨r1, r2, r3, r4, r5⟩, rfl⟩⟩ | ⟨_, rfl, rfl⟩
    · exact ⟨by omega, g2, g4, g3⟩
    · exact ⟨by omega, r3, fun j hj => by rw [r4 j hj, g4 j hj], fun b b1 b2 b3 => by rw [r5 b b1 b2 b3, g3 b b1 b2 b3]⟩
    · exact ⟨by omega, g2, g4, g3⟩
theorem scM_eq {of of' wo wo' : Nat → Bool} {h h' : Nat → Int32} : ∀ k i z, (∀ j, i ≤ j → j < i + k → of j = of' j ∧ wo j = wo' j ∧ h j = h' j) → scM of wo h k i z = scM of' wo' h' k i z
  | 0, _, _, _ => rfl
  | k + 1, i, z, e => by
    obtain ⟨h1, h2, h3⟩ := e i (Nat.le_refl _) (by omega)
    rw [scM_s, scM_s, h1, h2, h3, scM_eq k (i + 1) (z + h' i) (fun j a b => e j (by omega) (by omega)), scM_eq k (i + 1) z (fun j a b => e j (by omega) (by omega))]
theorem sreM_eq {I I0 : DI} {J : DJ} {e m k : Nat} {fz sz : Nat → Nat} {y : Int32} (h : ∀ b, b ≠ 124 → b ≠ 146 → b ≠ 147 → I b = I0 b) : sreM I J e m k fz sz y = sreM I0 J e m k fz sz y := by
  unfold sreM ofM woM hzM hsM wgM gdM hitM
  rw [h 139 (by decide) (by decide) (by decide), h 140 (by decide) (by decide) (by decide), h 137 (by decide) (by decide) (by decide), h 136 (by decide) (by decide) (by decide), h 141 (by decide) (by decide) (by decide), h 145 (by decide) (by decide) (by decide)]
def se4 (I1 : DI) : DI := u2 (u2 (u2 I1 124 18 0) 124 33 0) 124 30 (I1 124 29)
def fzM (I : DI) (i : Nat) : Nat := (I 142 i).toNatClampNeg
def SeM (I : DI) (J : DJ) (n : Nat) (a : Int32) (r : Int32) (I' : DI) (J' : DJ) : Prop :=
  (¬ mdS I a = 1 ∧ r = 0 ∧ I' = u2 I 124 0 1 ∧ J' = J) ∨
  (mdS I a = 1 ∧ ∃ x I1, PrM I J n x I1 J' ∧ (
    (¬ I1 124 29 < 0 ∧ r = 0 ∧ I' = u2 (se4 I1) 124 0 2) ∨
    (I1 124 29 < 0 ∧ ∃ ts g q, prsF (I 138) n 41 0 [] 0 = .inr (ts, g) ∧ SeMC (se4 I1) J' a ts.length g (fzM I1) (szT ts) 16 q I' ∧ q ≤ 16 ∧ r = nI q)))
theorem TsM.w {c : Nat → Int32} {n : Nat} {ts : List TT} {w : Nat} {I : DI} {J : DJ} (h : TsM c ts w I J) (hw : w ≤ 60) (ho : ∀ t ∈ ts, TOk c n t) : TmW I ts.length (fzM I) (szT ts) := by
  intro i hi
  have h1 : ts[i]? = some ts[i] := List.getElem?_eq_getElem hi
  obtain ⟨f, t1, t2, t3, t4, t5, t6, t7⟩ := h i _ h1
  have h2 := ho _ (List.getElem_mem hi)
  have h3 : szT ts i = ts[i].2.2.2.length := by unfold szT; rw [List.getD_eq_getElem?_getD, h1]; rfl
  have h4 : fzM I i = f := by unfold fzM; rw [t1, nI_clamp (by omega)]
  rw [h3, h4]
  exact ⟨t1, t6, by omega, h2.1.1, h2.1.2⟩
set_option maxHeartbeats 4000000 in
set_option maxRecDepth 100000 in
theorem lpA_Md_search {C : CT} {l : Launch} {S : ShT} {d : Nat} (hC : OKC C l) (hS : SHP S) (hd : 5 ≤ d) {II I1 I0 : DI} {JJ J : DJ} {a v9 : Int32} {n g : Nat} {ts : List TT} {fz : Nat → Nat} (hmd : mdS II a = 1) (hps : PrM II JJ n v9 I1 J) (hwr : I1 124 29 < 0) (hpr : prsF (II 138) n 41 0 [] 0 = .inr (ts, g)) (hI0 : I0 = se4 I1) (hfz : fz = fzM I1) (hk : ts.length ≤ 40) (hg : g ≤ 100) (h24 : I0 124 24 = nI ts.length) (hT : TmW I0 ts.length fz (szT ts)) (hE : ∀ e, e < 16 → ∃ m, m ≤ 30 ∧ I0 134 e = nI m) (hP0 : I0 127 0 = -1) (hP : ∀ i, 1 ≤ i → i < 16 → ∃ j, j < 16 ∧ I0 127 i = nI j) (hz : ∀ i, i < 16 → ¬ I0 125 i = 0 → zro (I0 127) 16 i) (h0 : I0 124 33 = nI 0) {t q m : Nat} {I : DI} (hw : SeMC I0 J a ts.length g fz (szT ts) t q I) (ht16 : t < 16) (hqt : q ≤ t) (hq2 : I 124 33 = nI q) (hfr1 : ∀ j, j ≠ 33 → I 124 j = I0 124 j) (hfr : ∀ b, b ≠ 124 → b ≠ 146 → b ≠ 147 → I b = I0 b) (hm3 : m ≤ 30) (hmE : I0 134 t = nI m) (hcond : ¬ I0 133 t = 0 ∧ srM I0 t a = true) {v3 : Int32} (e3 : v3 = nI t) {v2 : Int32} (e2 : v2 = nI g) (ih : ∀ (q1 : Nat) (I' : DI) (y3 : Int32), y3 = nI (t + 1) → SeMC I0 J a ts.length g fz (szT ts) (t + 1) q1 I' → V C l k_Md_search (d, 0, 0) (PJ S (SeM II JJ n a)) 57 [(3, .int y3), (2, .int v2), (0, .ref 124), (1, .int a)] [] S I' J (0, 0)) : ∀ (n0 i : Nat) (x z : Int32), x = nI i → i ≤ g → g < i + n0 → ssM I0 J t m ts.length g fz (szT ts) = smF (fun j => sreM I0 J t m ts.length fz (szT ts) (nI j)) (g - i) i z → V C l k_Md_search (d, 0, 0) (PJ S (SeM II JJ n a)) 94 [(5, .int x), (4, .int z), (3, .int v3), (2, .int v2), (0, .ref 124), (1, .int a)] [] S I J (0, 0) := by
  intro n0
  induction n0 with
  | zero =>
    intro i x z ex hi0 hf hr
    omega
  | succ n0 ihk =>
    intro i x z ex hi0 hf hr
    refine v_iload 0 d_Md_search_94 rfl rfl ?_
    refine v_iload_n 3 d_Md_search_96 rfl rfl rfl ?_
    refine v_icmp_ge (tgt := 137) d_Md_search_97 (by decide) rfl (fun c1 => ?_) (fun c1 => ?_)
    · have hig : i = g := by rcases Nat.lt_or_ge i g with h9 | h9; exact absurd c1 (by rw [ex, e2]; exact nI_ge h9 (by omega)); omega
      rw [hig, Nat.sub_self] at hr
      have hzz : ssM I0 J t m ts.length g fz (szT ts) = z := hr
      refine v_iload 1 d_Md_search_137 rfl rfl ?_
      refine v_if_lt (tgt := 149) d_Md_search_139 (by decide) rfl (fun c2 => ?_) (fun c2 => ?_)
      · obtain ⟨x3, ex3⟩ : ∃ y9 : Int32, y9 = v3 + 1 := ⟨_, rfl⟩
        have nx3 : x3 = nI (t + 1) := by rw [ex3, show v3 = nI t from e3]; exact nI_1 _
        refine v_iinc (n := 2) (v := x3) (L' := [(3, .int x3), (5, .int x), (4, .int z), (2, .int v2), (0, .ref 124), (1, .int a)]) d_Md_search_149 rfl (by rw [ex3]; rfl) (by decide) rfl rfl ?_
        refine v_goto (tgt := 57) d_Md_search_152 (by decide) ?_
        refine v_sub (L' := [(3, .int x3), (2, .int v2), (0, .ref 124), (1, .int a)]) [0, 3, 4, 5] rfl ?_
        exact ih q I _ nx3 ⟨q, I, hw, Or.inl ⟨hcond, m, hm3, hmE, Or.inl ⟨by rw [hzz]; exact c2, rfl, rfl⟩⟩⟩
      · refine v_aload_n 4 d_Md_search_142 rfl rfl rfl ?_
        refine v_iload_n 2 d_Md_search_143 rfl rfl rfl ?_
        refine v_iload 1 d_Md_search_144 rfl rfl ?_
        refine v_cVu (as := [.int v3, .int z]) d_Md_search_146 cs_Md_187 (by rw [e3]; exact c_Md_place hC hS (d := d - 1) (m := q) (by omega) hq2 (nI t) z (by omega)) (hS.o (by decide) rfl) (by decide) rfl rfl rfl (by decide) (by omega) rfl (fun I9 hpl => ?_)
        obtain ⟨x4, ex4⟩ : ∃ y9 : Int32, y9 = v3 + 1 := ⟨_, rfl⟩
        have nx4 : x4 = nI (t + 1) := by rw [ex4, show v3 = nI t from e3]; exact nI_1 _
        refine v_iinc (n := 2) (v := x4) (L' := [(3, .int x4), (5, .int x), (4, .int z), (2, .int v2), (0, .ref 124), (1, .int a)]) d_Md_search_149 rfl (by rw [ex4]; rfl) (by decide) rfl rfl ?_
        refine v_goto (tgt := 57) d_Md_search_152 (by decide) ?_
        refine v_sub (L' := [(3, .int x4), (2, .int v2), (0, .ref 124), (1, .int a)]) [0, 3, 4, 5] rfl ?_
        exact ih (q + 1) I9 _ nx4 ⟨q, I, hw, Or.inl ⟨hcond, m, hm3, hmE, Or.inr ⟨by rw [hzz]; exact c2, by rw [hzz]; exact hpl, rfl⟩⟩⟩
    · have hig : i < g := by rcases Nat.lt_or_ge i g with h9 | h9; exact h9; exact absurd (by rw [ex, e2]; exact nI_le h9 (by omega)) c1
      rw [show g - i = (g - (i + 1)) + 1 by omega, smF_s] at hr
      refine v_aload_n 4 d_Md_search_100 rfl rfl rfl ?_
      refine v_iload 0 d_Md_search_101 rfl rfl ?_
      refine v_iload_n 2 d_Md_search_103 rfl rfl rfl ?_
      refine v_cVp (as := [.int x, .int v3]) d_Md_search_104 cs_Md_184 (by rw [ex, e3]; exact c_Md_score hC hS (d := d - 1) (e := t) (m := m) (k := ts.length) (fz := fz) (sz := szT ts) ht16 hm3 hk (by rw [hfr1 24 (by decide)]; exact h24) (by rw [hfr 134 (by decide) (by decide) (by decide)]; exact hmE) (fun i9 hi9 => by rw [hfr 142 (by decide) (by decide) (by decide), hfr 143 (by decide) (by decide) (by decide)]; exact hT i9 hi9) (nI i) (by omega)) (hS.o (by decide) rfl) (by decide) rfl rfl rfl (by decide) (by omega) rfl ?_
      obtain ⟨sv, hsv⟩ : ∃ z : Int32, z = sreM I0 J t m ts.length fz (szT ts) (nI i) := ⟨_, rfl⟩
      rw [sreM_eq hfr, ← hsv]
      refine v_istore (L' := [(6, .int sv), (5, .int x), (4, .int z), (3, .int v3), (2, .int v2), (0, .ref 124), (1, .int a)]) d_Md_search_107 (by decide) rfl rfl ?_
      refine v_iload 0 d_Md_search_109 rfl rfl ?_
      refine v_if_lt (tgt := 131) d_Md_search_111 (by decide) rfl (fun c5 => ?_) (fun c5 => ?_)
      · obtain ⟨x6, ex6⟩ : ∃ y9 : Int32, y9 = x + 1 := ⟨_, rfl⟩
        have nx6 : x6 = nI (i + 1) := by rw [ex6, show x = nI i from ex]; exact nI_1 _
        refine v_iinc (n := 1) (v := x6) (L' := [(5, .int x6), (6, .int sv), (4, .int z), (3, .int v3), (2, .int v2), (0, .ref 124), (1, .int a)]) d_Md_search_131 rfl (by rw [ex6]; rfl) (by decide) rfl rfl ?_
        refine v_goto (tgt := 94) d_Md_search_134 (by decide) ?_
        refine v_sub (L' := [(5, .int x6), (4, .int z), (3, .int v3), (2, .int v2), (0, .ref 124), (1, .int a)]) [0, 2, 3, 4, 5, 6] rfl ?_
        simp only [← hsv] at hr
        rw [if_pos c5] at hr
        exact ihk (i + 1) _ _ nx6 (by omega) (by omega) hr
      · refine v_iload 2 d_Md_search_114 rfl rfl ?_
        refine v_if_ge (tgt := 124) d_Md_search_116 (by decide) rfl (fun c7 => ?_) (fun c7 => ?_)
        · refine v_iload 2 d_Md_search_124 rfl rfl ?_
          refine v_iload 0 d_Md_search_126 rfl rfl ?_
          refine v_iadd d_Md_search_128 rfl ?_
          refine v_nmi (fun z8 ez8 => ?_)
          refine v_istore (L' := [(4, .int z8), (6, .int sv), (5, .int x), (3, .int v3), (2, .int v2), (0, .ref 124), (1, .int a)]) d_Md_search_129 (by decide) rfl rfl ?_
          obtain ⟨x9, ex9⟩ : ∃ y9 : Int32, y9 = x + 1 := ⟨_, rfl⟩
          have nx9 : x9 = nI (i + 1) := by rw [ex9, show x = nI i from ex]; exact nI_1 _
          refine v_iinc (n := 2) (v := x9) (L' := [(5, .int x9), (4, .int z8), (6, .int sv), (3, .int v3), (2, .int v2), (0, .ref 124), (1, .int a)]) d_Md_search_131 rfl (by rw [ex9]; rfl) (by decide) rfl rfl ?_
          refine v_goto (tgt := 94) d_Md_search_134 (by decide) ?_
          refine v_sub (L' := [(5, .int x9), (4, .int z8), (3, .int v3), (2, .int v2), (0, .ref 124), (1, .int a)]) [0, 1, 3, 4, 5, 6] rfl ?_
          simp only [← hsv] at hr
          rw [if_neg c5, if_neg (Int32.not_lt.mpr c7), ← ez8] at hr
          exact ihk (i + 1) _ _ nx9 (by omega) (by omega) hr
        · refine v_iload 0 d_Md_search_119 rfl rfl ?_
          refine v_goto (tgt := 129) d_Md_search_121 (by decide) ?_
          refine v_istore (L' := [(4, .int sv), (6, .int sv), (5, .int x), (3, .int v3), (2, .int v2), (0, .ref 124), (1, .int a)]) d_Md_search_129 (by decide) rfl rfl ?_
          obtain ⟨x10, ex10⟩ : ∃ y9 : Int32, y9 = x + 1 := ⟨_, rfl⟩
          have nx10 : x10 = nI (i + 1) := by rw [ex10, show x = nI i from ex]; exact nI_1 _
          refine v_iinc (n := 2) (v := x10) (L' := [(5, .int x10), (4, .int sv), (6, .int sv), (3, .int v3), (2, .int v2), (0, .ref 124), (1, .int a)]) d_Md_search_131 rfl (by rw [ex10]; rfl) (by decide) rfl rfl ?_
          refine v_goto (tgt := 94) d_Md_search_134 (by decide) ?_
          refine v_sub (L' := [(5, .int x10), (4, .int sv), (3, .int v3), (2, .int v2), (0, .ref 124), (1, .int a)]) [0, 1, 3, 4, 5, 6] rfl ?_
          simp only [← hsv] at hr
          rw [if_neg c5, if_pos (Int32.not_le.mp c7)] at hr
          exact ihk (i + 1) _ _ nx10 (by omega) (by omega) hr
set_option maxHeartbeats 4000000 in
set_option maxRecDepth 100000 in
theorem lp_Md_search {C : CT} {l : Launch} {S : ShT} {d : Nat} (hC : OKC C l) (hS : SHP S) (hd : 5 ≤ d) {II I1 I0 : DI} {JJ J : DJ} {a v9 : Int32} {n g : Nat} {ts : List TT} {fz : Nat → Nat} (hmd : mdS II a = 1) (hps : PrM II JJ n v9 I1 J) (hwr : I1 124 29 < 0) (hpr : prsF (II 138) n 41 0 [] 0 = .inr (ts, g)) (hI0 : I0 = se4 I1) (hfz : fz = fzM I1) (hk : ts.length ≤ 40) (hg : g ≤ 100) (h24 : I0 124 24 = nI ts.length) (hT : TmW I0 ts.length fz (szT ts)) (hE : ∀ e, e < 16 → ∃ m, m ≤ 30 ∧ I0 134 e = nI m) (hP0 : I0 127 0 = -1) (hP : ∀ i, 1 ≤ i → i < 16 → ∃ j, j < 16 ∧ I0 127 i = nI j) (hz : ∀ i, i < 16 → ¬ I0 125 i = 0 → zro (I0 127) 16 i) (h0 : I0 124 33 = nI 0) {v2 : Int32} (e2 : v2 = nI g) : ∀ (n0 : Nat) (t q : Nat) (I : DI) (x : Int32), x = nI t → t ≤ 16 → 16 < t + n0 → SeMC I0 J a ts.length g fz (szT ts) t q I → V C l k_Md_search (d, 0, 0) (PJ S (SeM II JJ n a)) 57 [(3, .int x), (2, .int v2), (0, .ref 124), (1, .int a)] [] S I J (0, 0) := by
  intro n0
  induction n0 with
  | zero =>
    intro t q I x ex ht0 hf hw
    omega
  | succ n0 ih =>
    intro t q I x ex ht0 hf hw
    obtain ⟨hqt, hq2, hfr1, hfr⟩ := SeMC.inv h0 t q I hw
    have f133 : I 133 = I0 133 := hfr 133 (by decide) (by decide) (by decide)
    have f127 : I 127 = I0 127 := hfr 127 (by decide) (by decide) (by decide)
    have f125 : I 125 = I0 125 := hfr 125 (by decide) (by decide) (by decide)
    refine v_iload_n 0 d_Md_search_57 rfl rfl rfl ?_
    refine v_bipush (v := 16) d_Md_search_58 (by decide) rfl ?_
    refine v_icmp_ge (tgt := 155) d_Md_search_60 (by decide) rfl (fun c1 => ?_) (fun c1 => ?_)
    · refine v_aload_n 2 d_Md_search_155 rfl rfl rfl ?_
      refine v_geti d_Md_search_156 fl_Md_178 (hS.o (by decide) rfl) rfl rfl ?_
      refine v_iret d_Md_search_159 rfl ?_
      have ht16 : 16 ≤ t := by rcases Nat.lt_or_ge (t) (16) with h9 | h9; exact absurd c1 (by rw [ex]; exact nI_ge (b := 16) h9 (by omega)); exact h9
      have htw2 : t = 16 := by omega
      subst htw2
      subst hI0
      subst hfz
      exact ⟨rfl, _, rfl, Or.inr ⟨hmd, v9, I1, hps, Or.inr ⟨hwr, ts, g, q, hpr, hw, hqt, hq2⟩⟩⟩
    · have ht16 : t < 16 := by rcases Nat.lt_or_ge (t) (16) with h9 | h9; exact h9; exact absurd (by rw [ex]; exact nI_le (a := 16) h9 (by omega)) c1
      obtain ⟨m, hm3, hmE⟩ := hE t ht16
      refine v_aload_n 2 d_Md_search_63 rfl rfl rfl ?_
      refine v_getr (r := 133) d_Md_search_64 fl_Md_35 (hS.o (by decide) rfl) rfl (hS.r (by decide) rfl) rfl ?_
      refine v_iload_n 0 d_Md_search_67 rfl rfl rfl ?_
      refine v_zald (j := t) d_Md_search_68 (hS.a (t := 33) (n := 16) (by decide) rfl) ex (by omega) (by decide) rfl ?_
      refine v_if_eq (tgt := 149) d_Md_search_69 (by decide) rfl (fun c2 => ?_) (fun c2 => ?_)
      · obtain ⟨x3, ex3⟩ : ∃ y9 : Int32, y9 = x + 1 := ⟨_, rfl⟩
        have nx3 : x3 = nI (t + 1) := by rw [ex3, show x = nI t from ex]; exact nI_1 _
        refine v_iinc (n := 0) (v := x3) (L' := [(3, .int x3), (2, .int v2), (0, .ref 124), (1, .int a)]) d_Md_search_149 rfl (by rw [ex3]; rfl) (by decide) rfl rfl ?_
        refine v_goto (tgt := 57) d_Md_search_152 (by decide) ?_
        exact ih (t + 1) q I _ nx3 (by omega) (by omega) ⟨q, I, hw, Or.inr ⟨Or.inl (by rw [← f133]; exact c2), rfl, rfl⟩⟩
      · refine v_iload_n 3 d_Md_search_72 rfl rfl rfl ?_
        refine v_if_le (tgt := 88) d_Md_search_73 (by decide) rfl (fun c4 => ?_) (fun c4 => ?_)
        · refine v_iconst (v := (-1)) d_Md_search_88 (by decide) rfl ?_
          refine v_istore (L' := [(4, .int (-1)), (3, .int x), (2, .int v2), (0, .ref 124), (1, .int a)]) d_Md_search_89 (by decide) rfl rfl ?_
          refine v_iconst (v := 0) d_Md_search_91 (by decide) rfl ?_
          refine v_istore (L' := [(5, .int 0), (4, .int (-1)), (3, .int x), (2, .int v2), (0, .ref 124), (1, .int a)]) d_Md_search_92 (by decide) rfl rfl ?_
          exact lpA_Md_search hC hS hd hmd hps hwr hpr hI0 hfz hk hg h24 hT hE hP0 hP hz h0 hw ht16 hqt hq2 hfr1 hfr hm3 hmE ⟨fun h9 => c2 (by rw [f133]; exact h9), by unfold srM; rw [decide_eq_true c4]; rfl⟩ ex e2 (fun q1 I1 y3 r1 r2 => ih (t + 1) q1 I1 y3 r1 (by omega) (by omega) r2) (g + 1) 0 _ _ rfl (by omega) (by omega) rfl
        · refine v_aload_n 2 d_Md_search_76 rfl rfl rfl ?_
          refine v_iload_n 0 d_Md_search_77 rfl rfl rfl ?_
          refine v_iload_n 3 d_Md_search_78 rfl rfl rfl ?_
          refine v_cVp (as := [.int x, .int a]) d_Md_search_79 cs_Md_125 (by rw [ex]; exact c_Md_within hC hS (d := d - 1) (j := t) (f := a) ht16 (by rw [f127]; exact hP0) (by rw [f127]; exact hP) (by rw [f127, f125]; exact hz t ht16) (by omega)) (hS.o (by decide) rfl) (by decide) rfl rfl rfl (by decide) (by omega) rfl ?_
          rw [f125, f127]
          refine v_if_ne (tgt := 88) d_Md_search_82 (by decide) rfl (fun c5 => ?_) (fun c5 => ?_)
          · refine v_iconst (v := (-1)) d_Md_search_88 (by decide) rfl ?_
            refine v_istore (L' := [(4, .int (-1)), (3, .int x), (2, .int v2), (0, .ref 124), (1, .int a)]) d_Md_search_89 (by decide) rfl rfl ?_
            refine v_iconst (v := 0) d_Md_search_91 (by decide) rfl ?_
            refine v_istore (L' := [(5, .int 0), (4, .int (-1)), (3, .int x), (2, .int v2), (0, .ref 124), (1, .int a)]) d_Md_search_92 (by decide) rfl rfl ?_
            exact lpA_Md_search hC hS hd hmd hps hwr hpr hI0 hfz hk hg h24 hT hE hP0 hP hz h0 hw ht16 hqt hq2 hfr1 hfr hm3 hmE ⟨fun h9 => c2 (by rw [f133]; exact h9), by unfold srM; rw [bI_t c5, Bool.or_true]⟩ ex e2 (fun q1 I1 y3 r1 r2 => ih (t + 1) q1 I1 y3 r1 (by omega) (by omega) r2) (g + 1) 0 _ _ rfl (by omega) (by omega) rfl
          · refine v_goto (tgt := 149) d_Md_search_85 (by decide) ?_
            obtain ⟨x6, ex6⟩ : ∃ y9 : Int32, y9 = x + 1 := ⟨_, rfl⟩
            have nx6 : x6 = nI (t + 1) := by rw [ex6, show x = nI t from ex]; exact nI_1 _
            refine v_iinc (n := 0) (v := x6) (L' := [(3, .int x6), (2, .int v2), (0, .ref 124), (1, .int a)]) d_Md_search_149 rfl (by rw [ex6]; rfl) (by decide) rfl rfl ?_
            refine v_goto (tgt := 57) d_Md_search_152 (by decide) ?_
            exact ih (t + 1) q I _ nx6 (by omega) (by omega) ⟨q, I, hw, Or.inr ⟨Or.inr (by unfold srM; rw [bI_f c5, decide_eq_false c4]; rfl), rfl, rfl⟩⟩
theorem altF_len {c : Nat → Int32} {n g : Nat} : ∀ k a ts, a ≤ n → ts.length ≤ a → ∀ q, altF c n g k a ts = .inr q → q.2.length ≤ q.1 ∧ q.1 ≤ n
  | 0, a, ts, ha, h, q, hq => by cases hq; exact ⟨h, ha⟩
  | k + 1, a, ts, ha, h, q, hq => by
    rw [altF_s] at hq
    rcases htr : trm c n a with f | p
    · rw [htr] at hq; cases hq
    · rw [htr] at hq
      have h2 := trm_le ha htr
      simp only at hq
      by_cases h3 : altE c n p.1 = true
      · rw [if_pos h3] at hq; cases hq; exact ⟨by simp; omega, h2.2.1⟩
      · rw [if_neg h3] at hq; exact altF_len k _ _ h2.2.1 (by simp; omega) q hq
theorem prsF_len' {c : Nat → Int32} {n : Nat} : ∀ k a ts g, a ≤ n → ts.length ≤ a → ∀ q, prsF c n k a ts g = .inr q → q.1.length ≤ n
  | 0, a, ts, g, ha, h, q, hq => by cases hq; simp only; omega
  | k + 1, a, ts, g, ha, h, q, hq => by
    rw [prsF_s] at hq
    rcases hal : altF c n g 41 (skb c n a) ts with f | p
    · rw [hal] at hq; cases hq
    · rw [hal] at hq
      have h0 := skb_le (c := c) ha
      have h1 := altF_len _ _ _ h0.2 (by omega) p hal
      simp only at hq
      by_cases h3 : nx c n p.1 = 124
      · rw [if_pos h3] at hq; exact prsF_len' k _ _ _ (isQ_lt h3) (by omega) q hq
      · rw [if_neg h3] at hq; cases hq; simp only; omega
theorem prsF_len {c : Nat → Int32} {n g : Nat} {ts : List TT} (hn : n ≤ 40) (h : prsF c n 41 0 [] 0 = .inr (ts, g)) : ts.length ≤ 40 := by
  have := prsF_len' 41 0 [] 0 (by omega) (by simp) _ h
  simp only at this
  omega
set_option maxHeartbeats 4000000 in
set_option maxRecDepth 100000 in
theorem b_Md_search {C : CT} {l : Launch} {S : ShT} {I : DI} {J : DJ} {d : Nat} (hC : OKC C l) (hS : SHP S) {n : Nat} {a : Int32} (hn40 : n ≤ 40) (hc : Chr (I 138) n) (hn : I 124 18 = nI n) (hE : ∀ e, e < 16 → ∃ m, m ≤ 30 ∧ I 134 e = nI m) (hP0 : I 127 0 = -1) (hP : ∀ i, 1 ≤ i → i < 16 → ∃ j, j < 16 ∧ I 127 i = nI j) (hz : ∀ i, i < 16 → ¬ I 125 i = 0 → zro (I 127) 16 i) (hd : 5 ≤ d) : V C l k_Md_search (d, 0, 0) (PJ S (SeM I J n a)) 5 [(0, .ref 124), (1, .int a)] [] S I J (0, 0) := by
  refine v_aload_n 0 d_Md_search_5 rfl rfl rfl ?_
  refine v_iload_n 1 d_Md_search_6 rfl rfl rfl ?_
  refine v_cVp (as := [.int a]) d_Md_search_7 cs_Md_111 (c_Md_isFolder hC hS (d := d - 1) a (by omega)) (hS.o (by decide) rfl) (by decide) rfl rfl rfl (by decide) (by omega) rfl ?_
  refine v_if_ne (tgt := 19) d_Md_search_10 (by decide) rfl (fun c1 => ?_) (fun c1 => ?_)
  · refine v_aload_n 0 d_Md_search_19 rfl rfl rfl ?_
    refine v_cVj (as := []) d_Md_search_20 cs_Md_181 (c_Md_parse hC hS (d := d - 1) (n := n) hn40 hc hn (by omega)) (hS.o (by decide) rfl) (by decide) rfl rfl rfl (by decide) (by omega) rfl (fun xp I6 J6 hp => ?_)
    refine v_istore_n (L' := [(2, .int xp), (0, .ref 124), (1, .int a)]) d_Md_search_23 rfl (by decide) rfl rfl ?_
    refine v_aload_n 1 d_Md_search_24 rfl rfl rfl ?_
    refine v_iconst (v := 0) d_Md_search_25 (by decide) rfl ?_
    refine v_puti d_Md_search_26 fl_Md_138 (hS.o (by decide) rfl) rfl rfl rfl ?_
    generalize hI2 : u2 I6 124 18 0 = I2
    refine v_aload_n 1 d_Md_search_29 rfl rfl rfl ?_
    refine v_iconst (v := 0) d_Md_search_30 (by decide) rfl ?_
    refine v_puti d_Md_search_31 fl_Md_178 (hS.o (by decide) rfl) rfl rfl rfl ?_
    generalize hI3 : u2 I2 124 33 0 = I3
    refine v_aload_n 1 d_Md_search_34 rfl rfl rfl ?_
    refine v_aload_n 1 d_Md_search_35 rfl rfl rfl ?_
    refine v_geti d_Md_search_36 fl_Md_148 (hS.o (by decide) rfl) rfl rfl ?_
    refine v_puti d_Md_search_39 fl_Md_75 (hS.o (by decide) rfl) rfl rfl rfl ?_
    generalize hI4 : u2 I3 124 30 (I3 124 29) = I4
    have h4e : I4 = se4 I6 := by unfold se4; rw [← hI4, ← hI3, ← hI2, u2_n (by decide), u2_n (by decide)]
    have h429 : I4 124 29 = I6 124 29 := by rw [h4e]; unfold se4; rw [u2_n (by decide), u2_n (by decide), u2_n (by decide)]
    refine v_aload_n 1 d_Md_search_42 rfl rfl rfl ?_
    refine v_geti d_Md_search_43 fl_Md_148 (hS.o (by decide) rfl) rfl rfl ?_
    refine v_if_lt (tgt := 55) d_Md_search_46 (by decide) rfl (fun c5 => ?_) (fun c5 => ?_)
    · refine v_iconst (v := 0) d_Md_search_55 (by decide) rfl ?_
      refine v_istore_n (L' := [(3, .int 0), (2, .int xp), (0, .ref 124), (1, .int a)]) d_Md_search_56 rfl (by decide) rfl rfl ?_
      have hwr : I6 124 29 < 0 := by rw [← h429]; exact c5
      have hfr := hp.1
      have hp2 := hp.2
      rcases hpr : prsF (I 138) n 41 0 [] 0 with f | p
      · rw [hpr] at hp2; exact absurd hwr (by rw [hp2.1]; exact nI_pos (by have := hp2.2; omega))
      · obtain ⟨ts, g⟩ := p
        rw [hpr] at hp2
        obtain ⟨p1, p2, p3, w9, p4, p5⟩ := hp2
        have hok := prsF_ok 41 0 [] 0 (by omega) (by simp) (ts, g) hpr
        simp only at p2 p3 p5 hok
        have hlen : ts.length ≤ 40 := prsF_len hn40 hpr
        have hfI : ∀ b, b ≠ 124 → (b < 139 ∨ 143 < b) → b ≠ 145 → I4 b = I b := fun b b1 b2 b3 => by rw [h4e]; unfold se4; rw [u2_o b1, u2_o b1, u2_o b1, hfr.1 b b1 b2 b3]
        have hfJ : ∀ b, b ≠ 124 → I4 b = I6 b := fun b b1 => by rw [h4e]; unfold se4; rw [u2_o b1, u2_o b1, u2_o b1]
        exact lp_Md_search hC hS hd (bd_t c1) hp hwr hpr h4e rfl hlen (by omega) (by rw [h4e]; unfold se4; rw [u2_n (by decide), u2_n (by decide), u2_n (by decide)]; exact p3) (fun i hi => by rw [hfJ 142 (by decide), hfJ 143 (by decide)]; exact TsM.w p5 p4 hok.1 i hi) (fun e9 he9 => by rw [hfI 134 (by decide) (by decide) (by decide)]; exact hE e9 he9) (by rw [hfI 127 (by decide) (by decide) (by decide)]; exact hP0) (by rw [hfI 127 (by decide) (by decide) (by decide)]; exact hP) (by rw [hfI 127 (by decide) (by decide) (by decide), hfI 125 (by decide) (by decide) (by decide)]; exact hz) (by rw [h4e]; unfold se4; rw [u2_n (by decide), u2_s]; rfl) p2 17 0 0 I4 _ rfl (by omega) (by omega) ⟨rfl, rfl⟩
    · refine v_aload_n 1 d_Md_search_49 rfl rfl rfl ?_
      refine v_iconst (v := 2) d_Md_search_50 (by decide) rfl ?_
      refine v_cVi (as := [.int 2]) d_Md_search_51 cs_Md_107 (c_Md_raise hC hS (d := d - 1) 2 (by omega)) (hS.o (by decide) rfl) (by decide) rfl rfl rfl (by decide) (by omega) rfl (fun xr Ir hr => ?_)
      refine v_iret d_Md_search_54 rfl ?_
      exact ⟨rfl, _, rfl, Or.inr ⟨bd_t c1, xp, I6, hp, Or.inl ⟨by rw [← h429]; exact c5, hr.1, by rw [hr.2, h4e]⟩⟩⟩
  · refine v_aload_n 0 d_Md_search_13 rfl rfl rfl ?_
    refine v_iconst (v := 1) d_Md_search_14 (by decide) rfl ?_
    refine v_cVi (as := [.int 1]) d_Md_search_15 cs_Md_107 (c_Md_raise hC hS (d := d - 1) 1 (by omega)) (hS.o (by decide) rfl) (by decide) rfl rfl rfl (by decide) (by omega) rfl (fun xr Ir hr => ?_)
    refine v_iret d_Md_search_18 rfl ?_
    exact ⟨rfl, _, rfl, Or.inl ⟨bd_f c1, hr.1, hr.2, rfl⟩⟩
set_option maxHeartbeats 4000000 in
set_option maxRecDepth 100000 in
theorem c_Md_search {C : CT} {l : Launch} {S : ShT} {I0 I : DI} {J : DJ} {d : Nat} (hC : OKC C l) (hS : SHP S) (hI0 : I = u2 I0 124 0 0) {n : Nat} {a : Int32} (hn40 : n ≤ 40) (hc : Chr (I 138) n) (hn : I 124 18 = nI n) (hE : ∀ e, e < 16 → ∃ m, m ≤ 30 ∧ I 134 e = nI m) (hP0 : I 127 0 = -1) (hP : ∀ i, 1 ≤ i → i < 16 → ∃ j, j < 16 ∧ I 127 i = nI j) (hz : ∀ i, i < 16 → ¬ I 125 i = 0 → zro (I 127) 16 i) (hd : 5 ≤ d) : Sp C l k_Md_search y_Md_search (d, 0, 0) [.ref 124, .int a] S I0 J (PJ S (SeM I J n a)) := by
  refine Sp.of hC cd_Md_search (Nat.le_of_ble_eq_true rfl) ?_
  show V C l k_Md_search (d, 0, 0) _ 0 [(0, .ref 124), (1, .int a)] [] S I0 J (0, 0)
  refine v_aload_n 0 d_Md_search_0 rfl rfl rfl ?_
  refine v_iconst (v := 0) d_Md_search_1 (by decide) rfl ?_
  refine v_puti d_Md_search_2 fl_Md_85 (hS.o (by decide) rfl) rfl rfl rfl ?_
  rw [← hI0]
  exact b_Md_search hC hS hn40 hc hn hE hP0 hP hz hd
