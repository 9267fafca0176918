set_option maxHeartbeats 4000000 in
set_option maxRecDepth 100000 in
theorem c_Ix_read {C : CT} {l : Launch} {S : ShT} {I : DI} {J : DJ} {d : Nat} (hC : OKC C l) (hS : SHP S) {j m : Nat} (hj : j < 16) (hm : m ≤ 60) (hd : 3 ≤ d) : Sp C l k_Ix_read y_Ix_read (d, 0, 0) [.ref 25, .int (nI j), .ref (5 + j), .int (nI m)] S I J (PW S (fun I' J' => ∃ I1, TkI I J j m (tiE (I (5 + j)) m) m I1 J' ∧ I' = u2 (u2 I1 27 j 1) 25 2 (I 25 2 + 1))) := by
  refine Sp.of hC cd_Ix_read (Nat.le_of_ble_eq_true rfl) ?_
  show V C l k_Ix_read (d, 0, 0) _ 0 [(0, .ref 25), (1, .int (nI j)), (2, .ref (5 + j)), (3, .int (nI m))] [] S I J (0, 0)
  refine v_aload_n 0 d_Ix_read_0 rfl rfl rfl ?_
  refine v_getr (r := 26) d_Ix_read_1 fl_Ix_11 (hS.o (by decide) rfl) rfl (hS.r (by decide) rfl) rfl ?_
  refine v_iload_n 1 d_Ix_read_4 rfl rfl rfl ?_
  refine v_aald (j := j) (r := (28 + 3 * j)) d_Ix_read_5 (hS.a (t := 35) (n := 16) (by decide) rfl) (by decide) rfl (by omega) (by decide) (hS.enR (by omega)) rfl ?_
  refine v_aload_n 2 d_Ix_read_6 rfl rfl rfl ?_
  refine v_iload_n 3 d_Ix_read_7 rfl rfl rfl ?_
  refine v_cVw (as := [.ref (5 + j), .int (nI m)]) d_Ix_read_8 cs_Ix_26 (c_En_take hC hS (d := d - 1) hj hm (by omega)) (hS.en hj) (by decide) rfl rfl rfl (by decide) (by omega) rfl (fun I1 J2 h3 => ?_)
  refine v_aload_n 0 d_Ix_read_11 rfl rfl rfl ?_
  refine v_getr (r := 27) d_Ix_read_12 fl_Ix_17 (hS.o (by decide) rfl) rfl (hS.r (by decide) rfl) rfl ?_
  refine v_iload_n 1 d_Ix_read_15 rfl rfl rfl ?_
  refine v_iconst (v := 1) d_Ix_read_16 (by decide) rfl ?_
  refine v_zast (j := j) d_Ix_read_17 (hS.a (t := 33) (n := 16) (by decide) rfl) rfl (by omega) (by decide) (Or.inr rfl) rfl ?_
  generalize hI4 : u2 I1 27 j 1 = I4
  refine v_aload_n 0 d_Ix_read_18 rfl rfl rfl ?_
  refine v_dup d_Ix_read_19 rfl rfl ?_
  refine v_geti d_Ix_read_20 fl_Ix_30 (hS.o (by decide) rfl) rfl rfl ?_
  refine v_iconst (v := 1) d_Ix_read_23 (by decide) rfl ?_
  refine v_iadd d_Ix_read_24 rfl ?_
  refine v_nmi (fun z5 ez5 => ?_)
  refine v_puti d_Ix_read_25 fl_Ix_30 (hS.o (by decide) rfl) rfl rfl rfl ?_
  generalize hI6 : u2 I4 25 2 z5 = I6
  refine v_vret d_Ix_read_28 rfl ?_
  refine ⟨rfl, rfl, I1, h3, ?_⟩
  subst_vars
  rw [u2_o (by decide), h3.2.2.1 25 (by omega) (by omega)]
/-- all of k places from t on -/
def alF (f : Nat → Bool) : Nat → Nat → Bool
  | _, 0 => true
  | t, k + 1 => f t && alF f (t + 1) k
theorem alF_s (f : Nat → Bool) (t k : Nat) : alF f t (k + 1) = (f t && alF f (t + 1) k) := rfl
theorem alF_iff (f : Nat → Bool) : ∀ k t, alF f t k = true ↔ ∀ j, t ≤ j → j < t + k → f j = true
  | 0, t => by simp [alF]; intro j h1 h2; omega
  | k + 1, t => by
    rw [alF_s, Bool.and_eq_true, alF_iff f k (t + 1)]
    constructor
    · rintro ⟨h1, h2⟩ j h3 h4
      by_cases e : j = t
      · rw [e]; exact h1
      · exact h2 j (by omega) (by omega)
    · intro h
      exact ⟨h t (Nat.le_refl _) (by omega), fun j h1 h2 => h j (by omega) (by omega)⟩
theorem lg_cmp_0 (x y : Int64) : lg_cmp x y = 0 ↔ x = y := by
  constructor
  · intro h
    have h1 : x ≤ y := (lg_cmp_le x y).mp (by rw [h]; exact Int32.le_refl _)
    have h2 : y ≤ x := (lg_cmp_ge x y).mp (by rw [h]; exact Int32.le_refl _)
    exact Int64.le_antisymm h1 h2
  · intro h
    unfold lg_cmp
    rw [h, if_neg (by simp), if_pos rfl]
/-- the term i hits the entry e at the place p -/
def hitB (J : DJ) (i e p t : Nat) : Bool := decide ((J (29 + 3 * e) (p + t) &&& J (79 + 2 * i) 4) = J (80 + 2 * i) t)
set_option maxHeartbeats 4000000 in
set_option maxRecDepth 100000 in
theorem lp_Tm_hits {C : CT} {l : Launch} {S : ShT} {d : Nat} (hC : OKC C l) (hS : SHP S) (hd : 1 ≤ d) {I : DI} {J : DJ} {i e p s m : Nat} (hi : i < 21) (he : e < 16) (hs4 : s ≤ 4) (hps : p + s ≤ m) (hm : m ≤ 30) (hs : I (79 + 2 * i) 1 = nI s) {w : Bool} : ∀ (n : Nat) (t : Nat) (x : Int32), x = nI t → t ≤ s → s < t + n → w = alF (hitB J i e p) t (s - t) → V C l k_Tm_hits (d, 0, 0) (PP (.int (bI w)) S I J) 2 [(3, .int x), (0, .ref (79 + 2 * i)), (1, .ref (28 + 3 * e)), (2, .int (nI p))] [] S I J (0, 0) := by
  intro n
  induction n with
  | zero =>
    intro t x ex ht hf hw
    omega
  | succ n ih =>
    intro t x ex ht hf hw
    refine v_iload_n 0 d_Tm_hits_2 rfl rfl rfl ?_
    refine v_aload_n 1 d_Tm_hits_3 rfl rfl rfl ?_
    refine v_geti d_Tm_hits_4 fl_Tm_15 (hS.tm hi) rfl rfl ?_
    refine v_icmp_ge (tgt := 40) d_Tm_hits_7 (by decide) rfl (fun c1 => ?_) (fun c1 => ?_)
    · refine v_iconst (v := 1) d_Tm_hits_40 (by decide) rfl ?_
      refine v_zret d_Tm_hits_41 rfl (Or.inr rfl) ?_
      have hts : t = s := by rcases Nat.lt_or_ge t s with h9 | h9; exact absurd c1 (by rw [hs, ex]; exact nI_ge h9 (by omega)); omega
      exact ⟨by rw [hw, hts, Nat.sub_self]; rfl, rfl, rfl, rfl⟩
    · have hlt : t < s := by rcases Nat.lt_or_ge t s with h9 | h9; exact h9; exact absurd (by rw [hs, ex]; exact nI_le h9 (by omega)) c1
      refine v_aload_n 2 d_Tm_hits_10 rfl rfl rfl ?_
      refine v_iload_n 3 d_Tm_hits_11 rfl rfl rfl ?_
      refine v_iload_n 0 d_Tm_hits_12 rfl rfl rfl ?_
      refine v_iadd d_Tm_hits_13 rfl ?_
      refine v_nmi (fun z2 ez2 => ?_)
      have nz2 : z2 = nI (p + t) := by rw [ez2, show nI p = nI p from rfl, show x = nI t from ex]; exact nI_add _ _
      refine v_cVp (as := [.int z2]) d_Tm_hits_14 cs_Tm_45 (by have h9 := c_En_wordAt (C := C) (l := l) (S := S) (I := I) (J := J) hC hS (d := d - 1) (i := e) (j := (p + t)) he (by omega) (by omega); rw [← show z2 = nI (p + t) from nz2] at h9; exact h9) (hS.en he) (by decide) rfl rfl rfl (by decide) (by omega) rfl ?_
      refine v_aload_n 1 d_Tm_hits_17 rfl rfl rfl ?_
      refine v_getl d_Tm_hits_18 fl_Tm_28 (hS.tm hi) rfl rfl ?_
      refine v_land d_Tm_hits_21 rfl ?_
      refine v_nml (fun z3 ez3 => ?_)
      refine v_aload_n 1 d_Tm_hits_22 rfl rfl rfl ?_
      refine v_getr (r := (80 + 2 * i)) d_Tm_hits_23 fl_Tm_9 (hS.tm hi) rfl (hS.tm0 hi) rfl ?_
      refine v_iload_n 0 d_Tm_hits_26 rfl rfl rfl ?_
      refine v_lald (j := t) d_Tm_hits_27 (hS.tmS hi) ex (by omega) (by decide) rfl ?_
      refine v_lcmp d_Tm_hits_28 rfl ?_
      refine v_nmi (fun z4 ez4 => ?_)
      refine v_if_eq (tgt := 34) d_Tm_hits_29 (by decide) rfl (fun c5 => ?_) (fun c5 => ?_)
      · obtain ⟨x6, ex6⟩ : ∃ y : Int32, y = x + 1 := ⟨_, rfl⟩
        have nx6 : x6 = nI (t + 1) := by rw [ex6, show x = nI t from ex]; exact nI_1 _
        refine v_iinc (n := 0) (v := x6) (L' := [(3, .int x6), (0, .ref (79 + 2 * i)), (1, .ref (28 + 3 * e)), (2, .int (nI p))]) d_Tm_hits_34 rfl (by rw [ex6]; rfl) (by decide) rfl rfl ?_
        refine v_goto (tgt := 2) d_Tm_hits_37 (by decide) ?_
        exact ih _ _ nx6 (by omega) (by omega) (by rw [hw, show s - t = (s - (t + 1)) + 1 by omega, alF_s, show hitB J i e p t = true by unfold hitB; simp only [decide_eq_true_eq]; rw [← ez3]; exact (lg_cmp_0 _ _).mp ((ez4).symm.trans c5), Bool.true_and])
      · refine v_iconst (v := 0) d_Tm_hits_32 (by decide) rfl ?_
        refine v_zret d_Tm_hits_33 rfl (Or.inl rfl) ?_
        exact ⟨by rw [hw, show s - t = (s - (t + 1)) + 1 by omega, alF_s, show hitB J i e p t = false by unfold hitB; simp only [decide_eq_false_iff_not]; intro h9; exact c5 ((ez4).trans ((lg_cmp_0 _ _).mpr (by rw [ez3, h9])))]; rfl, rfl, rfl, rfl⟩
set_option maxHeartbeats 4000000 in
set_option maxRecDepth 100000 in
theorem c_Tm_hits {C : CT} {l : Launch} {S : ShT} {I : DI} {J : DJ} {d : Nat} (hC : OKC C l) (hS : SHP S) {i e p s m : Nat} (hi : i < 21) (he : e < 16) (hs4 : s ≤ 4) (hps : p + s ≤ m) (hm : m ≤ 30) (hs : I (79 + 2 * i) 1 = nI s) (hd : 1 ≤ d) : Sp C l k_Tm_hits y_Tm_hits (d, 0, 0) [.ref (79 + 2 * i), .ref (28 + 3 * e), .int (nI p)] S I J (PP (.int (bI (alF (hitB J i e p) 0 s))) S I J) := by
  refine Sp.of hC cd_Tm_hits (Nat.le_of_ble_eq_true rfl) ?_
  show V C l k_Tm_hits (d, 0, 0) _ 0 [(0, .ref (79 + 2 * i)), (1, .ref (28 + 3 * e)), (2, .int (nI p))] [] S I J (0, 0)
  refine v_iconst (v := 0) d_Tm_hits_0 (by decide) rfl ?_
  refine v_istore_n (L' := [(3, .int 0), (0, .ref (79 + 2 * i)), (1, .ref (28 + 3 * e)), (2, .int (nI p))]) d_Tm_hits_1 rfl (by decide) rfl rfl ?_
  exact lp_Tm_hits hC hS hd hi he hs4 hps hm hs (s + 1) 0 _ rfl (by omega) (by omega) rfl
def sm (f : Nat → Int32) : Nat → Int32
  | 0 => 0
  | k + 1 => sm f k + f k
theorem sm_s (f : Nat → Int32) (k : Nat) : sm f (k + 1) = sm f k + f k := rfl
theorem sm_eq {f g : Nat → Int32} : ∀ k, (∀ j, j < k → f j = g j) → sm f k = sm g k
  | 0, _ => rfl
  | k + 1, h => by
    unfold sm
    rw [sm_eq k (fun j hj => h j (by omega)), h k (by omega)]
/-- what the place p adds to the term i's weight in the entry e -/
def wgt (I : DI) (J : DJ) (i e s p : Nat) : Int32 := if alF (hitB J i e p) 0 s then I (30 + 3 * e) p else 0
set_option maxHeartbeats 4000000 in
set_option maxRecDepth 100000 in
theorem lp_Tm_weightIn {C : CT} {l : Launch} {S : ShT} {d : Nat} (hC : OKC C l) (hS : SHP S) (hd : 2 ≤ d) {I : DI} {J : DJ} {i e s m : Nat} (hi : i < 21) (he : e < 16) (hs1 : 1 ≤ s) (hs4 : s ≤ 4) (hm : m ≤ 30) (hs : I (79 + 2 * i) 1 = nI s) (hn : I (28 + 3 * e) 2 = nI m) : ∀ (n : Nat) (p : Nat) (x z : Int32), x = nI p → p ≤ m + 1 - s → m + 1 - s < p + n → z = sm (wgt I J i e s) p → V C l k_Tm_weightIn (d, 0, 0) (PP (.int (sm (wgt I J i e s) (m + 1 - s))) S I J) 4 [(3, .int x), (2, .int z), (0, .ref (79 + 2 * i)), (1, .ref (28 + 3 * e))] [] S I J (0, 0) := by
  intro n
  induction n with
  | zero =>
    intro p x z ex hp hf hz
    omega
  | succ n ih =>
    intro p x z ex hp hf hz
    refine v_iload_n 0 d_Tm_weightIn_4 rfl rfl rfl ?_
    refine v_aload_n 2 d_Tm_weightIn_5 rfl rfl rfl ?_
    refine v_geti d_Tm_weightIn_6 fl_Tm_15 (hS.tm hi) rfl rfl ?_
    refine v_iadd d_Tm_weightIn_9 rfl ?_
    refine v_nmi (fun z1 ez1 => ?_)
    have nz1 : z1 = nI (p + s) := by rw [ez1, show x = nI p from ex, show I (79 + 2 * i) 1 = nI s from hs]; exact nI_add _ _
    refine v_aload_n 3 d_Tm_weightIn_10 rfl rfl rfl ?_
    refine v_cVp (as := []) d_Tm_weightIn_11 cs_Tm_32 (c_En_size hC hS (d := d - 1) (i := e) he (by omega)) (hS.en he) (by decide) rfl rfl rfl (by simp [Value.category]) (by omega) rfl ?_
    refine v_icmp_gt (tgt := 44) d_Tm_weightIn_14 (by decide) rfl (fun c2 => ?_) (fun c2 => ?_)
    · refine v_iload_n 1 d_Tm_weightIn_44 rfl rfl rfl ?_
      refine v_iret d_Tm_weightIn_45 rfl ?_
      have hpe : p = m + 1 - s := by rcases Nat.lt_or_ge m (p + s) with h9 | h9; omega; exact absurd c2 (by rw [nz1, hn]; exact nI_nlt h9 (by omega))
      exact ⟨by rw [hz, hpe], rfl, rfl, rfl⟩
    · have hps : p + s ≤ m := by rcases Nat.lt_or_ge m (p + s) with h9 | h9; exact absurd (by rw [nz1, hn]; exact nI_lt h9 (by omega)) c2; exact h9
      refine v_iload_n 1 d_Tm_weightIn_17 rfl rfl rfl ?_
      refine v_aload_n 2 d_Tm_weightIn_18 rfl rfl rfl ?_
      refine v_aload_n 3 d_Tm_weightIn_19 rfl rfl rfl ?_
      refine v_iload_n 0 d_Tm_weightIn_20 rfl rfl rfl ?_
      refine v_cVp (as := [.ref (28 + 3 * e), .int x]) d_Tm_weightIn_21 cs_Tm_37 (by have h9 := c_Tm_hits (C := C) (l := l) (S := S) (I := I) (J := J) hC hS (d := d - 1) (p := p) hi he hs4 hps hm hs (by omega); rw [← show x = nI p from ex] at h9; exact h9) (hS.tm hi) (by decide) rfl rfl rfl (by simp [Value.category]) (by omega) rfl ?_
      refine v_if_eq (tgt := 35) d_Tm_weightIn_24 (by decide) rfl (fun c3 => ?_) (fun c3 => ?_)
      · refine v_iconst (v := 0) d_Tm_weightIn_35 (by decide) rfl ?_
        refine v_iadd d_Tm_weightIn_36 rfl ?_
        refine v_nmi (fun z4 ez4 => ?_)
        refine v_istore_n (L' := [(2, .int z4), (3, .int x), (0, .ref (79 + 2 * i)), (1, .ref (28 + 3 * e))]) d_Tm_weightIn_37 rfl (by decide) rfl rfl ?_
        obtain ⟨x5, ex5⟩ : ∃ y : Int32, y = x + 1 := ⟨_, rfl⟩
        have nx5 : x5 = nI (p + 1) := by rw [ex5, show x = nI p from ex]; exact nI_1 _
        refine v_iinc (n := 1) (v := x5) (L' := [(3, .int x5), (2, .int z4), (0, .ref (79 + 2 * i)), (1, .ref (28 + 3 * e))]) d_Tm_weightIn_38 rfl (by rw [ex5]; rfl) (by decide) rfl rfl ?_
        refine v_goto (tgt := 4) d_Tm_weightIn_41 (by decide) ?_
        exact ih _ _ _ nx5 (by omega) (by omega) (by rw [ez4, hz, sm_s]; congr 1; unfold wgt; cases h8 : alF (hitB J i e p) 0 s <;> simp_all [bI])
      · refine v_aload_n 3 d_Tm_weightIn_27 rfl rfl rfl ?_
        refine v_iload_n 0 d_Tm_weightIn_28 rfl rfl rfl ?_
        refine v_cVp (as := [.int x]) d_Tm_weightIn_29 cs_Tm_41 (by have h9 := c_En_weightAt (C := C) (l := l) (S := S) (I := I) (J := J) hC hS (d := d - 1) (i := e) (j := p) he (by omega) (by omega); rw [← show x = nI p from ex] at h9; exact h9) (hS.en he) (by decide) rfl rfl rfl (by simp [Value.category]) (by omega) rfl ?_
        refine v_goto (tgt := 36) d_Tm_weightIn_32 (by decide) ?_
        refine v_iadd d_Tm_weightIn_36 rfl ?_
        refine v_nmi (fun z6 ez6 => ?_)
        refine v_istore_n (L' := [(2, .int z6), (3, .int x), (0, .ref (79 + 2 * i)), (1, .ref (28 + 3 * e))]) d_Tm_weightIn_37 rfl (by decide) rfl rfl ?_
        obtain ⟨x7, ex7⟩ : ∃ y : Int32, y = x + 1 := ⟨_, rfl⟩
        have nx7 : x7 = nI (p + 1) := by rw [ex7, show x = nI p from ex]; exact nI_1 _
        refine v_iinc (n := 1) (v := x7) (L' := [(3, .int x7), (2, .int z6), (0, .ref (79 + 2 * i)), (1, .ref (28 + 3 * e))]) d_Tm_weightIn_38 rfl (by rw [ex7]; rfl) (by decide) rfl rfl ?_
        refine v_goto (tgt := 4) d_Tm_weightIn_41 (by decide) ?_
        exact ih _ _ _ nx7 (by omega) (by omega) (by rw [ez6, hz, sm_s]; congr 1; unfold wgt; cases h8 : alF (hitB J i e p) 0 s <;> simp_all [bI])
set_option maxHeartbeats 4000000 in
set_option maxRecDepth 100000 in
theorem c_Tm_weightIn {C : CT} {l : Launch} {S : ShT} {I : DI} {J : DJ} {d : Nat} (hC : OKC C l) (hS : SHP S) {i e s m : Nat} (hi : i < 21) (he : e < 16) (hs1 : 1 ≤ s) (hs4 : s ≤ 4) (hm : m ≤ 30) (hs : I (79 + 2 * i) 1 = nI s) (hn : I (28 + 3 * e) 2 = nI m) (hd : 2 ≤ d) : Sp C l k_Tm_weightIn y_Tm_weightIn (d, 0, 0) [.ref (79 + 2 * i), .ref (28 + 3 * e)] S I J (PP (.int (sm (wgt I J i e s) (m + 1 - s))) S I J) := by
  refine Sp.of hC cd_Tm_weightIn (Nat.le_of_ble_eq_true rfl) ?_
  show V C l k_Tm_weightIn (d, 0, 0) _ 0 [(0, .ref (79 + 2 * i)), (1, .ref (28 + 3 * e))] [] S I J (0, 0)
  refine v_iconst (v := 0) d_Tm_weightIn_0 (by decide) rfl ?_
  refine v_istore_n (L' := [(2, .int 0), (0, .ref (79 + 2 * i)), (1, .ref (28 + 3 * e))]) d_Tm_weightIn_1 rfl (by decide) rfl rfl ?_
  refine v_iconst (v := 0) d_Tm_weightIn_2 (by decide) rfl ?_
  refine v_istore_n (L' := [(3, .int 0), (2, .int 0), (0, .ref (79 + 2 * i)), (1, .ref (28 + 3 * e))]) d_Tm_weightIn_3 rfl (by decide) rfl rfl ?_
  exact lp_Tm_weightIn hC hS hd hi he hs1 hs4 hm hs hn (m + 2) 0 _ _ rfl (by omega) (by omega) rfl
/-- places k + 1 .. n have taken their left neighbours' values -/
def shr (f : Nat → Int32) (k n : Nat) : Nat → Int32 := fun j => if k < j ∧ j ≤ n then f (j - 1) else f j
theorem shr_0 {f : Nat → Int32} {n : Nat} : shr f n n = f := by
  funext j
  unfold shr
  rw [if_neg (by omega)]
theorem shr_s {f : Nat → Int32} {k n : Nat} (h : k + 1 ≤ n) : (fun j => if j = k + 1 then f k else shr f (k + 1) n j) = shr f k n := by
  funext j
  unfold shr
  by_cases hj : j = k + 1
  · rw [if_pos hj, if_pos (by omega), hj]; rfl
  · rw [if_neg hj]
    by_cases h1 : k + 1 < j ∧ j ≤ n
    · rw [if_pos h1, if_pos (by omega)]
    · rw [if_neg h1, if_neg (by omega)]
/-- where a score goes in: behind all that aren't smaller -/
def pos (g : Nat → Int32) (y : Int32) : Nat → Nat
  | 0 => 0
  | k + 1 => if g k < y then pos g y k else k + 1
theorem pos_s (g : Nat → Int32) (y : Int32) (k : Nat) : pos g y (k + 1) = if g k < y then pos g y k else k + 1 := rfl
theorem pos_le (g : Nat → Int32) (y : Int32) : ∀ k, pos g y k ≤ k
  | 0 => Nat.le_refl _
  | k + 1 => by
    rw [pos_s]
    by_cases h : g k < y
    · rw [if_pos h]; have := pos_le g y k; omega
    · rw [if_neg h]; omega
theorem pos_eq {g h : Nat → Int32} (y : Int32) : ∀ k, (∀ j, j < k → g j = h j) → pos g y k = pos h y k
  | 0, _ => rfl
  | k + 1, e => by
    rw [pos_s, pos_s, e k (by omega), pos_eq y k (fun j hj => e j (by omega))]
/-- the value x put in at p, what stood from there to n one further -/
def ins (f : Nat → Int32) (p n : Nat) (x : Int32) : Nat → Int32 := fun j => if j = p then x else shr f p n j
set_option maxHeartbeats 4000000 in
set_option maxRecDepth 100000 in
theorem lp_Rk_add {C : CT} {l : Launch} {S : ShT} {d : Nat} (hC : OKC C l) (hS : SHP S) (hd : 0 ≤ d) {I0 : DI} {J : DJ} {m : Nat} {x y : Int32} (hm15 : m < 16) (hm : I0 121 2 = nI m) : ∀ (n : Nat) (k : Nat) (I : DI) (z : Int32), z = nI k → k ≤ m → k < n → I 122 = shr (I0 122) k m → I 123 = shr (I0 123) k m → (∀ j, I 121 j = I0 121 j) → (∀ b, b ≠ 121 → b ≠ 122 → b ≠ 123 → I b = I0 b) → pos (I0 123) y m = pos (I0 123) y k → V C l k_Rk_add (d, 0, 0) (PU S J (fun I' => I' 122 = ins (I0 122) (pos (I0 123) y m) m x ∧ I' 123 = ins (I0 123) (pos (I0 123) y m) m y ∧ I' 121 2 = nI (m + 1) ∧ (∀ j, j ≠ 2 → I' 121 j = I0 121 j) ∧ ∀ b, b ≠ 121 → b ≠ 122 → b ≠ 123 → I' b = I0 b)) 5 [(3, .int z), (0, .ref 121), (1, .int x), (2, .int y)] [] S I J (0, 0) := by
  intro n
  induction n with
  | zero =>
    intro k I z ez hk hf h1 h2 h3 h4 hpo
    omega
  | succ n ih =>
    intro k I z ez hk hf h1 h2 h3 h4 hpo
    refine v_iload_n 0 d_Rk_add_5 rfl rfl rfl ?_
    refine v_if_le (tgt := 55) d_Rk_add_6 (by decide) rfl (fun c1 => ?_) (fun c1 => ?_)
    · refine v_aload_n 1 d_Rk_add_55 rfl rfl rfl ?_
      refine v_getr (r := 122) d_Rk_add_56 fl_Rk_9 (hS.o (by decide) rfl) rfl (hS.r (by decide) rfl) rfl ?_
      refine v_iload_n 0 d_Rk_add_59 rfl rfl rfl ?_
      refine v_iload_n 2 d_Rk_add_60 rfl rfl rfl ?_
      refine v_iast (j := k) d_Rk_add_61 (hS.a (t := 32) (n := 16) (by decide) rfl) ez (by omega) (by decide) rfl ?_
      generalize hI2 : u2 I 122 k x = I2
      refine v_aload_n 1 d_Rk_add_62 rfl rfl rfl ?_
      refine v_getr (r := 123) d_Rk_add_63 fl_Rk_15 (hS.o (by decide) rfl) rfl (hS.r (by decide) rfl) rfl ?_
      refine v_iload_n 0 d_Rk_add_66 rfl rfl rfl ?_
      refine v_iload_n 3 d_Rk_add_67 rfl rfl rfl ?_
      refine v_iast (j := k) d_Rk_add_68 (hS.a (t := 32) (n := 16) (by decide) rfl) ez (by omega) (by decide) rfl ?_
      generalize hI3 : u2 I2 123 k y = I3
      refine v_aload_n 1 d_Rk_add_69 rfl rfl rfl ?_
      refine v_dup d_Rk_add_70 rfl rfl ?_
      refine v_geti d_Rk_add_71 fl_Rk_18 (hS.o (by decide) rfl) rfl rfl ?_
      refine v_iconst (v := 1) d_Rk_add_74 (by decide) rfl ?_
      refine v_iadd d_Rk_add_75 rfl ?_
      refine v_nmi (fun z4 ez4 => ?_)
      refine v_puti d_Rk_add_76 fl_Rk_18 (hS.o (by decide) rfl) rfl rfl rfl ?_
      generalize hI5 : u2 I3 121 2 z4 = I5
      refine v_vret d_Rk_add_79 rfl ?_
      have hk0 : k = 0 := by rcases Nat.eq_zero_or_pos k with h9 | h9; exact h9; exact absurd c1 (by rw [ez]; exact nI_nle h9 (by omega))
      subst hk0
      have hpk : pos (I0 123) y m = 0 := hpo
      refine ⟨rfl, rfl, rfl, ?_, ?_, ?_, ?_, ?_⟩
      · subst_vars; rw [hpk, u2_o (by decide), u2_o (by decide), u2_row, h1]; rfl
      · subst_vars; rw [hpk, u2_o (by decide), u2_row, u2_o (by decide), h2]; rfl
      · subst_vars; rw [u2_s, u2_o (by decide), u2_o (by decide), h3, hm]; exact nI_1 m
      · intro j hj; subst_vars; rw [u2_n (Or.inr hj), u2_o (by decide), u2_o (by decide)]; exact h3 j
      · intro b b1 b2 b3; subst_vars; rw [u2_o b1, u2_o b3, u2_o b2]; exact h4 b b1 b2 b3
    · obtain ⟨k', hk'⟩ : ∃ k', k = k' + 1 := ⟨k - 1, by rcases Nat.eq_zero_or_pos k with h9 | h9; exact absurd (by rw [ez, h9]; exact Int32.le_refl _) c1; omega⟩
      subst hk'
      refine v_aload_n 1 d_Rk_add_9 rfl rfl rfl ?_
      refine v_getr (r := 123) d_Rk_add_10 fl_Rk_15 (hS.o (by decide) rfl) rfl (hS.r (by decide) rfl) rfl ?_
      refine v_iload_n 0 d_Rk_add_13 rfl rfl rfl ?_
      refine v_iconst (v := 1) d_Rk_add_14 (by decide) rfl ?_
      refine v_isub d_Rk_add_15 rfl ?_
      refine v_nmi (fun z6 ez6 => ?_)
      have nz6 : z6 = nI ((k' + 1) - 1) := by rw [ez6, show z = nI (k' + 1) from ez, show 1 = nI 1 from rfl]; exact pk_sub (by omega)
      refine v_iald (j := ((k' + 1) - 1)) d_Rk_add_16 (hS.a (t := 32) (n := 16) (by decide) rfl) nz6 (by omega) (by decide) rfl ?_
      refine v_iload_n 3 d_Rk_add_17 rfl rfl rfl ?_
      refine v_icmp_ge (tgt := 55) d_Rk_add_18 (by decide) rfl (fun c7 => ?_) (fun c7 => ?_)
      · refine v_aload_n 1 d_Rk_add_55 rfl rfl rfl ?_
        refine v_getr (r := 122) d_Rk_add_56 fl_Rk_9 (hS.o (by decide) rfl) rfl (hS.r (by decide) rfl) rfl ?_
        refine v_iload_n 0 d_Rk_add_59 rfl rfl rfl ?_
        refine v_iload_n 2 d_Rk_add_60 rfl rfl rfl ?_
        refine v_iast (j := (k' + 1)) d_Rk_add_61 (hS.a (t := 32) (n := 16) (by decide) rfl) ez (by omega) (by decide) rfl ?_
        generalize hI8 : u2 I 122 (k' + 1) x = I8
        refine v_aload_n 1 d_Rk_add_62 rfl rfl rfl ?_
        refine v_getr (r := 123) d_Rk_add_63 fl_Rk_15 (hS.o (by decide) rfl) rfl (hS.r (by decide) rfl) rfl ?_
        refine v_iload_n 0 d_Rk_add_66 rfl rfl rfl ?_
        refine v_iload_n 3 d_Rk_add_67 rfl rfl rfl ?_
        refine v_iast (j := (k' + 1)) d_Rk_add_68 (hS.a (t := 32) (n := 16) (by decide) rfl) ez (by omega) (by decide) rfl ?_
        generalize hI9 : u2 I8 123 (k' + 1) y = I9
        refine v_aload_n 1 d_Rk_add_69 rfl rfl rfl ?_
        refine v_dup d_Rk_add_70 rfl rfl ?_
        refine v_geti d_Rk_add_71 fl_Rk_18 (hS.o (by decide) rfl) rfl rfl ?_
        refine v_iconst (v := 1) d_Rk_add_74 (by decide) rfl ?_
        refine v_iadd d_Rk_add_75 rfl ?_
        refine v_nmi (fun z10 ez10 => ?_)
        refine v_puti d_Rk_add_76 fl_Rk_18 (hS.o (by decide) rfl) rfl rfl rfl ?_
        generalize hI11 : u2 I9 121 2 z10 = I11
        refine v_vret d_Rk_add_79 rfl ?_
        have hpk : pos (I0 123) y m = k' + 1 := by rw [hpo, pos_s, if_neg]; have h9 := c7; rw [h2] at h9; unfold shr at h9; rw [if_neg (by omega), show k' + 1 - 1 = k' by omega] at h9; exact Int32.not_lt.mpr h9
        refine ⟨rfl, rfl, rfl, ?_, ?_, ?_, ?_, ?_⟩
        · subst_vars; rw [hpk, u2_o (by decide), u2_o (by decide), u2_row, h1]; rfl
        · subst_vars; rw [hpk, u2_o (by decide), u2_row, u2_o (by decide), h2]; rfl
        · subst_vars; rw [u2_s, u2_o (by decide), u2_o (by decide), h3, hm]; exact nI_1 m
        · intro j hj; subst_vars; rw [u2_n (Or.inr hj), u2_o (by decide), u2_o (by decide)]; exact h3 j
        · intro b b1 b2 b3; subst_vars; rw [u2_o b1, u2_o b3, u2_o b2]; exact h4 b b1 b2 b3
      · have hlt : I0 123 k' < y := by have h9 := c7; rw [h2] at h9; unfold shr at h9; rw [if_neg (by omega), show k' + 1 - 1 = k' by omega] at h9; exact Int32.not_le.mp h9
        refine v_aload_n 1 d_Rk_add_21 rfl rfl rfl ?_
        refine v_getr (r := 122) d_Rk_add_22 fl_Rk_9 (hS.o (by decide) rfl) rfl (hS.r (by decide) rfl) rfl ?_
        refine v_iload_n 0 d_Rk_add_25 rfl rfl rfl ?_
        refine v_aload_n 1 d_Rk_add_26 rfl rfl rfl ?_
        refine v_getr (r := 122) d_Rk_add_27 fl_Rk_9 (hS.o (by decide) rfl) rfl (hS.r (by decide) rfl) rfl ?_
        refine v_iload_n 0 d_Rk_add_30 rfl rfl rfl ?_
        refine v_iconst (v := 1) d_Rk_add_31 (by decide) rfl ?_
        refine v_isub d_Rk_add_32 rfl ?_
        refine v_nmi (fun z12 ez12 => ?_)
        have nz12 : z12 = nI ((k' + 1) - 1) := by rw [ez12, show z = nI (k' + 1) from ez, show 1 = nI 1 from rfl]; exact pk_sub (by omega)
        refine v_iald (j := ((k' + 1) - 1)) d_Rk_add_33 (hS.a (t := 32) (n := 16) (by decide) rfl) nz12 (by omega) (by decide) rfl ?_
        refine v_iast (j := (k' + 1)) d_Rk_add_34 (hS.a (t := 32) (n := 16) (by decide) rfl) ez (by omega) (by decide) rfl ?_
        generalize hI13 : u2 I 122 (k' + 1) (I 122 ((k' + 1) - 1)) = I13
        refine v_aload_n 1 d_Rk_add_35 rfl rfl rfl ?_
        refine v_getr (r := 123) d_Rk_add_36 fl_Rk_15 (hS.o (by decide) rfl) rfl (hS.r (by decide) rfl) rfl ?_
        refine v_iload_n 0 d_Rk_add_39 rfl rfl rfl ?_
        refine v_aload_n 1 d_Rk_add_40 rfl rfl rfl ?_
        refine v_getr (r := 123) d_Rk_add_41 fl_Rk_15 (hS.o (by decide) rfl) rfl (hS.r (by decide) rfl) rfl ?_
        refine v_iload_n 0 d_Rk_add_44 rfl rfl rfl ?_
        refine v_iconst (v := 1) d_Rk_add_45 (by decide) rfl ?_
        refine v_isub d_Rk_add_46 rfl ?_
        refine v_nmi (fun z14 ez14 => ?_)
        have nz14 : z14 = nI ((k' + 1) - 1) := by rw [ez14, show z = nI (k' + 1) from ez, show 1 = nI 1 from rfl]; exact pk_sub (by omega)
        refine v_iald (j := ((k' + 1) - 1)) d_Rk_add_47 (hS.a (t := 32) (n := 16) (by decide) rfl) nz14 (by omega) (by decide) rfl ?_
        refine v_iast (j := (k' + 1)) d_Rk_add_48 (hS.a (t := 32) (n := 16) (by decide) rfl) ez (by omega) (by decide) rfl ?_
        generalize hI15 : u2 I13 123 (k' + 1) (I13 123 ((k' + 1) - 1)) = I15
        obtain ⟨x16, ex16⟩ : ∃ y : Int32, y = z + (-1) := ⟨_, rfl⟩
        have nx16 : x16 = nI ((k' + 1) - 1) := by rw [ex16, show z = nI (k' + 1) from ez]; exact sb_m1 (by omega)
        refine v_iinc (n := 0) (v := x16) (L' := [(3, .int x16), (0, .ref 121), (1, .int x), (2, .int y)]) d_Rk_add_49 rfl (by rw [ex16]; rfl) (by decide) rfl rfl ?_
        refine v_goto (tgt := 5) d_Rk_add_52 (by decide) ?_
        refine ih k' I15 _ nx16 (by omega) (by omega) ?_ ?_ ?_ ?_ ?_
        · subst_vars; rw [u2_o (by decide), u2_row, h1, ← shr_s (f := I0 122) (k := k') (by omega)]; funext j; by_cases hj : j = k' + 1
          · rw [if_pos hj, if_pos hj]; unfold shr; rw [if_neg (by omega)]; rfl
          · rw [if_neg hj, if_neg hj]
        · subst_vars; rw [u2_row, u2_o (by decide), h2, ← shr_s (f := I0 123) (k := k') (by omega)]; funext j; by_cases hj : j = k' + 1
          · rw [if_pos hj, if_pos hj]; unfold shr; rw [if_neg (by omega)]; rfl
          · rw [if_neg hj, if_neg hj]
        · intro j; subst_vars; rw [u2_o (by decide), u2_o (by decide)]; exact h3 j
        · intro b b1 b2 b3; subst_vars; rw [u2_o b3, u2_o b2]; exact h4 b b1 b2 b3
        · rw [hpo, pos_s, if_pos hlt]
set_option maxHeartbeats 4000000 in
set_option maxRecDepth 100000 in
theorem c_Rk_add {C : CT} {l : Launch} {S : ShT} {I : DI} {J : DJ} {d : Nat} (hC : OKC C l) (hS : SHP S) {m : Nat} (hm15 : m < 16) (hm : I 121 2 = nI m) (x y : Int32) (hd : 0 ≤ d) : Sp C l k_Rk_add y_Rk_add (d, 0, 0) [.ref 121, .int x, .int y] S I J (PU S J (fun I' => I' 122 = ins (I 122) (pos (I 123) y m) m x ∧ I' 123 = ins (I 123) (pos (I 123) y m) m y ∧ I' 121 2 = nI (m + 1) ∧ (∀ j, j ≠ 2 → I' 121 j = I 121 j) ∧ ∀ b, b ≠ 121 → b ≠ 122 → b ≠ 123 → I' b = I b)) := by
  refine Sp.of hC cd_Rk_add (Nat.le_of_ble_eq_true rfl) ?_
  show V C l k_Rk_add (d, 0, 0) _ 0 [(0, .ref 121), (1, .int x), (2, .int y)] [] S I J (0, 0)
  refine v_aload_n 0 d_Rk_add_0 rfl rfl rfl ?_
  refine v_geti d_Rk_add_1 fl_Rk_18 (hS.o (by decide) rfl) rfl rfl ?_
  refine v_istore_n (L' := [(3, .int (I 121 2)), (0, .ref 121), (1, .int x), (2, .int y)]) d_Rk_add_4 rfl (by decide) rfl rfl ?_
  exact lp_Rk_add hC hS hd hm15 hm (m + 1) m I _ hm (by omega) (by omega) shr_0.symm shr_0.symm (fun _ => rfl) (fun _ _ _ _ => rfl) rfl
