/-! ===== what an alternative adds, and all of them ===== -/
def paF (of : Nat → Bool) (w : Nat → Int32) (un : Nat → Bool) : Nat → Nat → Int32 → Int32
  | 0, _, z => z
  | k + 1, i, z => if of i then (if decide (0 < w i) = un i then -1 else paF of w un k (i + 1) (z + w i)) else paF of w un k (i + 1) z
theorem paF_s (of : Nat → Bool) (w : Nat → Int32) (un : Nat → Bool) (k i : Nat) (z : Int32) : paF of w un (k + 1) i z = if of i then (if decide (0 < w i) = un i then -1 else paF of w un k (i + 1) (z + w i)) else paF of w un k (i + 1) z := rfl
def scF (p : Nat → Int32) : Nat → Nat → Int32 → Int32
  | 0, _, z => z
  | k + 1, i, z => scF p k (i + 1) (if p i = -1 then z else (if z < 0 then 0 else z) + p i)
theorem scF_s (p : Nat → Int32) (k i : Nat) (z : Int32) : scF p (k + 1) i z = scF p k (i + 1) (if p i = -1 then z else (if z < 0 then 0 else z) + p i) := rfl
/-- the terms' cells are right: k terms, term i of (sz i) words -/
def TmO (I : DI) (k : Nat) (sz : Nat → Nat) : Prop := ∀ i, i < k → I (79 + 2 * i) 1 = nI (sz i) ∧ 1 ≤ sz i ∧ sz i ≤ 4 ∧ (I (79 + 2 * i) 3 = 0 ∨ I (79 + 2 * i) 3 = 1)
def tW (I : DI) (J : DJ) (e m : Nat) (sz : Nat → Nat) (i : Nat) : Int32 := sm (wgt I J i e (sz i)) (m + 1 - sz i)
def tO (I : DI) (y : Int32) (i : Nat) : Bool := decide (I (79 + 2 * i) 2 = y)
def tU (I : DI) (i : Nat) : Bool := decide (I (79 + 2 * i) 3 = 1)
def prt (I : DI) (J : DJ) (e m k : Nat) (sz : Nat → Nat) (y : Int32) : Int32 := paF (tO I y) (tW I J e m sz) (tU I) k 0 0
set_option maxHeartbeats 4000000 in
set_option maxRecDepth 100000 in
theorem lp_Qy_partOf {C : CT} {l : Launch} {S : ShT} {d : Nat} (hC : OKC C l) (hS : SHP S) (hd : 3 ≤ d) {I : DI} {J : DJ} {e m k : Nat} {sz : Nat → Nat} {y : Int32} (he : e < 16) (hm : m ≤ 30) (hk : k ≤ 21) (h3 : I 76 3 = nI k) (hn : I (28 + 3 * e) 2 = nI m) (hT : TmO I k sz) : ∀ (n : Nat) (i : Nat) (x z : Int32), x = nI i → i ≤ k → k < i + n → prt I J e m k sz y = paF (tO I y) (tW I J e m sz) (tU I) (k - i) i z → V C l k_Qy_partOf (d, 0, 0) (PP (.int (prt I J e m k sz y)) S I J) 5 [(4, .int x), (3, .int z), (0, .ref 76), (1, .ref (28 + 3 * e)), (2, .int y)] [] S I J (0, 0) := by
  intro n
  induction n with
  | zero =>
    intro i x z ex hi0 hf hr
    omega
  | succ n ih =>
    intro i x z ex hi0 hf hr
    refine v_iload 0 d_Qy_partOf_5 rfl rfl ?_
    refine v_aload_n 2 d_Qy_partOf_7 rfl rfl rfl ?_
    refine v_geti d_Qy_partOf_8 fl_Qy_32 (hS.o (by decide) rfl) rfl rfl ?_
    refine v_icmp_ge (tgt := 81) d_Qy_partOf_11 (by decide) rfl (fun c1 => ?_) (fun c1 => ?_)
    · refine v_iload_n 1 d_Qy_partOf_81 rfl rfl rfl ?_
      refine v_iret d_Qy_partOf_82 rfl ?_
      have hik : i = k := by rcases Nat.lt_or_ge i k with h9 | h9; exact absurd c1 (by rw [ex, h3]; exact nI_ge h9 (by omega)); omega
      rw [hik, Nat.sub_self] at hr
      exact ⟨by rw [hr]; rfl, rfl, rfl, rfl⟩
    · have hik : i < k := by rcases Nat.lt_or_ge i k with h9 | h9; exact h9; exact absurd (by rw [ex, h3]; exact nI_le h9 (by omega)) c1
      have hi : i < 21 := by omega
      rw [show k - i = (k - (i + 1)) + 1 by omega, paF_s] at hr
      refine v_aload_n 2 d_Qy_partOf_14 rfl rfl rfl ?_
      refine v_getr (r := 78) d_Qy_partOf_15 fl_Qy_17 (hS.o (by decide) rfl) rfl (hS.r (by decide) rfl) rfl ?_
      refine v_iload 0 d_Qy_partOf_18 rfl rfl ?_
      refine v_aald (j := i) (r := (79 + 2 * i)) d_Qy_partOf_20 (hS.a (t := 36) (n := 21) (by decide) rfl) (by decide) ex (by omega) (by decide) (hS.tmR (by omega)) rfl ?_
      refine v_iload_n 4 d_Qy_partOf_21 rfl rfl rfl ?_
      refine v_cVp (as := [.int y]) d_Qy_partOf_22 cs_Qy_59 (c_Tm_isOf hC hS (d := d - 1) hi y (by omega)) (hS.tm hi) (by decide) rfl rfl rfl (by decide) (by omega) rfl ?_
      refine v_if_eq (tgt := 75) d_Qy_partOf_25 (by decide) rfl (fun c2 => ?_) (fun c2 => ?_)
      · obtain ⟨x3, ex3⟩ : ∃ y : Int32, y = x + 1 := ⟨_, rfl⟩
        have nx3 : x3 = nI (i + 1) := by rw [ex3, show x = nI i from ex]; exact nI_1 _
        refine v_iinc (n := 0) (v := x3) (L' := [(4, .int x3), (3, .int z), (0, .ref 76), (1, .ref (28 + 3 * e)), (2, .int y)]) d_Qy_partOf_75 rfl (by rw [ex3]; rfl) (by decide) rfl rfl ?_
        refine v_goto (tgt := 5) d_Qy_partOf_78 (by decide) ?_
        have hof : tO I y i = false := bI_f c2
        rw [hof, if_neg (by decide)] at hr
        exact ih (i + 1) _ _ nx3 (by omega) (by omega) hr
      · refine v_aload_n 2 d_Qy_partOf_28 rfl rfl rfl ?_
        refine v_getr (r := 78) d_Qy_partOf_29 fl_Qy_17 (hS.o (by decide) rfl) rfl (hS.r (by decide) rfl) rfl ?_
        refine v_iload 0 d_Qy_partOf_32 rfl rfl ?_
        refine v_aald (j := i) (r := (79 + 2 * i)) d_Qy_partOf_34 (hS.a (t := 36) (n := 21) (by decide) rfl) (by decide) ex (by omega) (by decide) (hS.tmR (by omega)) rfl ?_
        refine v_aload_n 3 d_Qy_partOf_35 rfl rfl rfl ?_
        refine v_cVp (as := [.ref (28 + 3 * e)]) d_Qy_partOf_36 cs_Qy_63 (c_Tm_weightIn hC hS (d := d - 1) (s := sz i) (m := m) hi he (hT i hik).2.1 (hT i hik).2.2.1 hm (hT i hik).1 hn (by omega)) (hS.tm hi) (by decide) rfl rfl rfl (by decide) (by omega) rfl ?_
        obtain ⟨wt, hwt⟩ : ∃ z : Int32, z = tW I J e m sz i := ⟨_, rfl⟩
        rw [show sm (wgt I J i e (sz i)) (m + 1 - sz i) = wt from hwt.symm]
        refine v_istore (L' := [(5, .int wt), (4, .int x), (3, .int z), (0, .ref 76), (1, .ref (28 + 3 * e)), (2, .int y)]) d_Qy_partOf_39 (by decide) rfl rfl ?_
        refine v_iload 0 d_Qy_partOf_41 rfl rfl ?_
        refine v_if_le (tgt := 50) d_Qy_partOf_43 (by decide) rfl (fun c4 => ?_) (fun c4 => ?_)
        · have hh : decide (0 < tW I J e m sz i) = false := by rw [← hwt]; exact decide_eq_false (Int32.not_lt.mpr c4)
          refine v_iconst (v := 0) d_Qy_partOf_50 (by decide) rfl ?_
          refine v_istore (L' := [(6, .int 0), (5, .int wt), (4, .int x), (3, .int z), (0, .ref 76), (1, .ref (28 + 3 * e)), (2, .int y)]) d_Qy_partOf_51 (by decide) rfl rfl ?_
          refine v_iload 0 d_Qy_partOf_53 rfl rfl ?_
          refine v_aload_n 4 d_Qy_partOf_55 rfl rfl rfl ?_
          refine v_getr (r := 78) d_Qy_partOf_56 fl_Qy_17 (hS.o (by decide) rfl) rfl (hS.r (by decide) rfl) rfl ?_
          refine v_iload 2 d_Qy_partOf_59 rfl rfl ?_
          refine v_aald (j := i) (r := (79 + 2 * i)) d_Qy_partOf_61 (hS.a (t := 36) (n := 21) (by decide) rfl) (by decide) ex (by omega) (by decide) (hS.tmR (by omega)) rfl ?_
          refine v_cVp (as := []) d_Qy_partOf_62 cs_Qy_67 (c_Tm_isUnwanted hC hS (d := d - 1) hi (hT i hik).2.2.2 (by omega)) (hS.tm hi) (by decide) rfl rfl rfl (by simp [Value.category]) (by omega) rfl ?_
          refine v_icmp_ne (tgt := 70) d_Qy_partOf_65 (by decide) rfl (fun c5 => ?_) (fun c5 => ?_)
          · refine v_iload_n 3 d_Qy_partOf_70 rfl rfl rfl ?_
            refine v_iload 1 d_Qy_partOf_71 rfl rfl ?_
            refine v_iadd d_Qy_partOf_73 rfl ?_
            refine v_nmi (fun z6 ez6 => ?_)
            refine v_istore_n (L' := [(3, .int z6), (6, .int 0), (5, .int wt), (4, .int x), (0, .ref 76), (1, .ref (28 + 3 * e)), (2, .int y)]) d_Qy_partOf_74 rfl (by decide) rfl rfl ?_
            obtain ⟨x7, ex7⟩ : ∃ y : Int32, y = x + 1 := ⟨_, rfl⟩
            have nx7 : x7 = nI (i + 1) := by rw [ex7, show x = nI i from ex]; exact nI_1 _
            refine v_iinc (n := 3) (v := x7) (L' := [(4, .int x7), (3, .int z6), (6, .int 0), (5, .int wt), (0, .ref 76), (1, .ref (28 + 3 * e)), (2, .int y)]) d_Qy_partOf_75 rfl (by rw [ex7]; rfl) (by decide) rfl rfl ?_
            refine v_goto (tgt := 5) d_Qy_partOf_78 (by decide) ?_
            refine v_sub (L' := [(4, .int x7), (3, .int z6), (0, .ref 76), (1, .ref (28 + 3 * e)), (2, .int y)]) [0, 1, 4, 5, 6] rfl ?_
            have hof : tO I y i = true := bI_t c2
            have hu : tU I i = true := by show decide (I (79 + 2 * i) 3 = 1) = true; rcases (hT i hik).2.2.2 with h9 | h9; exact absurd h9.symm c5; rw [h9]; decide
            rw [hof, if_pos rfl, hh, hu, if_neg (by decide), ← hwt, ← ez6] at hr
            exact ih (i + 1) _ _ nx7 (by omega) (by omega) hr
          · refine v_iconst (v := (-1)) d_Qy_partOf_68 (by decide) rfl ?_
            refine v_iret d_Qy_partOf_69 rfl ?_
            have hof : tO I y i = true := bI_t c2
            have hu : tU I i = false := by show decide (I (79 + 2 * i) 3 = 1) = false; rw [← c5]; decide
            rw [hof, if_pos rfl, hh, hu, if_pos rfl] at hr
            exact ⟨by rw [hr], rfl, rfl, rfl⟩
        · have hh : decide (0 < tW I J e m sz i) = true := by rw [← hwt]; exact decide_eq_true (Int32.not_le.mp c4)
          refine v_iconst (v := 1) d_Qy_partOf_46 (by decide) rfl ?_
          refine v_goto (tgt := 51) d_Qy_partOf_47 (by decide) ?_
          refine v_istore (L' := [(6, .int 1), (5, .int wt), (4, .int x), (3, .int z), (0, .ref 76), (1, .ref (28 + 3 * e)), (2, .int y)]) d_Qy_partOf_51 (by decide) rfl rfl ?_
          refine v_iload 0 d_Qy_partOf_53 rfl rfl ?_
          refine v_aload_n 4 d_Qy_partOf_55 rfl rfl rfl ?_
          refine v_getr (r := 78) d_Qy_partOf_56 fl_Qy_17 (hS.o (by decide) rfl) rfl (hS.r (by decide) rfl) rfl ?_
          refine v_iload 2 d_Qy_partOf_59 rfl rfl ?_
          refine v_aald (j := i) (r := (79 + 2 * i)) d_Qy_partOf_61 (hS.a (t := 36) (n := 21) (by decide) rfl) (by decide) ex (by omega) (by decide) (hS.tmR (by omega)) rfl ?_
          refine v_cVp (as := []) d_Qy_partOf_62 cs_Qy_67 (c_Tm_isUnwanted hC hS (d := d - 1) hi (hT i hik).2.2.2 (by omega)) (hS.tm hi) (by decide) rfl rfl rfl (by simp [Value.category]) (by omega) rfl ?_
          refine v_icmp_ne (tgt := 70) d_Qy_partOf_65 (by decide) rfl (fun c8 => ?_) (fun c8 => ?_)
          · refine v_iload_n 3 d_Qy_partOf_70 rfl rfl rfl ?_
            refine v_iload 1 d_Qy_partOf_71 rfl rfl ?_
            refine v_iadd d_Qy_partOf_73 rfl ?_
            refine v_nmi (fun z9 ez9 => ?_)
            refine v_istore_n (L' := [(3, .int z9), (6, .int 1), (5, .int wt), (4, .int x), (0, .ref 76), (1, .ref (28 + 3 * e)), (2, .int y)]) d_Qy_partOf_74 rfl (by decide) rfl rfl ?_
            obtain ⟨x10, ex10⟩ : ∃ y : Int32, y = x + 1 := ⟨_, rfl⟩
            have nx10 : x10 = nI (i + 1) := by rw [ex10, show x = nI i from ex]; exact nI_1 _
            refine v_iinc (n := 3) (v := x10) (L' := [(4, .int x10), (3, .int z9), (6, .int 1), (5, .int wt), (0, .ref 76), (1, .ref (28 + 3 * e)), (2, .int y)]) d_Qy_partOf_75 rfl (by rw [ex10]; rfl) (by decide) rfl rfl ?_
            refine v_goto (tgt := 5) d_Qy_partOf_78 (by decide) ?_
            refine v_sub (L' := [(4, .int x10), (3, .int z9), (0, .ref 76), (1, .ref (28 + 3 * e)), (2, .int y)]) [0, 1, 4, 5, 6] rfl ?_
            have hof : tO I y i = true := bI_t c2
            have hu : tU I i = false := by show decide (I (79 + 2 * i) 3 = 1) = false; rcases (hT i hik).2.2.2 with h9 | h9; rw [h9]; decide; exact absurd h9.symm c8
            rw [hof, if_pos rfl, hh, hu, if_neg (by decide), ← hwt, ← ez9] at hr
            exact ih (i + 1) _ _ nx10 (by omega) (by omega) hr
          · refine v_iconst (v := (-1)) d_Qy_partOf_68 (by decide) rfl ?_
            refine v_iret d_Qy_partOf_69 rfl ?_
            have hof : tO I y i = true := bI_t c2
            have hu : tU I i = true := by show decide (I (79 + 2 * i) 3 = 1) = true; rw [← c8]; decide
            rw [hof, if_pos rfl, hh, hu, if_pos rfl] at hr
            exact ⟨by rw [hr], rfl, rfl, rfl⟩
set_option maxHeartbeats 4000000 in
set_option maxRecDepth 100000 in
theorem c_Qy_partOf {C : CT} {l : Launch} {S : ShT} {I : DI} {J : DJ} {d : Nat} (hC : OKC C l) (hS : SHP S) {e m k : Nat} {sz : Nat → Nat}  (he : e < 16) (hm : m ≤ 30) (hk : k ≤ 21) (h3 : I 76 3 = nI k) (hn : I (28 + 3 * e) 2 = nI m) (hT : TmO I k sz) (y : Int32) (hd : 3 ≤ d) : Sp C l k_Qy_partOf y_Qy_partOf (d, 0, 0) [.ref 76, .ref (28 + 3 * e), .int y] S I J (PP (.int (prt I J e m k sz y)) S I J) := by
  refine Sp.of hC cd_Qy_partOf (Nat.le_of_ble_eq_true rfl) ?_
  show V C l k_Qy_partOf (d, 0, 0) _ 0 [(0, .ref 76), (1, .ref (28 + 3 * e)), (2, .int y)] [] S I J (0, 0)
  refine v_iconst (v := 0) d_Qy_partOf_0 (by decide) rfl ?_
  refine v_istore_n (L' := [(3, .int 0), (0, .ref 76), (1, .ref (28 + 3 * e)), (2, .int y)]) d_Qy_partOf_1 rfl (by decide) rfl rfl ?_
  refine v_iconst (v := 0) d_Qy_partOf_2 (by decide) rfl ?_
  refine v_istore (L' := [(4, .int 0), (3, .int 0), (0, .ref 76), (1, .ref (28 + 3 * e)), (2, .int y)]) d_Qy_partOf_3 (by decide) rfl rfl ?_
  exact lp_Qy_partOf hC hS hd he hm hk h3 hn hT (k + 1) 0 _ _ rfl (by omega) (by omega) rfl
def sco (I : DI) (J : DJ) (e m k g : Nat) (sz : Nat → Nat) : Int32 := scF (fun j => prt I J e m k sz (nI j)) g 0 (-1)
set_option maxHeartbeats 4000000 in
set_option maxRecDepth 100000 in
theorem lp_Qy_scoreOf {C : CT} {l : Launch} {S : ShT} {d : Nat} (hC : OKC C l) (hS : SHP S) (hd : 4 ≤ d) {I : DI} {J : DJ} {e m k g : Nat} {sz : Nat → Nat} (he : e < 16) (hm : m ≤ 30) (hk : k ≤ 21) (hg : g ≤ 100) (h3 : I 76 3 = nI k) (h4 : I 76 4 = nI g) (hn : I (28 + 3 * e) 2 = nI m) (hT : TmO I k sz) : ∀ (n : Nat) (i : Nat) (x z : Int32), x = nI i → i ≤ g → g < i + n → sco I J e m k g sz = scF (fun j => prt I J e m k sz (nI j)) (g - i) i z → V C l k_Qy_scoreOf (d, 0, 0) (PP (.int (sco I J e m k g sz)) S I J) 4 [(3, .int x), (2, .int z), (0, .ref 76), (1, .ref (28 + 3 * e))] [] S I J (0, 0) := by
  intro n
  induction n with
  | zero =>
    intro i x z ex hi0 hf hr
    omega
  | succ n ih =>
    intro i x z ex hi0 hf hr
    refine v_iload_n 0 d_Qy_scoreOf_4 rfl rfl rfl ?_
    refine v_aload_n 2 d_Qy_scoreOf_5 rfl rfl rfl ?_
    refine v_geti d_Qy_scoreOf_6 fl_Qy_35 (hS.o (by decide) rfl) rfl rfl ?_
    refine v_icmp_ge (tgt := 41) d_Qy_scoreOf_9 (by decide) rfl (fun c1 => ?_) (fun c1 => ?_)
    · refine v_iload_n 1 d_Qy_scoreOf_41 rfl rfl rfl ?_
      refine v_iret d_Qy_scoreOf_42 rfl ?_
      have hik : i = g := by rcases Nat.lt_or_ge i g with h9 | h9; exact absurd c1 (by rw [ex, h4]; exact nI_ge h9 (by omega)); omega
      rw [hik, Nat.sub_self] at hr
      exact ⟨by rw [hr]; rfl, rfl, rfl, rfl⟩
    · have hig : i < g := by rcases Nat.lt_or_ge i g with h9 | h9; exact h9; exact absurd (by rw [ex, h4]; exact nI_le h9 (by omega)) c1
      rw [show g - i = (g - (i + 1)) + 1 by omega, scF_s] at hr
      refine v_aload_n 2 d_Qy_scoreOf_12 rfl rfl rfl ?_
      refine v_aload_n 3 d_Qy_scoreOf_13 rfl rfl rfl ?_
      refine v_iload_n 0 d_Qy_scoreOf_14 rfl rfl rfl ?_
      refine v_cVp (as := [.ref (28 + 3 * e), .int x]) d_Qy_scoreOf_15 cs_Qy_49 (by rw [ex]; exact c_Qy_partOf hC hS (d := d - 1) he hm hk h3 hn hT (nI i) (by omega)) (hS.o (by decide) rfl) (by decide) rfl rfl rfl (by decide) (by omega) rfl ?_
      obtain ⟨pt, hpt⟩ : ∃ z : Int32, z = prt I J e m k sz (nI i) := ⟨_, rfl⟩
      rw [← hpt]
      refine v_istore (L' := [(4, .int pt), (3, .int x), (2, .int z), (0, .ref 76), (1, .ref (28 + 3 * e))]) d_Qy_scoreOf_18 (by decide) rfl rfl ?_
      refine v_iload 0 d_Qy_scoreOf_20 rfl rfl ?_
      refine v_iconst (v := (-1)) d_Qy_scoreOf_22 (by decide) rfl ?_
      refine v_icmp_eq (tgt := 35) d_Qy_scoreOf_23 (by decide) rfl (fun c2 => ?_) (fun c2 => ?_)
      · obtain ⟨x3, ex3⟩ : ∃ y : Int32, y = x + 1 := ⟨_, rfl⟩
        have nx3 : x3 = nI (i + 1) := by rw [ex3, show x = nI i from ex]; exact nI_1 _
        refine v_iinc (n := 1) (v := x3) (L' := [(3, .int x3), (4, .int pt), (2, .int z), (0, .ref 76), (1, .ref (28 + 3 * e))]) d_Qy_scoreOf_35 rfl (by rw [ex3]; rfl) (by decide) rfl rfl ?_
        refine v_goto (tgt := 4) d_Qy_scoreOf_38 (by decide) ?_
        refine v_sub (L' := [(3, .int x3), (2, .int z), (0, .ref 76), (1, .ref (28 + 3 * e))]) [0, 2, 3, 4] rfl ?_
        simp only [← hpt] at hr
        rw [if_pos c2] at hr
        exact ih (i + 1) _ _ nx3 (by omega) (by omega) hr
      · refine v_iload_n 2 d_Qy_scoreOf_26 rfl rfl rfl ?_
        refine v_iconst (v := 0) d_Qy_scoreOf_27 (by decide) rfl ?_
        refine v_max d_Qy_scoreOf_28 wm_Qy_53 ws_Mt_max (by omega) (by decide) rfl ?_
        refine v_nmi (fun z4 ez4 => ?_)
        refine v_iload 0 d_Qy_scoreOf_31 rfl rfl ?_
        refine v_iadd d_Qy_scoreOf_33 rfl ?_
        refine v_nmi (fun z5 ez5 => ?_)
        refine v_istore_n (L' := [(2, .int z5), (4, .int pt), (3, .int x), (0, .ref 76), (1, .ref (28 + 3 * e))]) d_Qy_scoreOf_34 rfl (by decide) rfl rfl ?_
        obtain ⟨x6, ex6⟩ : ∃ y : Int32, y = x + 1 := ⟨_, rfl⟩
        have nx6 : x6 = nI (i + 1) := by rw [ex6, show x = nI i from ex]; exact nI_1 _
        refine v_iinc (n := 2) (v := x6) (L' := [(3, .int x6), (2, .int z5), (4, .int pt), (0, .ref 76), (1, .ref (28 + 3 * e))]) d_Qy_scoreOf_35 rfl (by rw [ex6]; rfl) (by decide) rfl rfl ?_
        refine v_goto (tgt := 4) d_Qy_scoreOf_38 (by decide) ?_
        refine v_sub (L' := [(3, .int x6), (2, .int z5), (0, .ref 76), (1, .ref (28 + 3 * e))]) [0, 1, 3, 4] rfl ?_
        simp only [← hpt] at hr
        rw [if_neg c2, ← ez4, ← ez5] at hr
        exact ih (i + 1) _ _ nx6 (by omega) (by omega) hr
set_option maxHeartbeats 4000000 in
set_option maxRecDepth 100000 in
theorem c_Qy_scoreOf {C : CT} {l : Launch} {S : ShT} {I : DI} {J : DJ} {d : Nat} (hC : OKC C l) (hS : SHP S) {e m k g : Nat} {sz : Nat → Nat} (he : e < 16) (hm : m ≤ 30) (hk : k ≤ 21) (hg : g ≤ 100) (h3 : I 76 3 = nI k) (h4 : I 76 4 = nI g) (hn : I (28 + 3 * e) 2 = nI m) (hT : TmO I k sz) (hd : 4 ≤ d) : Sp C l k_Qy_scoreOf y_Qy_scoreOf (d, 0, 0) [.ref 76, .ref (28 + 3 * e)] S I J (PP (.int (sco I J e m k g sz)) S I J) := by
  refine Sp.of hC cd_Qy_scoreOf (Nat.le_of_ble_eq_true rfl) ?_
  show V C l k_Qy_scoreOf (d, 0, 0) _ 0 [(0, .ref 76), (1, .ref (28 + 3 * e))] [] S I J (0, 0)
  refine v_iconst (v := (-1)) d_Qy_scoreOf_0 (by decide) rfl ?_
  refine v_istore_n (L' := [(2, .int (-1)), (0, .ref 76), (1, .ref (28 + 3 * e))]) d_Qy_scoreOf_1 rfl (by decide) rfl rfl ?_
  refine v_iconst (v := 0) d_Qy_scoreOf_2 (by decide) rfl ?_
  refine v_istore_n (L' := [(3, .int 0), (2, .int (-1)), (0, .ref 76), (1, .ref (28 + 3 * e))]) d_Qy_scoreOf_3 rfl (by decide) rfl rfl ?_
  exact lp_Qy_scoreOf hC hS hd he hm hk hg h3 h4 hn hT (g + 1) 0 _ _ rfl (by omega) (by omega) rfl
