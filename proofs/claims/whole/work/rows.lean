section
-- ===== PART A: goes FIRST, ahead of the names: the tables' words, and 'selects' of the private methods out of them =====
/-- a private method of a class that the tables say can be made, by its rows of tables_1 -/
def lw_okq (q : MethodName × Nat) : Prop := (q.1.cls ≠ "java/lang/invoke/MethodHandle" ∧ q.1.cls ≠ "java/lang/invoke/VarHandle") ∧ Cond.instantiable q.1.cls q.2 ∈ tables_1 ∧ Cond.privateMethod q.1 ∈ tables_1 ∧ Cond.instanceMethod q.1 ∈ tables_1
theorem lw_p0 : lw_okq (⟨"FileIndexer", "readFile", "(I)V"⟩, 6) := ⟨⟨by decide +kernel, by decide +kernel⟩, List.mem_of_getElem? (i := 18) (by decide +kernel), List.mem_of_getElem? (i := 199) (by decide +kernel), List.mem_of_getElem? (i := 200) (by decide +kernel)⟩
theorem lw_p1 : lw_okq (⟨"FileIndexer$Entry", "add", "(JI)V"⟩, 3) := ⟨⟨by decide +kernel, by decide +kernel⟩, List.mem_of_getElem? (i := 74) (by decide +kernel), List.mem_of_getElem? (i := 228) (by decide +kernel), List.mem_of_getElem? (i := 229) (by decide +kernel)⟩
theorem lw_p2 : lw_okq (⟨"java/lang/Throwable", "fillInStackTrace", "(I)Ljava/lang/Throwable;"⟩, 6) := ⟨⟨by decide +kernel, by decide +kernel⟩, List.mem_of_getElem? (i := 295) (by decide +kernel), List.mem_of_getElem? (i := 293) (by decide +kernel), List.mem_of_getElem? (i := 294) (by decide +kernel)⟩
theorem lw_p3 : lw_okq (⟨"FileIndexer$Queue", "placeOf", "(I)I"⟩, 4) := ⟨⟨by decide +kernel, by decide +kernel⟩, List.mem_of_getElem? (i := 48) (by decide +kernel), List.mem_of_getElem? (i := 351) (by decide +kernel), List.mem_of_getElem? (i := 352) (by decide +kernel)⟩
theorem lw_p4 : lw_okq (⟨"FileIndexer$Queue", "putTogether", "(II)V"⟩, 4) := ⟨⟨by decide +kernel, by decide +kernel⟩, List.mem_of_getElem? (i := 48) (by decide +kernel), List.mem_of_getElem? (i := 355) (by decide +kernel), List.mem_of_getElem? (i := 356) (by decide +kernel)⟩
theorem lw_p5 : lw_okq (⟨"FileIndexer", "removeOne", "(I)V"⟩, 6) := ⟨⟨by decide +kernel, by decide +kernel⟩, List.mem_of_getElem? (i := 18) (by decide +kernel), List.mem_of_getElem? (i := 422) (by decide +kernel), List.mem_of_getElem? (i := 423) (by decide +kernel)⟩
theorem lw_p6 : lw_okq (⟨"FileIndexer", "follow", "(II)V"⟩, 6) := ⟨⟨by decide +kernel, by decide +kernel⟩, List.mem_of_getElem? (i := 18) (by decide +kernel), List.mem_of_getElem? (i := 471) (by decide +kernel), List.mem_of_getElem? (i := 472) (by decide +kernel)⟩
theorem lw_p7 : lw_okq (⟨"FileIndexer$Query", "parseAlternative", "()V"⟩, 7) := ⟨⟨by decide +kernel, by decide +kernel⟩, List.mem_of_getElem? (i := 102) (by decide +kernel), List.mem_of_getElem? (i := 506) (by decide +kernel), List.mem_of_getElem? (i := 507) (by decide +kernel)⟩
theorem lw_p8 : lw_okq (⟨"FileIndexer$Query", "skipBlanks", "()V"⟩, 7) := ⟨⟨by decide +kernel, by decide +kernel⟩, List.mem_of_getElem? (i := 102) (by decide +kernel), List.mem_of_getElem? (i := 510) (by decide +kernel), List.mem_of_getElem? (i := 511) (by decide +kernel)⟩
theorem lw_p9 : lw_okq (⟨"FileIndexer$Query", "parseTerm", "()V"⟩, 7) := ⟨⟨by decide +kernel, by decide +kernel⟩, List.mem_of_getElem? (i := 102) (by decide +kernel), List.mem_of_getElem? (i := 514) (by decide +kernel), List.mem_of_getElem? (i := 515) (by decide +kernel)⟩
theorem lw_p10 : lw_okq (⟨"FileIndexer$Query", "next", "()I"⟩, 7) := ⟨⟨by decide +kernel, by decide +kernel⟩, List.mem_of_getElem? (i := 102) (by decide +kernel), List.mem_of_getElem? (i := 523) (by decide +kernel), List.mem_of_getElem? (i := 524) (by decide +kernel)⟩
theorem lw_p11 : lw_okq (⟨"FileIndexer$Query", "parsePhrase", "(LFileIndexer$Term;)V"⟩, 7) := ⟨⟨by decide +kernel, by decide +kernel⟩, List.mem_of_getElem? (i := 102) (by decide +kernel), List.mem_of_getElem? (i := 531) (by decide +kernel), List.mem_of_getElem? (i := 532) (by decide +kernel)⟩
theorem lw_p12 : lw_okq (⟨"FileIndexer$Query", "isFaulty", "()Z"⟩, 7) := ⟨⟨by decide +kernel, by decide +kernel⟩, List.mem_of_getElem? (i := 102) (by decide +kernel), List.mem_of_getElem? (i := 535) (by decide +kernel), List.mem_of_getElem? (i := 536) (by decide +kernel)⟩
theorem lw_p13 : lw_okq (⟨"FileIndexer$Query", "parseWord", "(LFileIndexer$Term;)V"⟩, 7) := ⟨⟨by decide +kernel, by decide +kernel⟩, List.mem_of_getElem? (i := 102) (by decide +kernel), List.mem_of_getElem? (i := 540) (by decide +kernel), List.mem_of_getElem? (i := 541) (by decide +kernel)⟩
theorem lw_p14 : lw_okq (⟨"FileIndexer$Query", "parseWordOrBeginning", "(LFileIndexer$Term;)V"⟩, 7) := ⟨⟨by decide +kernel, by decide +kernel⟩, List.mem_of_getElem? (i := 102) (by decide +kernel), List.mem_of_getElem? (i := 553) (by decide +kernel), List.mem_of_getElem? (i := 554) (by decide +kernel)⟩
theorem lw_p15 : lw_okq (⟨"FileIndexer$Query", "endTerm", "()V"⟩, 7) := ⟨⟨by decide +kernel, by decide +kernel⟩, List.mem_of_getElem? (i := 102) (by decide +kernel), List.mem_of_getElem? (i := 561) (by decide +kernel), List.mem_of_getElem? (i := 562) (by decide +kernel)⟩
def lw_privs_1 : List (MethodName × Nat) := [(⟨"FileIndexer", "readFile", "(I)V"⟩, 6), (⟨"FileIndexer$Entry", "add", "(JI)V"⟩, 3), (⟨"java/lang/Throwable", "fillInStackTrace", "(I)Ljava/lang/Throwable;"⟩, 6), (⟨"FileIndexer$Queue", "placeOf", "(I)I"⟩, 4), (⟨"FileIndexer$Queue", "putTogether", "(II)V"⟩, 4), (⟨"FileIndexer", "removeOne", "(I)V"⟩, 6), (⟨"FileIndexer", "follow", "(II)V"⟩, 6), (⟨"FileIndexer$Query", "parseAlternative", "()V"⟩, 7), (⟨"FileIndexer$Query", "skipBlanks", "()V"⟩, 7), (⟨"FileIndexer$Query", "parseTerm", "()V"⟩, 7), (⟨"FileIndexer$Query", "next", "()I"⟩, 7), (⟨"FileIndexer$Query", "parsePhrase", "(LFileIndexer$Term;)V"⟩, 7), (⟨"FileIndexer$Query", "isFaulty", "()Z"⟩, 7), (⟨"FileIndexer$Query", "parseWord", "(LFileIndexer$Term;)V"⟩, 7), (⟨"FileIndexer$Query", "parseWordOrBeginning", "(LFileIndexer$Term;)V"⟩, 7), (⟨"FileIndexer$Query", "endTerm", "()V"⟩, 7)]
theorem lw_r1 : ∀ q ∈ lw_privs_1, lw_okq q := List.forall_mem_cons.mpr ⟨lw_p0, List.forall_mem_cons.mpr ⟨lw_p1, List.forall_mem_cons.mpr ⟨lw_p2, List.forall_mem_cons.mpr ⟨lw_p3, List.forall_mem_cons.mpr ⟨lw_p4, List.forall_mem_cons.mpr ⟨lw_p5, List.forall_mem_cons.mpr ⟨lw_p6, List.forall_mem_cons.mpr ⟨lw_p7, List.forall_mem_cons.mpr ⟨lw_p8, List.forall_mem_cons.mpr ⟨lw_p9, List.forall_mem_cons.mpr ⟨lw_p10, List.forall_mem_cons.mpr ⟨lw_p11, List.forall_mem_cons.mpr ⟨lw_p12, List.forall_mem_cons.mpr ⟨lw_p13, List.forall_mem_cons.mpr ⟨lw_p14, List.forall_mem_cons.mpr ⟨lw_p15, fun _ h => absurd h List.not_mem_nil⟩⟩⟩⟩⟩⟩⟩⟩⟩⟩⟩⟩⟩⟩⟩⟩
theorem lw_p16 : lw_okq (⟨"FileIndexer$Query", "atAlternativeEnd", "()Z"⟩, 7) := ⟨⟨by decide +kernel, by decide +kernel⟩, List.mem_of_getElem? (i := 102) (by decide +kernel), List.mem_of_getElem? (i := 565) (by decide +kernel), List.mem_of_getElem? (i := 566) (by decide +kernel)⟩
theorem lw_p17 : lw_okq (⟨"FileIndexer", "isSearched", "(II)Z"⟩, 6) := ⟨⟨by decide +kernel, by decide +kernel⟩, List.mem_of_getElem? (i := 18) (by decide +kernel), List.mem_of_getElem? (i := 578) (by decide +kernel), List.mem_of_getElem? (i := 579) (by decide +kernel)⟩
theorem lw_p18 : lw_okq (⟨"FileIndexer", "rank", "(I)V"⟩, 6) := ⟨⟨by decide +kernel, by decide +kernel⟩, List.mem_of_getElem? (i := 18) (by decide +kernel), List.mem_of_getElem? (i := 582) (by decide +kernel), List.mem_of_getElem? (i := 583) (by decide +kernel)⟩
theorem lw_p19 : lw_okq (⟨"FileIndexer$Query", "partOf", "(LFileIndexer$Entry;I)I"⟩, 7) := ⟨⟨by decide +kernel, by decide +kernel⟩, List.mem_of_getElem? (i := 102) (by decide +kernel), List.mem_of_getElem? (i := 594) (by decide +kernel), List.mem_of_getElem? (i := 595) (by decide +kernel)⟩
theorem lw_p20 : lw_okq (⟨"FileIndexer$Term", "hits", "(LFileIndexer$Entry;I)Z"⟩, 5) := ⟨⟨by decide +kernel, by decide +kernel⟩, List.mem_of_getElem? (i := 109) (by decide +kernel), List.mem_of_getElem? (i := 610) (by decide +kernel), List.mem_of_getElem? (i := 611) (by decide +kernel)⟩
theorem lw_p21 : lw_okq (⟨"FileIndexerModel", "raise", "(I)I"⟩, 34) := ⟨⟨by decide +kernel, by decide +kernel⟩, List.mem_of_getElem? (i := 691) (by decide +kernel), List.mem_of_getElem? (i := 811) (by decide +kernel), List.mem_of_getElem? (i := 812) (by decide +kernel)⟩
theorem lw_p22 : lw_okq (⟨"FileIndexerModel", "isFolder", "(I)Z"⟩, 34) := ⟨⟨by decide +kernel, by decide +kernel⟩, List.mem_of_getElem? (i := 691) (by decide +kernel), List.mem_of_getElem? (i := 815) (by decide +kernel), List.mem_of_getElem? (i := 816) (by decide +kernel)⟩
theorem lw_p23 : lw_okq (⟨"FileIndexerModel", "tell", "(II)V"⟩, 34) := ⟨⟨by decide +kernel, by decide +kernel⟩, List.mem_of_getElem? (i := 691) (by decide +kernel), List.mem_of_getElem? (i := 819) (by decide +kernel), List.mem_of_getElem? (i := 820) (by decide +kernel)⟩
theorem lw_p24 : lw_okq (⟨"FileIndexerModel", "drop", "(I)V"⟩, 34) := ⟨⟨by decide +kernel, by decide +kernel⟩, List.mem_of_getElem? (i := 691) (by decide +kernel), List.mem_of_getElem? (i := 826) (by decide +kernel), List.mem_of_getElem? (i := 827) (by decide +kernel)⟩
theorem lw_p25 : lw_okq (⟨"FileIndexerModel", "isFile", "(I)Z"⟩, 34) := ⟨⟨by decide +kernel, by decide +kernel⟩, List.mem_of_getElem? (i := 691) (by decide +kernel), List.mem_of_getElem? (i := 834) (by decide +kernel), List.mem_of_getElem? (i := 835) (by decide +kernel)⟩
theorem lw_p26 : lw_okq (⟨"FileIndexerModel", "mark", "(I)V"⟩, 34) := ⟨⟨by decide +kernel, by decide +kernel⟩, List.mem_of_getElem? (i := 691) (by decide +kernel), List.mem_of_getElem? (i := 846) (by decide +kernel), List.mem_of_getElem? (i := 847) (by decide +kernel)⟩
theorem lw_p27 : lw_okq (⟨"FileIndexerModel", "within", "(II)Z"⟩, 34) := ⟨⟨by decide +kernel, by decide +kernel⟩, List.mem_of_getElem? (i := 691) (by decide +kernel), List.mem_of_getElem? (i := 850) (by decide +kernel), List.mem_of_getElem? (i := 851) (by decide +kernel)⟩
theorem lw_p28 : lw_okq (⟨"FileIndexerModel", "read", "(I)V"⟩, 34) := ⟨⟨by decide +kernel, by decide +kernel⟩, List.mem_of_getElem? (i := 691) (by decide +kernel), List.mem_of_getElem? (i := 862) (by decide +kernel), List.mem_of_getElem? (i := 863) (by decide +kernel)⟩
theorem lw_p29 : lw_okq (⟨"FileIndexerModel", "parse", "()I"⟩, 34) := ⟨⟨by decide +kernel, by decide +kernel⟩, List.mem_of_getElem? (i := 691) (by decide +kernel), List.mem_of_getElem? (i := 881) (by decide +kernel), List.mem_of_getElem? (i := 882) (by decide +kernel)⟩
theorem lw_p30 : lw_okq (⟨"FileIndexerModel", "blanks", "()V"⟩, 34) := ⟨⟨by decide +kernel, by decide +kernel⟩, List.mem_of_getElem? (i := 691) (by decide +kernel), List.mem_of_getElem? (i := 885) (by decide +kernel), List.mem_of_getElem? (i := 886) (by decide +kernel)⟩
theorem lw_p31 : lw_okq (⟨"FileIndexerModel", "now", "()I"⟩, 34) := ⟨⟨by decide +kernel, by decide +kernel⟩, List.mem_of_getElem? (i := 691) (by decide +kernel), List.mem_of_getElem? (i := 889) (by decide +kernel), List.mem_of_getElem? (i := 890) (by decide +kernel)⟩
def lw_privs_2 : List (MethodName × Nat) := [(⟨"FileIndexer$Query", "atAlternativeEnd", "()Z"⟩, 7), (⟨"FileIndexer", "isSearched", "(II)Z"⟩, 6), (⟨"FileIndexer", "rank", "(I)V"⟩, 6), (⟨"FileIndexer$Query", "partOf", "(LFileIndexer$Entry;I)I"⟩, 7), (⟨"FileIndexer$Term", "hits", "(LFileIndexer$Entry;I)Z"⟩, 5), (⟨"FileIndexerModel", "raise", "(I)I"⟩, 34), (⟨"FileIndexerModel", "isFolder", "(I)Z"⟩, 34), (⟨"FileIndexerModel", "tell", "(II)V"⟩, 34), (⟨"FileIndexerModel", "drop", "(I)V"⟩, 34), (⟨"FileIndexerModel", "isFile", "(I)Z"⟩, 34), (⟨"FileIndexerModel", "mark", "(I)V"⟩, 34), (⟨"FileIndexerModel", "within", "(II)Z"⟩, 34), (⟨"FileIndexerModel", "read", "(I)V"⟩, 34), (⟨"FileIndexerModel", "parse", "()I"⟩, 34), (⟨"FileIndexerModel", "blanks", "()V"⟩, 34), (⟨"FileIndexerModel", "now", "()I"⟩, 34)]
theorem lw_r2 : ∀ q ∈ lw_privs_2, lw_okq q := List.forall_mem_cons.mpr ⟨lw_p16, List.forall_mem_cons.mpr ⟨lw_p17, List.forall_mem_cons.mpr ⟨lw_p18, List.forall_mem_cons.mpr ⟨lw_p19, List.forall_mem_cons.mpr ⟨lw_p20, List.forall_mem_cons.mpr ⟨lw_p21, List.forall_mem_cons.mpr ⟨lw_p22, List.forall_mem_cons.mpr ⟨lw_p23, List.forall_mem_cons.mpr ⟨lw_p24, List.forall_mem_cons.mpr ⟨lw_p25, List.forall_mem_cons.mpr ⟨lw_p26, List.forall_mem_cons.mpr ⟨lw_p27, List.forall_mem_cons.mpr ⟨lw_p28, List.forall_mem_cons.mpr ⟨lw_p29, List.forall_mem_cons.mpr ⟨lw_p30, List.forall_mem_cons.mpr ⟨lw_p31, fun _ h => absurd h List.not_mem_nil⟩⟩⟩⟩⟩⟩⟩⟩⟩⟩⟩⟩⟩⟩⟩⟩
theorem lw_p32 : lw_okq (⟨"FileIndexerModel", "takeTerm", "(I)V"⟩, 34) := ⟨⟨by decide +kernel, by decide +kernel⟩, List.mem_of_getElem? (i := 691) (by decide +kernel), List.mem_of_getElem? (i := 893) (by decide +kernel), List.mem_of_getElem? (i := 894) (by decide +kernel)⟩
theorem lw_p33 : lw_okq (⟨"FileIndexerModel", "takePhrase", "()V"⟩, 34) := ⟨⟨by decide +kernel, by decide +kernel⟩, List.mem_of_getElem? (i := 691) (by decide +kernel), List.mem_of_getElem? (i := 897) (by decide +kernel), List.mem_of_getElem? (i := 898) (by decide +kernel)⟩
theorem lw_p34 : lw_okq (⟨"FileIndexerModel", "blame", "()V"⟩, 34) := ⟨⟨by decide +kernel, by decide +kernel⟩, List.mem_of_getElem? (i := 691) (by decide +kernel), List.mem_of_getElem? (i := 901) (by decide +kernel), List.mem_of_getElem? (i := 902) (by decide +kernel)⟩
theorem lw_p35 : lw_okq (⟨"FileIndexerModel", "takeWord", "()V"⟩, 34) := ⟨⟨by decide +kernel, by decide +kernel⟩, List.mem_of_getElem? (i := 691) (by decide +kernel), List.mem_of_getElem? (i := 905) (by decide +kernel), List.mem_of_getElem? (i := 906) (by decide +kernel)⟩
theorem lw_p36 : lw_okq (⟨"FileIndexerModel", "score", "(II)I"⟩, 34) := ⟨⟨by decide +kernel, by decide +kernel⟩, List.mem_of_getElem? (i := 691) (by decide +kernel), List.mem_of_getElem? (i := 909) (by decide +kernel), List.mem_of_getElem? (i := 910) (by decide +kernel)⟩
theorem lw_p37 : lw_okq (⟨"FileIndexerModel", "hits", "(II)I"⟩, 34) := ⟨⟨by decide +kernel, by decide +kernel⟩, List.mem_of_getElem? (i := 691) (by decide +kernel), List.mem_of_getElem? (i := 913) (by decide +kernel), List.mem_of_getElem? (i := 914) (by decide +kernel)⟩
theorem lw_p38 : lw_okq (⟨"FileIndexerModel", "hit", "(II)Z"⟩, 34) := ⟨⟨by decide +kernel, by decide +kernel⟩, List.mem_of_getElem? (i := 691) (by decide +kernel), List.mem_of_getElem? (i := 917) (by decide +kernel), List.mem_of_getElem? (i := 918) (by decide +kernel)⟩
theorem lw_p39 : lw_okq (⟨"FileIndexerModel", "place", "(II)V"⟩, 34) := ⟨⟨by decide +kernel, by decide +kernel⟩, List.mem_of_getElem? (i := 691) (by decide +kernel), List.mem_of_getElem? (i := 921) (by decide +kernel), List.mem_of_getElem? (i := 922) (by decide +kernel)⟩
def lw_privs_3 : List (MethodName × Nat) := [(⟨"FileIndexerModel", "takeTerm", "(I)V"⟩, 34), (⟨"FileIndexerModel", "takePhrase", "()V"⟩, 34), (⟨"FileIndexerModel", "blame", "()V"⟩, 34), (⟨"FileIndexerModel", "takeWord", "()V"⟩, 34), (⟨"FileIndexerModel", "score", "(II)I"⟩, 34), (⟨"FileIndexerModel", "hits", "(II)I"⟩, 34), (⟨"FileIndexerModel", "hit", "(II)Z"⟩, 34), (⟨"FileIndexerModel", "place", "(II)V"⟩, 34)]
theorem lw_r3 : ∀ q ∈ lw_privs_3, lw_okq q := List.forall_mem_cons.mpr ⟨lw_p32, List.forall_mem_cons.mpr ⟨lw_p33, List.forall_mem_cons.mpr ⟨lw_p34, List.forall_mem_cons.mpr ⟨lw_p35, List.forall_mem_cons.mpr ⟨lw_p36, List.forall_mem_cons.mpr ⟨lw_p37, List.forall_mem_cons.mpr ⟨lw_p38, List.forall_mem_cons.mpr ⟨lw_p39, fun _ h => absurd h List.not_mem_nil⟩⟩⟩⟩⟩⟩⟩⟩
def lw_privs : List (MethodName × Nat) := lw_privs_1 ++ (lw_privs_2 ++ (lw_privs_3))
def lw_tbl : List Cond := k2_sels lw_privs ++ tables_1
theorem lw_privs_ok : ∀ q ∈ lw_privs, lw_okq q := by
  show ∀ q ∈ lw_privs_1 ++ (lw_privs_2 ++ (lw_privs_3)), lw_okq q
  exact List.forall_mem_append.mpr ⟨lw_r1, List.forall_mem_append.mpr ⟨lw_r2, lw_r3⟩⟩
end
section
-- NAMES, printed by wip/gen/parts1.py out of the claim's listings
def Wd (w : Cond) : Prop := w ∈ lw_tbl ∧ goodWord w = true
theorem lw_in {w : Cond} (h : w ∈ tables_1) : w ∈ lw_tbl := List.mem_append_right _ h
theorem Wd.t {w : Cond} (i : Nat) (h : tables_1[i]? = some w) (g : goodWord w = true) : Wd w := ⟨lw_in (List.mem_of_getElem? h), g⟩
def kT0 : u_T := fun k => match k with
  | 0 => ("FileIndexer$Entry", "spellings", "[J", true)
  | 1 => ("FileIndexer$Entry", "weights", "[I", true)
  | _ => ("FileIndexer$Entry", "size", "I", false)
def kY0 : Nat → FieldType := fun k => match k with
  | 0 => .array .long
  | 1 => .array .int
  | _ => .int
def kT1 : u_T := fun k => match k with
  | 0 => ("FileIndexer$Index", "entries", "[LFileIndexer$Entry;", true)
  | 1 => ("FileIndexer$Index", "held", "[Z", true)
  | _ => ("FileIndexer$Index", "timesRead", "I", false)
def kY1 : Nat → FieldType := fun k => match k with
  | 0 => .array (.object "FileIndexer$Entry")
  | 1 => .array .boolean
  | _ => .int
def kT2 : u_T := fun k => match k with
  | 0 => ("FileIndexer$Query", "text", "[I", true)
  | 1 => ("FileIndexer$Query", "length", "I", false)
  | 2 => ("FileIndexer$Query", "terms", "[LFileIndexer$Term;", true)
  | 3 => ("FileIndexer$Query", "termsFound", "I", false)
  | 4 => ("FileIndexer$Query", "alternatives", "I", false)
  | 5 => ("FileIndexer$Query", "at", "I", false)
  | _ => ("FileIndexer$Query", "firstFault", "I", false)
def kY2 : Nat → FieldType := fun k => match k with
  | 0 => .array .int
  | 1 => .int
  | 2 => .array (.object "FileIndexer$Term")
  | 3 => .int
  | 4 => .int
  | 5 => .int
  | _ => .int
def kT3 : u_T := fun k => match k with
  | 0 => ("FileIndexer$Queue", "kinds", "[I", true)
  | 1 => ("FileIndexer$Queue", "files", "[I", true)
  | 2 => ("FileIndexer$Queue", "size", "I", false)
  | _ => ("FileIndexer$Queue", "lost", "Z", false)
def kY3 : Nat → FieldType := fun k => match k with
  | 0 => .array .int
  | 1 => .array .int
  | 2 => .int
  | _ => .boolean
def kT4 : u_T := fun k => match k with
  | 0 => ("FileIndexer$Ranking", "files", "[I", true)
  | 1 => ("FileIndexer$Ranking", "scores", "[I", true)
  | _ => ("FileIndexer$Ranking", "size", "I", false)
def kY4 : Nat → FieldType := fun k => match k with
  | 0 => .array .int
  | 1 => .array .int
  | _ => .int
def kT5 : u_T := fun k => match k with
  | 0 => ("FileIndexer$Term", "spellings", "[J", true)
  | 1 => ("FileIndexer$Term", "size", "I", false)
  | 2 => ("FileIndexer$Term", "alternative", "I", false)
  | 3 => ("FileIndexer$Term", "unwanted", "Z", false)
  | _ => ("FileIndexer$Term", "compared", "J", false)
def kY5 : Nat → FieldType := fun k => match k with
  | 0 => .array .long
  | 1 => .int
  | 2 => .int
  | 3 => .boolean
  | _ => .long
def kT6 : u_T := fun k => match k with
  | 0 => ("FileIndexer$Tree", "states", "[I", true)
  | 1 => ("FileIndexer$Tree", "parents", "[I", true)
  | 2 => ("FileIndexer$Tree", "contents", "[[I", true)
  | _ => ("FileIndexer$Tree", "lengths", "[I", true)
def kY6 : Nat → FieldType := fun k => match k with
  | 0 => .array .int
  | 1 => .array .int
  | 2 => .array (.array .int)
  | _ => .array .int
def kT7 : u_T := fun k => match k with
  | 0 => ("FileIndexer", "tree", "LFileIndexer$Tree;", true)
  | 1 => ("FileIndexer", "queue", "LFileIndexer$Queue;", true)
  | 2 => ("FileIndexer", "index", "LFileIndexer$Index;", true)
  | 3 => ("FileIndexer", "query", "LFileIndexer$Query;", true)
  | 4 => ("FileIndexer", "ranking", "LFileIndexer$Ranking;", true)
  | _ => ("FileIndexer", "faultPlace", "I", false)
def kY7 : Nat → FieldType := fun k => match k with
  | 0 => .object "FileIndexer$Tree"
  | 1 => .object "FileIndexer$Queue"
  | 2 => .object "FileIndexer$Index"
  | 3 => .object "FileIndexer$Query"
  | 4 => .object "FileIndexer$Ranking"
  | _ => .int
def kT8 : u_T := fun k => match k with
  | 0 => ("FileIndexerModel", "thrown", "I", false)
  | 1 => ("FileIndexerModel", "there", "[Z", true)
  | 2 => ("FileIndexerModel", "folder", "[Z", true)
  | 3 => ("FileIndexerModel", "parent", "[I", true)
  | 4 => ("FileIndexerModel", "content", "[I", true)
  | 5 => ("FileIndexerModel", "length", "[I", true)
  | 6 => ("FileIndexerModel", "marked", "[Z", true)
  | 7 => ("FileIndexerModel", "eventKind", "[I", true)
  | 8 => ("FileIndexerModel", "eventFile", "[I", true)
  | 9 => ("FileIndexerModel", "events", "I", false)
  | 10 => ("FileIndexerModel", "lost", "Z", false)
  | 11 => ("FileIndexerModel", "reads", "I", false)
  | 12 => ("FileIndexerModel", "indexed", "[Z", true)
  | 13 => ("FileIndexerModel", "words", "[I", true)
  | 14 => ("FileIndexerModel", "word", "[J", true)
  | 15 => ("FileIndexerModel", "letters", "[I", true)
  | 16 => ("FileIndexerModel", "weight", "[I", true)
  | 17 => ("FileIndexerModel", "query", "[I", true)
  | 18 => ("FileIndexerModel", "asked", "I", false)
  | 19 => ("FileIndexerModel", "alternative", "[I", true)
  | 20 => ("FileIndexerModel", "without", "[Z", true)
  | 21 => ("FileIndexerModel", "sort", "[I", true)
  | 22 => ("FileIndexerModel", "first", "[I", true)
  | 23 => ("FileIndexerModel", "many", "[I", true)
  | 24 => ("FileIndexerModel", "terms", "I", false)
  | 25 => ("FileIndexerModel", "qWord", "[J", true)
  | 26 => ("FileIndexerModel", "qLetters", "[I", true)
  | 27 => ("FileIndexerModel", "qWords", "I", false)
  | 28 => ("FileIndexerModel", "at", "I", false)
  | 29 => ("FileIndexerModel", "wrong", "I", false)
  | 30 => ("FileIndexerModel", "fault", "I", false)
  | 31 => ("FileIndexerModel", "found", "[I", true)
  | 32 => ("FileIndexerModel", "scores", "[I", true)
  | _ => ("FileIndexerModel", "results", "I", false)
def kY8 : Nat → FieldType := fun k => match k with
  | 0 => .int
  | 1 => .array .boolean
  | 2 => .array .boolean
  | 3 => .array .int
  | 4 => .array .int
  | 5 => .array .int
  | 6 => .array .boolean
  | 7 => .array .int
  | 8 => .array .int
  | 9 => .int
  | 10 => .boolean
  | 11 => .int
  | 12 => .array .boolean
  | 13 => .array .int
  | 14 => .array .long
  | 15 => .array .int
  | 16 => .array .int
  | 17 => .array .int
  | 18 => .int
  | 19 => .array .int
  | 20 => .array .boolean
  | 21 => .array .int
  | 22 => .array .int
  | 23 => .array .int
  | 24 => .int
  | 25 => .array .long
  | 26 => .array .int
  | 27 => .int
  | 28 => .int
  | 29 => .int
  | 30 => .int
  | 31 => .array .int
  | 32 => .array .int
  | _ => .int
def kTe : u_T := fun _ => ("", "", "", false)
def kN : Nat → String := fun c => match c with
  | 0 => "FileIndexer$Entry"
  | 1 => "FileIndexer$Index"
  | 2 => "FileIndexer$Query"
  | 3 => "FileIndexer$Queue"
  | 4 => "FileIndexer$Ranking"
  | 5 => "FileIndexer$Term"
  | 6 => "FileIndexer$Tree"
  | 7 => "FileIndexer"
  | 8 => "FileIndexerModel"
  | 9 => "java/lang/IllegalArgumentException"
  | 10 => "java/lang/IllegalStateException"
  | _ => "java/util/NoSuchElementException"
def kT : Nat → u_T := fun c => match c with
  | 0 => kT0
  | 1 => kT1
  | 2 => kT2
  | 3 => kT3
  | 4 => kT4
  | 5 => kT5
  | 6 => kT6
  | 7 => kT7
  | 8 => kT8
  | _ => kTe
def kF : Nat → Nat := fun c => match c with
  | 0 => 3
  | 1 => 3
  | 2 => 7
  | 3 => 4
  | 4 => 3
  | 5 => 5
  | 6 => 4
  | 7 => 6
  | 8 => 34
  | _ => 0
def kY : Nat → Nat → FieldType := fun c => match c with
  | 0 => kY0
  | 1 => kY1
  | 2 => kY2
  | 3 => kY3
  | 4 => kY4
  | 5 => kY5
  | 6 => kY6
  | 7 => kY7
  | 8 => kY8
  | _ => fun _ => .int
abbrev vwCl : List vw_C := [(kN 0, kT 0, kF 0), (kN 1, kT 1, kF 1), (kN 2, kT 2, kF 2), (kN 3, kT 3, kF 3), (kN 4, kT 4, kF 4), (kN 5, kT 5, kF 5), (kN 6, kT 6, kF 6), (kN 7, kT 7, kF 7), (kN 8, kT 8, kF 8), (kN 9, kT 9, kF 9), (kN 10, kT 10, kF 10), (kN 11, kT 11, kF 11)]
theorem ly0_0 : u_lay (kN 0) (kT 0) 0 ∈ lw_tbl := lw_in (List.mem_of_getElem? (i := 82) (by decide +kernel))
theorem ly0_1 : u_lay (kN 0) (kT 0) 1 ∈ lw_tbl := lw_in (List.mem_of_getElem? (i := 84) (by decide +kernel))
theorem ly0_2 : u_lay (kN 0) (kT 0) 2 ∈ lw_tbl := lw_in (List.mem_of_getElem? (i := 86) (by decide +kernel))
theorem ly0 : ∀ k, k < kF 0 → u_lay (kN 0) (kT 0) k ∈ lw_tbl := fun k hk => match k, hk with
  | 0, _ => ly0_0
  | 1, _ => ly0_1
  | 2, _ => ly0_2
  | k + 3, h => absurd h (by simp [kF])
theorem ly1_0 : u_lay (kN 1) (kT 1) 0 ∈ lw_tbl := lw_in (List.mem_of_getElem? (i := 94) (by decide +kernel))
theorem ly1_1 : u_lay (kN 1) (kT 1) 1 ∈ lw_tbl := lw_in (List.mem_of_getElem? (i := 96) (by decide +kernel))
theorem ly1_2 : u_lay (kN 1) (kT 1) 2 ∈ lw_tbl := lw_in (List.mem_of_getElem? (i := 98) (by decide +kernel))
theorem ly1 : ∀ k, k < kF 1 → u_lay (kN 1) (kT 1) k ∈ lw_tbl := fun k hk => match k, hk with
  | 0, _ => ly1_0
  | 1, _ => ly1_1
  | 2, _ => ly1_2
  | k + 3, h => absurd h (by simp [kF])
theorem ly2_0 : u_lay (kN 2) (kT 2) 0 ∈ lw_tbl := lw_in (List.mem_of_getElem? (i := 137) (by decide +kernel))
theorem ly2_1 : u_lay (kN 2) (kT 2) 1 ∈ lw_tbl := lw_in (List.mem_of_getElem? (i := 139) (by decide +kernel))
theorem ly2_2 : u_lay (kN 2) (kT 2) 2 ∈ lw_tbl := lw_in (List.mem_of_getElem? (i := 141) (by decide +kernel))
theorem ly2_3 : u_lay (kN 2) (kT 2) 3 ∈ lw_tbl := lw_in (List.mem_of_getElem? (i := 143) (by decide +kernel))
theorem ly2_4 : u_lay (kN 2) (kT 2) 4 ∈ lw_tbl := lw_in (List.mem_of_getElem? (i := 145) (by decide +kernel))
theorem ly2_5 : u_lay (kN 2) (kT 2) 5 ∈ lw_tbl := lw_in (List.mem_of_getElem? (i := 147) (by decide +kernel))
theorem ly2_6 : u_lay (kN 2) (kT 2) 6 ∈ lw_tbl := lw_in (List.mem_of_getElem? (i := 149) (by decide +kernel))
theorem ly2 : ∀ k, k < kF 2 → u_lay (kN 2) (kT 2) k ∈ lw_tbl := fun k hk => match k, hk with
  | 0, _ => ly2_0
  | 1, _ => ly2_1
  | 2, _ => ly2_2
  | 3, _ => ly2_3
  | 4, _ => ly2_4
  | 5, _ => ly2_5
  | 6, _ => ly2_6
  | k + 7, h => absurd h (by simp [kF])
theorem ly3_0 : u_lay (kN 3) (kT 3) 0 ∈ lw_tbl := lw_in (List.mem_of_getElem? (i := 57) (by decide +kernel))
theorem ly3_1 : u_lay (kN 3) (kT 3) 1 ∈ lw_tbl := lw_in (List.mem_of_getElem? (i := 59) (by decide +kernel))
theorem ly3_2 : u_lay (kN 3) (kT 3) 2 ∈ lw_tbl := lw_in (List.mem_of_getElem? (i := 61) (by decide +kernel))
theorem ly3_3 : u_lay (kN 3) (kT 3) 3 ∈ lw_tbl := lw_in (List.mem_of_getElem? (i := 63) (by decide +kernel))
theorem ly3 : ∀ k, k < kF 3 → u_lay (kN 3) (kT 3) k ∈ lw_tbl := fun k hk => match k, hk with
  | 0, _ => ly3_0
  | 1, _ => ly3_1
  | 2, _ => ly3_2
  | 3, _ => ly3_3
  | k + 4, h => absurd h (by simp [kF])
theorem ly4_0 : u_lay (kN 4) (kT 4) 0 ∈ lw_tbl := lw_in (List.mem_of_getElem? (i := 161) (by decide +kernel))
theorem ly4_1 : u_lay (kN 4) (kT 4) 1 ∈ lw_tbl := lw_in (List.mem_of_getElem? (i := 163) (by decide +kernel))
theorem ly4_2 : u_lay (kN 4) (kT 4) 2 ∈ lw_tbl := lw_in (List.mem_of_getElem? (i := 165) (by decide +kernel))
theorem ly4 : ∀ k, k < kF 4 → u_lay (kN 4) (kT 4) k ∈ lw_tbl := fun k hk => match k, hk with
  | 0, _ => ly4_0
  | 1, _ => ly4_1
  | 2, _ => ly4_2
  | k + 3, h => absurd h (by simp [kF])
theorem ly5_0 : u_lay (kN 5) (kT 5) 0 ∈ lw_tbl := lw_in (List.mem_of_getElem? (i := 119) (by decide +kernel))
theorem ly5_1 : u_lay (kN 5) (kT 5) 1 ∈ lw_tbl := lw_in (List.mem_of_getElem? (i := 121) (by decide +kernel))
theorem ly5_2 : u_lay (kN 5) (kT 5) 2 ∈ lw_tbl := lw_in (List.mem_of_getElem? (i := 123) (by decide +kernel))
theorem ly5_3 : u_lay (kN 5) (kT 5) 3 ∈ lw_tbl := lw_in (List.mem_of_getElem? (i := 125) (by decide +kernel))
theorem ly5_4 : u_lay (kN 5) (kT 5) 4 ∈ lw_tbl := lw_in (List.mem_of_getElem? (i := 127) (by decide +kernel))
theorem ly5 : ∀ k, k < kF 5 → u_lay (kN 5) (kT 5) k ∈ lw_tbl := fun k hk => match k, hk with
  | 0, _ => ly5_0
  | 1, _ => ly5_1
  | 2, _ => ly5_2
  | 3, _ => ly5_3
  | 4, _ => ly5_4
  | k + 5, h => absurd h (by simp [kF])
theorem ly6_0 : u_lay (kN 6) (kT 6) 0 ∈ lw_tbl := lw_in (List.mem_of_getElem? (i := 37) (by decide +kernel))
theorem ly6_1 : u_lay (kN 6) (kT 6) 1 ∈ lw_tbl := lw_in (List.mem_of_getElem? (i := 39) (by decide +kernel))
theorem ly6_2 : u_lay (kN 6) (kT 6) 2 ∈ lw_tbl := lw_in (List.mem_of_getElem? (i := 41) (by decide +kernel))
theorem ly6_3 : u_lay (kN 6) (kT 6) 3 ∈ lw_tbl := lw_in (List.mem_of_getElem? (i := 43) (by decide +kernel))
theorem ly6 : ∀ k, k < kF 6 → u_lay (kN 6) (kT 6) k ∈ lw_tbl := fun k hk => match k, hk with
  | 0, _ => ly6_0
  | 1, _ => ly6_1
  | 2, _ => ly6_2
  | 3, _ => ly6_3
  | k + 4, h => absurd h (by simp [kF])
theorem ly7_0 : u_lay (kN 7) (kT 7) 0 ∈ lw_tbl := lw_in (List.mem_of_getElem? (i := 174) (by decide +kernel))
theorem ly7_1 : u_lay (kN 7) (kT 7) 1 ∈ lw_tbl := lw_in (List.mem_of_getElem? (i := 176) (by decide +kernel))
theorem ly7_2 : u_lay (kN 7) (kT 7) 2 ∈ lw_tbl := lw_in (List.mem_of_getElem? (i := 178) (by decide +kernel))
theorem ly7_3 : u_lay (kN 7) (kT 7) 3 ∈ lw_tbl := lw_in (List.mem_of_getElem? (i := 180) (by decide +kernel))
theorem ly7_4 : u_lay (kN 7) (kT 7) 4 ∈ lw_tbl := lw_in (List.mem_of_getElem? (i := 182) (by decide +kernel))
theorem ly7_5 : u_lay (kN 7) (kT 7) 5 ∈ lw_tbl := lw_in (List.mem_of_getElem? (i := 184) (by decide +kernel))
theorem ly7 : ∀ k, k < kF 7 → u_lay (kN 7) (kT 7) k ∈ lw_tbl := fun k hk => match k, hk with
  | 0, _ => ly7_0
  | 1, _ => ly7_1
  | 2, _ => ly7_2
  | 3, _ => ly7_3
  | 4, _ => ly7_4
  | 5, _ => ly7_5
  | k + 6, h => absurd h (by simp [kF])
theorem ly8_0 : u_lay (kN 8) (kT 8) 0 ∈ lw_tbl := lw_in (List.mem_of_getElem? (i := 730) (by decide +kernel))
theorem ly8_1 : u_lay (kN 8) (kT 8) 1 ∈ lw_tbl := lw_in (List.mem_of_getElem? (i := 732) (by decide +kernel))
theorem ly8_2 : u_lay (kN 8) (kT 8) 2 ∈ lw_tbl := lw_in (List.mem_of_getElem? (i := 734) (by decide +kernel))
theorem ly8_3 : u_lay (kN 8) (kT 8) 3 ∈ lw_tbl := lw_in (List.mem_of_getElem? (i := 736) (by decide +kernel))
theorem ly8_4 : u_lay (kN 8) (kT 8) 4 ∈ lw_tbl := lw_in (List.mem_of_getElem? (i := 738) (by decide +kernel))
theorem ly8_5 : u_lay (kN 8) (kT 8) 5 ∈ lw_tbl := lw_in (List.mem_of_getElem? (i := 740) (by decide +kernel))
theorem ly8_6 : u_lay (kN 8) (kT 8) 6 ∈ lw_tbl := lw_in (List.mem_of_getElem? (i := 742) (by decide +kernel))
theorem ly8_7 : u_lay (kN 8) (kT 8) 7 ∈ lw_tbl := lw_in (List.mem_of_getElem? (i := 744) (by decide +kernel))
theorem ly8_8 : u_lay (kN 8) (kT 8) 8 ∈ lw_tbl := lw_in (List.mem_of_getElem? (i := 746) (by decide +kernel))
theorem ly8_9 : u_lay (kN 8) (kT 8) 9 ∈ lw_tbl := lw_in (List.mem_of_getElem? (i := 748) (by decide +kernel))
theorem ly8_10 : u_lay (kN 8) (kT 8) 10 ∈ lw_tbl := lw_in (List.mem_of_getElem? (i := 750) (by decide +kernel))
theorem ly8_11 : u_lay (kN 8) (kT 8) 11 ∈ lw_tbl := lw_in (List.mem_of_getElem? (i := 752) (by decide +kernel))
theorem ly8_12 : u_lay (kN 8) (kT 8) 12 ∈ lw_tbl := lw_in (List.mem_of_getElem? (i := 754) (by decide +kernel))
theorem ly8_13 : u_lay (kN 8) (kT 8) 13 ∈ lw_tbl := lw_in (List.mem_of_getElem? (i := 756) (by decide +kernel))
theorem ly8_14 : u_lay (kN 8) (kT 8) 14 ∈ lw_tbl := lw_in (List.mem_of_getElem? (i := 758) (by decide +kernel))
theorem ly8_15 : u_lay (kN 8) (kT 8) 15 ∈ lw_tbl := lw_in (List.mem_of_getElem? (i := 760) (by decide +kernel))
theorem ly8_16 : u_lay (kN 8) (kT 8) 16 ∈ lw_tbl := lw_in (List.mem_of_getElem? (i := 762) (by decide +kernel))
theorem ly8_17 : u_lay (kN 8) (kT 8) 17 ∈ lw_tbl := lw_in (List.mem_of_getElem? (i := 764) (by decide +kernel))
theorem ly8_18 : u_lay (kN 8) (kT 8) 18 ∈ lw_tbl := lw_in (List.mem_of_getElem? (i := 766) (by decide +kernel))
theorem ly8_19 : u_lay (kN 8) (kT 8) 19 ∈ lw_tbl := lw_in (List.mem_of_getElem? (i := 768) (by decide +kernel))
theorem ly8_20 : u_lay (kN 8) (kT 8) 20 ∈ lw_tbl := lw_in (List.mem_of_getElem? (i := 770) (by decide +kernel))
theorem ly8_21 : u_lay (kN 8) (kT 8) 21 ∈ lw_tbl := lw_in (List.mem_of_getElem? (i := 772) (by decide +kernel))
theorem ly8_22 : u_lay (kN 8) (kT 8) 22 ∈ lw_tbl := lw_in (List.mem_of_getElem? (i := 774) (by decide +kernel))
theorem ly8_23 : u_lay (kN 8) (kT 8) 23 ∈ lw_tbl := lw_in (List.mem_of_getElem? (i := 776) (by decide +kernel))
theorem ly8_24 : u_lay (kN 8) (kT 8) 24 ∈ lw_tbl := lw_in (List.mem_of_getElem? (i := 778) (by decide +kernel))
theorem ly8_25 : u_lay (kN 8) (kT 8) 25 ∈ lw_tbl := lw_in (List.mem_of_getElem? (i := 780) (by decide +kernel))
theorem ly8_26 : u_lay (kN 8) (kT 8) 26 ∈ lw_tbl := lw_in (List.mem_of_getElem? (i := 782) (by decide +kernel))
theorem ly8_27 : u_lay (kN 8) (kT 8) 27 ∈ lw_tbl := lw_in (List.mem_of_getElem? (i := 784) (by decide +kernel))
theorem ly8_28 : u_lay (kN 8) (kT 8) 28 ∈ lw_tbl := lw_in (List.mem_of_getElem? (i := 786) (by decide +kernel))
theorem ly8_29 : u_lay (kN 8) (kT 8) 29 ∈ lw_tbl := lw_in (List.mem_of_getElem? (i := 788) (by decide +kernel))
theorem ly8_30 : u_lay (kN 8) (kT 8) 30 ∈ lw_tbl := lw_in (List.mem_of_getElem? (i := 790) (by decide +kernel))
theorem ly8_31 : u_lay (kN 8) (kT 8) 31 ∈ lw_tbl := lw_in (List.mem_of_getElem? (i := 792) (by decide +kernel))
theorem ly8_32 : u_lay (kN 8) (kT 8) 32 ∈ lw_tbl := lw_in (List.mem_of_getElem? (i := 794) (by decide +kernel))
theorem ly8_33 : u_lay (kN 8) (kT 8) 33 ∈ lw_tbl := lw_in (List.mem_of_getElem? (i := 796) (by decide +kernel))
theorem ly8 : ∀ k, k < kF 8 → u_lay (kN 8) (kT 8) k ∈ lw_tbl := fun k hk => match k, hk with
  | 0, _ => ly8_0
  | 1, _ => ly8_1
  | 2, _ => ly8_2
  | 3, _ => ly8_3
  | 4, _ => ly8_4
  | 5, _ => ly8_5
  | 6, _ => ly8_6
  | 7, _ => ly8_7
  | 8, _ => ly8_8
  | 9, _ => ly8_9
  | 10, _ => ly8_10
  | 11, _ => ly8_11
  | 12, _ => ly8_12
  | 13, _ => ly8_13
  | 14, _ => ly8_14
  | 15, _ => ly8_15
  | 16, _ => ly8_16
  | 17, _ => ly8_17
  | 18, _ => ly8_18
  | 19, _ => ly8_19
  | 20, _ => ly8_20
  | 21, _ => ly8_21
  | 22, _ => ly8_22
  | 23, _ => ly8_23
  | 24, _ => ly8_24
  | 25, _ => ly8_25
  | 26, _ => ly8_26
  | 27, _ => ly8_27
  | 28, _ => ly8_28
  | 29, _ => ly8_29
  | 30, _ => ly8_30
  | 31, _ => ly8_31
  | 32, _ => ly8_32
  | 33, _ => ly8_33
  | k + 34, h => absurd h (by simp [kF])
theorem ly_all (c : Nat) : ∀ w ∈ u_ws (kN c) (kT c) (kF c), w ∈ lw_tbl := by
  intro w hw
  obtain ⟨k, hk, rfl⟩ := List.mem_map.mp hw
  have hk := List.mem_range.mp hk
  match c, hk with
  | 0, hk => exact ly0 k hk
  | 1, hk => exact ly1 k hk
  | 2, hk => exact ly2 k hk
  | 3, hk => exact ly3 k hk
  | 4, hk => exact ly4 k hk
  | 5, hk => exact ly5 k hk
  | 6, hk => exact ly6 k hk
  | 7, hk => exact ly7 k hk
  | 8, hk => exact ly8 k hk
  | c + 9, hk => exact absurd hk (Nat.not_lt_zero k)
theorem ky0 : ∀ k, k < kF 0 → parseFieldDescriptor (kT 0 k).2.2.1 = some (kY 0 k) := by decide +kernel
theorem kn0 : ∀ a, a < kF 0 → ∀ b, b < kF 0 → a ≠ b → (kT 0 a).2.1 ≠ (kT 0 b).2.1 := by decide +kernel
theorem ky1 : ∀ k, k < kF 1 → parseFieldDescriptor (kT 1 k).2.2.1 = some (kY 1 k) := by decide +kernel
theorem kn1 : ∀ a, a < kF 1 → ∀ b, b < kF 1 → a ≠ b → (kT 1 a).2.1 ≠ (kT 1 b).2.1 := by decide +kernel
theorem ky2 : ∀ k, k < kF 2 → parseFieldDescriptor (kT 2 k).2.2.1 = some (kY 2 k) := by decide +kernel
theorem kn2 : ∀ a, a < kF 2 → ∀ b, b < kF 2 → a ≠ b → (kT 2 a).2.1 ≠ (kT 2 b).2.1 := by decide +kernel
theorem ky3 : ∀ k, k < kF 3 → parseFieldDescriptor (kT 3 k).2.2.1 = some (kY 3 k) := by decide +kernel
theorem kn3 : ∀ a, a < kF 3 → ∀ b, b < kF 3 → a ≠ b → (kT 3 a).2.1 ≠ (kT 3 b).2.1 := by decide +kernel
theorem ky4 : ∀ k, k < kF 4 → parseFieldDescriptor (kT 4 k).2.2.1 = some (kY 4 k) := by decide +kernel
theorem kn4 : ∀ a, a < kF 4 → ∀ b, b < kF 4 → a ≠ b → (kT 4 a).2.1 ≠ (kT 4 b).2.1 := by decide +kernel
theorem ky5 : ∀ k, k < kF 5 → parseFieldDescriptor (kT 5 k).2.2.1 = some (kY 5 k) := by decide +kernel
theorem kn5 : ∀ a, a < kF 5 → ∀ b, b < kF 5 → a ≠ b → (kT 5 a).2.1 ≠ (kT 5 b).2.1 := by decide +kernel
theorem ky6 : ∀ k, k < kF 6 → parseFieldDescriptor (kT 6 k).2.2.1 = some (kY 6 k) := by decide +kernel
theorem kn6 : ∀ a, a < kF 6 → ∀ b, b < kF 6 → a ≠ b → (kT 6 a).2.1 ≠ (kT 6 b).2.1 := by decide +kernel
theorem ky7 : ∀ k, k < kF 7 → parseFieldDescriptor (kT 7 k).2.2.1 = some (kY 7 k) := by decide +kernel
theorem kn7 : ∀ a, a < kF 7 → ∀ b, b < kF 7 → a ≠ b → (kT 7 a).2.1 ≠ (kT 7 b).2.1 := by decide +kernel
theorem ky8 : ∀ k, k < kF 8 → parseFieldDescriptor (kT 8 k).2.2.1 = some (kY 8 k) := by decide +kernel
theorem kn8 : ∀ a, a < kF 8 → ∀ b, b < kF 8 → a ≠ b → (kT 8 a).2.1 ≠ (kT 8 b).2.1 := by decide +kernel
theorem ky_all (c : Nat) : ∀ k, k < kF c → parseFieldDescriptor (kT c k).2.2.1 = some (kY c k) := by
  match c with
  | 0 => exact ky0
  | 1 => exact ky1
  | 2 => exact ky2
  | 3 => exact ky3
  | 4 => exact ky4
  | 5 => exact ky5
  | 6 => exact ky6
  | 7 => exact ky7
  | 8 => exact ky8
  | c + 9 => exact fun k hk => absurd hk (Nat.not_lt_zero k)
theorem kn_all (c : Nat) : ∀ a, a < kF c → ∀ b, b < kF c → a ≠ b → (kT c a).2.1 ≠ (kT c b).2.1 := by
  match c with
  | 0 => exact kn0
  | 1 => exact kn1
  | 2 => exact kn2
  | 3 => exact kn3
  | 4 => exact kn4
  | 5 => exact kn5
  | 6 => exact kn6
  | 7 => exact kn7
  | 8 => exact kn8
  | c + 9 => exact fun k hk => absurd hk (Nat.not_lt_zero k)
theorem vw_at {c : Nat} (h : c < 12) : vwCl[c]? = some (kN c, kT c, kF c) := by
  match c, h with
  | 0, _ => rfl
  | 1, _ => rfl
  | 2, _ => rfl
  | 3, _ => rfl
  | 4, _ => rfl
  | 5, _ => rfl
  | 6, _ => rfl
  | 7, _ => rfl
  | 8, _ => rfl
  | 9, _ => rfl
  | 10, _ => rfl
  | 11, _ => rfl
  | c + 12, h => exact absurd h (by omega)
abbrev KT : Type := ByteArray × String × String × List (Nat × Nat × Nat × Nat) × Nat × Option FieldType
def k_Fi_init : KT := (prog_1_method_1_code, "FileIndexer", "<init>", [], 1, none)
def y_Fi_init : MethodName := ⟨"FileIndexer", "<init>", "()V"⟩
def k_Tr_init : KT := (prog_8_method_1_code, "FileIndexer$Tree", "<init>", [], 1, none)
def y_Tr_init : MethodName := ⟨"FileIndexer$Tree", "<init>", "()V"⟩
def k_Qu_init : KT := (prog_5_method_1_code, "FileIndexer$Queue", "<init>", [], 1, none)
def y_Qu_init : MethodName := ⟨"FileIndexer$Queue", "<init>", "()V"⟩
def k_Ix_init : KT := (prog_3_method_1_code, "FileIndexer$Index", "<init>", [], 2, none)
def y_Ix_init : MethodName := ⟨"FileIndexer$Index", "<init>", "()V"⟩
def k_En_init : KT := (prog_2_method_1_code, "FileIndexer$Entry", "<init>", [], 1, none)
def y_En_init : MethodName := ⟨"FileIndexer$Entry", "<init>", "()V"⟩
def k_Qy_init : KT := (prog_4_method_1_code, "FileIndexer$Query", "<init>", [], 2, none)
def y_Qy_init : MethodName := ⟨"FileIndexer$Query", "<init>", "()V"⟩
def k_Tm_init : KT := (prog_7_method_1_code, "FileIndexer$Term", "<init>", [], 1, none)
def y_Tm_init : MethodName := ⟨"FileIndexer$Term", "<init>", "()V"⟩
def k_Rk_init : KT := (prog_6_method_1_code, "FileIndexer$Ranking", "<init>", [], 1, none)
def y_Rk_init : MethodName := ⟨"FileIndexer$Ranking", "<init>", "()V"⟩
def k_Fi_rescan : KT := (prog_1_method_8_code, "FileIndexer", "rescan", [], 3, some .int)
def y_Fi_rescan : MethodName := ⟨"FileIndexer", "rescan", "()I"⟩
def k_Tr_isFile : KT := (prog_8_method_4_code, "FileIndexer$Tree", "isFile", [], 2, some .boolean)
def y_Tr_isFile : MethodName := ⟨"FileIndexer$Tree", "isFile", "(I)Z"⟩
def k_Fi_isNode : KT := (prog_1_method_21_code, "FileIndexer", "isNode", [], 1, some .boolean)
def y_Fi_isNode : MethodName := ⟨"FileIndexer", "isNode", "(I)Z"⟩
def k_Fi_readFile : KT := (prog_1_method_18_code, "FileIndexer", "readFile", [], 2, none)
def y_Fi_readFile : MethodName := ⟨"FileIndexer", "readFile", "(I)V"⟩
def k_Tr_contentOf : KT := (prog_8_method_10_code, "FileIndexer$Tree", "contentOf", [], 2, some (.array .int))
def y_Tr_contentOf : MethodName := ⟨"FileIndexer$Tree", "contentOf", "(I)[I"⟩
def k_Tr_lengthOf : KT := (prog_8_method_11_code, "FileIndexer$Tree", "lengthOf", [], 2, some .int)
def y_Tr_lengthOf : MethodName := ⟨"FileIndexer$Tree", "lengthOf", "(I)I"⟩
def k_Ix_read : KT := (prog_3_method_4_code, "FileIndexer$Index", "read", [], 4, none)
def y_Ix_read : MethodName := ⟨"FileIndexer$Index", "read", "(I[II)V"⟩
def k_En_take : KT := (prog_2_method_5_code, "FileIndexer$Entry", "take", [], 9, none)
def y_En_take : MethodName := ⟨"FileIndexer$Entry", "take", "([II)V"⟩
def k_En_titleEndOf : KT := (prog_2_method_7_code, "FileIndexer$Entry", "titleEndOf", [], 3, some .int)
def y_En_titleEndOf : MethodName := ⟨"FileIndexer$Entry", "titleEndOf", "([II)I"⟩
def k_Fi_isLetter : KT := (prog_1_method_26_code, "FileIndexer", "isLetter", [], 1, some .boolean)
def y_Fi_isLetter : MethodName := ⟨"FileIndexer", "isLetter", "(I)Z"⟩
def k_Fi_withLetter : KT := (prog_1_method_27_code, "FileIndexer", "withLetter", [], 6, some .long)
def y_Fi_withLetter : MethodName := ⟨"FileIndexer", "withLetter", "(JII)J"⟩
def k_En_add : KT := (prog_2_method_6_code, "FileIndexer$Entry", "add", [], 4, none)
def y_En_add : MethodName := ⟨"FileIndexer$Entry", "add", "(JI)V"⟩
def k_Ix_forget : KT := (prog_3_method_5_code, "FileIndexer$Index", "forget", [], 2, none)
def y_Ix_forget : MethodName := ⟨"FileIndexer$Index", "forget", "(I)V"⟩
def k_Qu_startAnew : KT := (prog_5_method_6_code, "FileIndexer$Queue", "startAnew", [], 1, none)
def y_Qu_startAnew : MethodName := ⟨"FileIndexer$Queue", "startAnew", "()V"⟩
def k_Fi_fault : KT := (prog_1_method_11_code, "FileIndexer", "fault", [], 1, some .int)
def y_Fi_fault : MethodName := ⟨"FileIndexer", "fault", "()I"⟩
def k_Fi_make : KT := (prog_1_method_2_code, "FileIndexer", "make", [], 4, some .int)
def y_Fi_make : MethodName := ⟨"FileIndexer", "make", "(IIZ)I"⟩
def k_Fi_isNodeBelowRoot : KT := (prog_1_method_22_code, "FileIndexer", "isNodeBelowRoot", [], 1, some .boolean)
def y_Fi_isNodeBelowRoot : MethodName := ⟨"FileIndexer", "isNodeBelowRoot", "(I)Z"⟩
def k_Tr_isThere : KT := (prog_8_method_2_code, "FileIndexer$Tree", "isThere", [], 2, some .boolean)
def y_Tr_isThere : MethodName := ⟨"FileIndexer$Tree", "isThere", "(I)Z"⟩
def k_Tr_isFolder : KT := (prog_8_method_3_code, "FileIndexer$Tree", "isFolder", [], 2, some .boolean)
def y_Tr_isFolder : MethodName := ⟨"FileIndexer$Tree", "isFolder", "(I)Z"⟩
def k_Tr_put : KT := (prog_8_method_7_code, "FileIndexer$Tree", "put", [], 4, none)
def y_Tr_put : MethodName := ⟨"FileIndexer$Tree", "put", "(IIZ)V"⟩
def k_Qu_tell : KT := (prog_5_method_7_code, "FileIndexer$Queue", "tell", [], 4, none)
def y_Qu_tell : MethodName := ⟨"FileIndexer$Queue", "tell", "(II)V"⟩
def k_Qu_placeOf : KT := (prog_5_method_9_code, "FileIndexer$Queue", "placeOf", [], 3, some .int)
def y_Qu_placeOf : MethodName := ⟨"FileIndexer$Queue", "placeOf", "(I)I"⟩
def k_Qu_putTogether : KT := (prog_5_method_10_code, "FileIndexer$Queue", "putTogether", [], 4, none)
def y_Qu_putTogether : MethodName := ⟨"FileIndexer$Queue", "putTogether", "(II)V"⟩
def k_Qu_drop : KT := (prog_5_method_8_code, "FileIndexer$Queue", "drop", [], 3, none)
def y_Qu_drop : MethodName := ⟨"FileIndexer$Queue", "drop", "(I)V"⟩
def k_Fi_write : KT := (prog_1_method_3_code, "FileIndexer", "write", [], 6, some .int)
def y_Fi_write : MethodName := ⟨"FileIndexer", "write", "(IJI)I"⟩
def k_Fi_areCodes : KT := (prog_1_method_25_code, "FileIndexer", "areCodes", [], 4, some .boolean)
def y_Fi_areCodes : MethodName := ⟨"FileIndexer", "areCodes", "(JI)Z"⟩
def k_Fi_byteOf : KT := (prog_1_method_24_code, "FileIndexer", "byteOf", [], 3, some .int)
def y_Fi_byteOf : MethodName := ⟨"FileIndexer", "byteOf", "(JI)I"⟩
def k_Fi_isCode : KT := (prog_1_method_23_code, "FileIndexer", "isCode", [], 1, some .boolean)
def y_Fi_isCode : MethodName := ⟨"FileIndexer", "isCode", "(I)Z"⟩
def k_Tr_append : KT := (prog_8_method_12_code, "FileIndexer$Tree", "append", [], 3, none)
def y_Tr_append : MethodName := ⟨"FileIndexer$Tree", "append", "(II)V"⟩
def k_Fi_cut : KT := (prog_1_method_4_code, "FileIndexer", "cut", [], 4, some .int)
def y_Fi_cut : MethodName := ⟨"FileIndexer", "cut", "(II)I"⟩
def k_Tr_shorten : KT := (prog_8_method_13_code, "FileIndexer$Tree", "shorten", [], 3, none)
def y_Tr_shorten : MethodName := ⟨"FileIndexer$Tree", "shorten", "(II)V"⟩
def k_Fi_remove : KT := (prog_1_method_5_code, "FileIndexer", "remove", [], 4, some .int)
def y_Fi_remove : MethodName := ⟨"FileIndexer", "remove", "(I)I"⟩
def k_Tr_isWithin : KT := (prog_8_method_6_code, "FileIndexer$Tree", "isWithin", [], 5, some .boolean)
def y_Tr_isWithin : MethodName := ⟨"FileIndexer$Tree", "isWithin", "(II)Z"⟩
def k_Fi_removeOne : KT := (prog_1_method_16_code, "FileIndexer", "removeOne", [], 3, none)
def y_Fi_removeOne : MethodName := ⟨"FileIndexer", "removeOne", "(I)V"⟩
def k_Tr_drop : KT := (prog_8_method_9_code, "FileIndexer$Tree", "drop", [], 2, none)
def y_Tr_drop : MethodName := ⟨"FileIndexer$Tree", "drop", "(I)V"⟩
def k_Fi_move : KT := (prog_1_method_6_code, "FileIndexer", "move", [], 3, some .int)
def y_Fi_move : MethodName := ⟨"FileIndexer", "move", "(II)I"⟩
def k_Tr_parentOf : KT := (prog_8_method_5_code, "FileIndexer$Tree", "parentOf", [], 2, some .int)
def y_Tr_parentOf : MethodName := ⟨"FileIndexer$Tree", "parentOf", "(I)I"⟩
def k_Tr_hang : KT := (prog_8_method_8_code, "FileIndexer$Tree", "hang", [], 3, none)
def y_Tr_hang : MethodName := ⟨"FileIndexer$Tree", "hang", "(II)V"⟩
def k_Fi_work : KT := (prog_1_method_7_code, "FileIndexer", "work", [], 4, some .int)
def y_Fi_work : MethodName := ⟨"FileIndexer", "work", "(I)I"⟩
def k_Qu_isLost : KT := (prog_5_method_3_code, "FileIndexer$Queue", "isLost", [], 1, some .boolean)
def y_Qu_isLost : MethodName := ⟨"FileIndexer$Queue", "isLost", "()Z"⟩
def k_Qu_size : KT := (prog_5_method_2_code, "FileIndexer$Queue", "size", [], 1, some .int)
def y_Qu_size : MethodName := ⟨"FileIndexer$Queue", "size", "()I"⟩
def k_Mt_min : KT := (prog_14_method_69_code, "java/lang/Math", "min", [], 2, some .int)
def y_Mt_min : MethodName := ⟨"java/lang/Math", "min", "(II)I"⟩
def k_Qu_kindAt : KT := (prog_5_method_4_code, "FileIndexer$Queue", "kindAt", [], 2, some .int)
def y_Qu_kindAt : MethodName := ⟨"FileIndexer$Queue", "kindAt", "(I)I"⟩
def k_Qu_fileAt : KT := (prog_5_method_5_code, "FileIndexer$Queue", "fileAt", [], 2, some .int)
def y_Qu_fileAt : MethodName := ⟨"FileIndexer$Queue", "fileAt", "(I)I"⟩
def k_Fi_follow : KT := (prog_1_method_17_code, "FileIndexer", "follow", [], 3, none)
def y_Fi_follow : MethodName := ⟨"FileIndexer", "follow", "(II)V"⟩
def k_Fi_type : KT := (prog_1_method_9_code, "FileIndexer", "type", [], 2, some .int)
def y_Fi_type : MethodName := ⟨"FileIndexer", "type", "(I)I"⟩
def k_Qy_length : KT := (prog_4_method_2_code, "FileIndexer$Query", "length", [], 1, some .int)
def y_Qy_length : MethodName := ⟨"FileIndexer$Query", "length", "()I"⟩
def k_Qy_append : KT := (prog_4_method_3_code, "FileIndexer$Query", "append", [], 2, none)
def y_Qy_append : MethodName := ⟨"FileIndexer$Query", "append", "(I)V"⟩
def k_Fi_search : KT := (prog_1_method_10_code, "FileIndexer", "search", [], 3, some .int)
def y_Fi_search : MethodName := ⟨"FileIndexer", "search", "(I)I"⟩
def k_Rk_clear : KT := (prog_6_method_5_code, "FileIndexer$Ranking", "clear", [], 1, none)
def y_Rk_clear : MethodName := ⟨"FileIndexer$Ranking", "clear", "()V"⟩
def k_Qy_parse : KT := (prog_4_method_5_code, "FileIndexer$Query", "parse", [], 2, some .int)
def y_Qy_parse : MethodName := ⟨"FileIndexer$Query", "parse", "()I"⟩
def k_Qy_parseAlternative : KT := (prog_4_method_12_code, "FileIndexer$Query", "parseAlternative", [], 2, none)
def y_Qy_parseAlternative : MethodName := ⟨"FileIndexer$Query", "parseAlternative", "()V"⟩
def k_Qy_skipBlanks : KT := (prog_4_method_11_code, "FileIndexer$Query", "skipBlanks", [], 1, none)
def y_Qy_skipBlanks : MethodName := ⟨"FileIndexer$Query", "skipBlanks", "()V"⟩
def k_Qy_parseTerm : KT := (prog_4_method_13_code, "FileIndexer$Query", "parseTerm", [], 2, none)
def y_Qy_parseTerm : MethodName := ⟨"FileIndexer$Query", "parseTerm", "()V"⟩
def k_Tm_begin : KT := (prog_7_method_2_code, "FileIndexer$Term", "begin", [], 2, none)
def y_Tm_begin : MethodName := ⟨"FileIndexer$Term", "begin", "(I)V"⟩
def k_Qy_next : KT := (prog_4_method_9_code, "FileIndexer$Query", "next", [], 1, some .int)
def y_Qy_next : MethodName := ⟨"FileIndexer$Query", "next", "()I"⟩
def k_Tm_forbid : KT := (prog_7_method_5_code, "FileIndexer$Term", "forbid", [], 1, none)
def y_Tm_forbid : MethodName := ⟨"FileIndexer$Term", "forbid", "()V"⟩
def k_Qy_parsePhrase : KT := (prog_4_method_16_code, "FileIndexer$Query", "parsePhrase", [], 3, none)
def y_Qy_parsePhrase : MethodName := ⟨"FileIndexer$Query", "parsePhrase", "(LFileIndexer$Term;)V"⟩
def k_Qy_isFaulty : KT := (prog_4_method_8_code, "FileIndexer$Query", "isFaulty", [], 1, some .boolean)
def y_Qy_isFaulty : MethodName := ⟨"FileIndexer$Query", "isFaulty", "()Z"⟩
def k_Qy_parseWord : KT := (prog_4_method_17_code, "FileIndexer$Query", "parseWord", [], 5, none)
def y_Qy_parseWord : MethodName := ⟨"FileIndexer$Query", "parseWord", "(LFileIndexer$Term;)V"⟩
def k_Tm_add : KT := (prog_7_method_7_code, "FileIndexer$Term", "add", [], 3, none)
def y_Tm_add : MethodName := ⟨"FileIndexer$Term", "add", "(J)V"⟩
def k_Tm_isEmpty : KT := (prog_7_method_6_code, "FileIndexer$Term", "isEmpty", [], 1, some .boolean)
def y_Tm_isEmpty : MethodName := ⟨"FileIndexer$Term", "isEmpty", "()Z"⟩
def k_Qy_parseWordOrBeginning : KT := (prog_4_method_15_code, "FileIndexer$Query", "parseWordOrBeginning", [], 3, none)
def y_Qy_parseWordOrBeginning : MethodName := ⟨"FileIndexer$Query", "parseWordOrBeginning", "(LFileIndexer$Term;)V"⟩
def k_Tm_compareOnly : KT := (prog_7_method_8_code, "FileIndexer$Term", "compareOnly", [], 2, none)
def y_Tm_compareOnly : MethodName := ⟨"FileIndexer$Term", "compareOnly", "(I)V"⟩
def k_Qy_endTerm : KT := (prog_4_method_14_code, "FileIndexer$Query", "endTerm", [], 1, none)
def y_Qy_endTerm : MethodName := ⟨"FileIndexer$Query", "endTerm", "()V"⟩
def k_Qy_atAlternativeEnd : KT := (prog_4_method_10_code, "FileIndexer$Query", "atAlternativeEnd", [], 1, some .boolean)
def y_Qy_atAlternativeEnd : MethodName := ⟨"FileIndexer$Query", "atAlternativeEnd", "()Z"⟩
def k_Qy_clearText : KT := (prog_4_method_4_code, "FileIndexer$Query", "clearText", [], 1, none)
def y_Qy_clearText : MethodName := ⟨"FileIndexer$Query", "clearText", "()V"⟩
def k_Ix_has : KT := (prog_3_method_2_code, "FileIndexer$Index", "has", [], 2, some .boolean)
def y_Ix_has : MethodName := ⟨"FileIndexer$Index", "has", "(I)Z"⟩
def k_Fi_isSearched : KT := (prog_1_method_19_code, "FileIndexer", "isSearched", [], 3, some .boolean)
def y_Fi_isSearched : MethodName := ⟨"FileIndexer", "isSearched", "(II)Z"⟩
def k_Fi_rank : KT := (prog_1_method_20_code, "FileIndexer", "rank", [], 3, none)
def y_Fi_rank : MethodName := ⟨"FileIndexer", "rank", "(I)V"⟩
def k_Ix_entryOf : KT := (prog_3_method_3_code, "FileIndexer$Index", "entryOf", [], 2, some (.object "FileIndexer$Entry"))
def y_Ix_entryOf : MethodName := ⟨"FileIndexer$Index", "entryOf", "(I)LFileIndexer$Entry;"⟩
def k_Qy_scoreOf : KT := (prog_4_method_6_code, "FileIndexer$Query", "scoreOf", [], 5, some .int)
def y_Qy_scoreOf : MethodName := ⟨"FileIndexer$Query", "scoreOf", "(LFileIndexer$Entry;)I"⟩
def k_Qy_partOf : KT := (prog_4_method_7_code, "FileIndexer$Query", "partOf", [], 7, some .int)
def y_Qy_partOf : MethodName := ⟨"FileIndexer$Query", "partOf", "(LFileIndexer$Entry;I)I"⟩
def k_Tm_isOf : KT := (prog_7_method_3_code, "FileIndexer$Term", "isOf", [], 2, some .boolean)
def y_Tm_isOf : MethodName := ⟨"FileIndexer$Term", "isOf", "(I)Z"⟩
def k_Tm_weightIn : KT := (prog_7_method_9_code, "FileIndexer$Term", "weightIn", [], 4, some .int)
def y_Tm_weightIn : MethodName := ⟨"FileIndexer$Term", "weightIn", "(LFileIndexer$Entry;)I"⟩
def k_En_size : KT := (prog_2_method_2_code, "FileIndexer$Entry", "size", [], 1, some .int)
def y_En_size : MethodName := ⟨"FileIndexer$Entry", "size", "()I"⟩
def k_Tm_hits : KT := (prog_7_method_10_code, "FileIndexer$Term", "hits", [], 4, some .boolean)
def y_Tm_hits : MethodName := ⟨"FileIndexer$Term", "hits", "(LFileIndexer$Entry;I)Z"⟩
def k_En_wordAt : KT := (prog_2_method_3_code, "FileIndexer$Entry", "wordAt", [], 2, some .long)
def y_En_wordAt : MethodName := ⟨"FileIndexer$Entry", "wordAt", "(I)J"⟩
def k_En_weightAt : KT := (prog_2_method_4_code, "FileIndexer$Entry", "weightAt", [], 2, some .int)
def y_En_weightAt : MethodName := ⟨"FileIndexer$Entry", "weightAt", "(I)I"⟩
def k_Tm_isUnwanted : KT := (prog_7_method_4_code, "FileIndexer$Term", "isUnwanted", [], 1, some .boolean)
def y_Tm_isUnwanted : MethodName := ⟨"FileIndexer$Term", "isUnwanted", "()Z"⟩
def k_Mt_max : KT := (prog_14_method_65_code, "java/lang/Math", "max", [], 2, some .int)
def y_Mt_max : MethodName := ⟨"java/lang/Math", "max", "(II)I"⟩
def k_Rk_add : KT := (prog_6_method_6_code, "FileIndexer$Ranking", "add", [], 4, none)
def y_Rk_add : MethodName := ⟨"FileIndexer$Ranking", "add", "(II)V"⟩
def k_Rk_size : KT := (prog_6_method_2_code, "FileIndexer$Ranking", "size", [], 1, some .int)
def y_Rk_size : MethodName := ⟨"FileIndexer$Ranking", "size", "()I"⟩
def k_Fi_result : KT := (prog_1_method_12_code, "FileIndexer", "result", [], 3, some .int)
def y_Fi_result : MethodName := ⟨"FileIndexer", "result", "(II)I"⟩
def k_Rk_fileAt : KT := (prog_6_method_3_code, "FileIndexer$Ranking", "fileAt", [], 2, some .int)
def y_Rk_fileAt : MethodName := ⟨"FileIndexer$Ranking", "fileAt", "(I)I"⟩
def k_Rk_scoreAt : KT := (prog_6_method_4_code, "FileIndexer$Ranking", "scoreAt", [], 2, some .int)
def y_Rk_scoreAt : MethodName := ⟨"FileIndexer$Ranking", "scoreAt", "(I)I"⟩
def k_Fi_words : KT := (prog_1_method_13_code, "FileIndexer", "words", [], 2, some .int)
def y_Fi_words : MethodName := ⟨"FileIndexer", "words", "(I)I"⟩
def k_Fi_event : KT := (prog_1_method_14_code, "FileIndexer", "event", [], 2, some .int)
def y_Fi_event : MethodName := ⟨"FileIndexer", "event", "(I)I"⟩
def k_Fi_count : KT := (prog_1_method_15_code, "FileIndexer", "count", [], 2, some .int)
def y_Fi_count : MethodName := ⟨"FileIndexer", "count", "(I)I"⟩
def k_Tr_nodesThere : KT := (prog_8_method_14_code, "FileIndexer$Tree", "nodesThere", [], 3, some .int)
def y_Tr_nodesThere : MethodName := ⟨"FileIndexer$Tree", "nodesThere", "()I"⟩
def k_Tr_filesThere : KT := (prog_8_method_15_code, "FileIndexer$Tree", "filesThere", [], 3, some .int)
def y_Tr_filesThere : MethodName := ⟨"FileIndexer$Tree", "filesThere", "()I"⟩
def k_Ix_size : KT := (prog_3_method_6_code, "FileIndexer$Index", "size", [], 3, some .int)
def y_Ix_size : MethodName := ⟨"FileIndexer$Index", "size", "()I"⟩
def k_Ix_timesRead : KT := (prog_3_method_7_code, "FileIndexer$Index", "timesRead", [], 1, some .int)
def y_Ix_timesRead : MethodName := ⟨"FileIndexer$Index", "timesRead", "()I"⟩
def k_Md_init : KT := (prog_10_method_1_code, "FileIndexerModel", "<init>", [], 1, none)
def y_Md_init : MethodName := ⟨"FileIndexerModel", "<init>", "()V"⟩
def k_Md_thrown : KT := (prog_10_method_2_code, "FileIndexerModel", "thrown", [], 1, some .int)
def y_Md_thrown : MethodName := ⟨"FileIndexerModel", "thrown", "()I"⟩
def k_Md_make : KT := (prog_10_method_11_code, "FileIndexerModel", "make", [], 4, some .int)
def y_Md_make : MethodName := ⟨"FileIndexerModel", "make", "(IIZ)I"⟩
def k_Md_in : KT := (prog_10_method_4_code, "FileIndexerModel", "in", [], 3, some .boolean)
def y_Md_in : MethodName := ⟨"FileIndexerModel", "in", "(III)Z"⟩
def k_Md_raise : KT := (prog_10_method_3_code, "FileIndexerModel", "raise", [], 2, some .int)
def y_Md_raise : MethodName := ⟨"FileIndexerModel", "raise", "(I)I"⟩
def k_Md_isFolder : KT := (prog_10_method_5_code, "FileIndexerModel", "isFolder", [], 2, some .boolean)
def y_Md_isFolder : MethodName := ⟨"FileIndexerModel", "isFolder", "(I)Z"⟩
def k_Md_tell : KT := (prog_10_method_10_code, "FileIndexerModel", "tell", [], 4, none)
def y_Md_tell : MethodName := ⟨"FileIndexerModel", "tell", "(II)V"⟩
def k_Md_together : KT := (prog_10_method_8_code, "FileIndexerModel", "together", [], 2, some .int)
def y_Md_together : MethodName := ⟨"FileIndexerModel", "together", "(II)I"⟩
def k_Md_drop : KT := (prog_10_method_9_code, "FileIndexerModel", "drop", [], 3, none)
def y_Md_drop : MethodName := ⟨"FileIndexerModel", "drop", "(I)V"⟩
def k_Md_write : KT := (prog_10_method_12_code, "FileIndexerModel", "write", [], 6, some .int)
def y_Md_write : MethodName := ⟨"FileIndexerModel", "write", "(IJI)I"⟩
def k_Md_isFile : KT := (prog_10_method_6_code, "FileIndexerModel", "isFile", [], 2, some .boolean)
def y_Md_isFile : MethodName := ⟨"FileIndexerModel", "isFile", "(I)Z"⟩
def k_Md_cut : KT := (prog_10_method_13_code, "FileIndexerModel", "cut", [], 4, some .int)
def y_Md_cut : MethodName := ⟨"FileIndexerModel", "cut", "(II)I"⟩
def k_Md_remove : KT := (prog_10_method_14_code, "FileIndexerModel", "remove", [], 4, some .int)
def y_Md_remove : MethodName := ⟨"FileIndexerModel", "remove", "(I)I"⟩
def k_Md_mark : KT := (prog_10_method_15_code, "FileIndexerModel", "mark", [], 3, none)
def y_Md_mark : MethodName := ⟨"FileIndexerModel", "mark", "(I)V"⟩
def k_Md_within : KT := (prog_10_method_7_code, "FileIndexerModel", "within", [], 4, some .boolean)
def y_Md_within : MethodName := ⟨"FileIndexerModel", "within", "(II)Z"⟩
def k_Md_move : KT := (prog_10_method_16_code, "FileIndexerModel", "move", [], 4, some .int)
def y_Md_move : MethodName := ⟨"FileIndexerModel", "move", "(II)I"⟩
def k_Md_work : KT := (prog_10_method_19_code, "FileIndexerModel", "work", [], 4, some .int)
def y_Md_work : MethodName := ⟨"FileIndexerModel", "work", "(I)I"⟩
def k_Md_read : KT := (prog_10_method_18_code, "FileIndexerModel", "read", [], 11, none)
def y_Md_read : MethodName := ⟨"FileIndexerModel", "read", "(I)V"⟩
def k_Md_letter : KT := (prog_10_method_17_code, "FileIndexerModel", "letter", [], 1, some .int)
def y_Md_letter : MethodName := ⟨"FileIndexerModel", "letter", "(I)I"⟩
def k_Md_rescan : KT := (prog_10_method_20_code, "FileIndexerModel", "rescan", [], 3, some .int)
def y_Md_rescan : MethodName := ⟨"FileIndexerModel", "rescan", "()I"⟩
def k_Md_type : KT := (prog_10_method_21_code, "FileIndexerModel", "type", [], 2, some .int)
def y_Md_type : MethodName := ⟨"FileIndexerModel", "type", "(I)I"⟩
def k_Md_search : KT := (prog_10_method_33_code, "FileIndexerModel", "search", [], 7, some .int)
def y_Md_search : MethodName := ⟨"FileIndexerModel", "search", "(I)I"⟩
def k_Md_parse : KT := (prog_10_method_28_code, "FileIndexerModel", "parse", [], 4, some .int)
def y_Md_parse : MethodName := ⟨"FileIndexerModel", "parse", "()I"⟩
def k_Md_blanks : KT := (prog_10_method_23_code, "FileIndexerModel", "blanks", [], 1, none)
def y_Md_blanks : MethodName := ⟨"FileIndexerModel", "blanks", "()V"⟩
def k_Md_now : KT := (prog_10_method_22_code, "FileIndexerModel", "now", [], 1, some .int)
def y_Md_now : MethodName := ⟨"FileIndexerModel", "now", "()I"⟩
def k_Md_takeTerm : KT := (prog_10_method_27_code, "FileIndexerModel", "takeTerm", [], 2, none)
def y_Md_takeTerm : MethodName := ⟨"FileIndexerModel", "takeTerm", "(I)V"⟩
def k_Md_takePhrase : KT := (prog_10_method_26_code, "FileIndexerModel", "takePhrase", [], 2, none)
def y_Md_takePhrase : MethodName := ⟨"FileIndexerModel", "takePhrase", "()V"⟩
def k_Md_blame : KT := (prog_10_method_24_code, "FileIndexerModel", "blame", [], 1, none)
def y_Md_blame : MethodName := ⟨"FileIndexerModel", "blame", "()V"⟩
def k_Md_takeWord : KT := (prog_10_method_25_code, "FileIndexerModel", "takeWord", [], 4, none)
def y_Md_takeWord : MethodName := ⟨"FileIndexerModel", "takeWord", "()V"⟩
def k_Md_score : KT := (prog_10_method_31_code, "FileIndexerModel", "score", [], 6, some .int)
def y_Md_score : MethodName := ⟨"FileIndexerModel", "score", "(II)I"⟩
def k_Md_hits : KT := (prog_10_method_30_code, "FileIndexerModel", "hits", [], 8, some .int)
def y_Md_hits : MethodName := ⟨"FileIndexerModel", "hits", "(II)I"⟩
def k_Md_hit : KT := (prog_10_method_29_code, "FileIndexerModel", "hit", [], 4, some .boolean)
def y_Md_hit : MethodName := ⟨"FileIndexerModel", "hit", "(II)Z"⟩
def k_Md_place : KT := (prog_10_method_32_code, "FileIndexerModel", "place", [], 4, none)
def y_Md_place : MethodName := ⟨"FileIndexerModel", "place", "(II)V"⟩
def k_Md_fault : KT := (prog_10_method_34_code, "FileIndexerModel", "fault", [], 1, some .int)
def y_Md_fault : MethodName := ⟨"FileIndexerModel", "fault", "()I"⟩
def k_Md_result : KT := (prog_10_method_35_code, "FileIndexerModel", "result", [], 3, some .int)
def y_Md_result : MethodName := ⟨"FileIndexerModel", "result", "(II)I"⟩
def k_Md_words : KT := (prog_10_method_36_code, "FileIndexerModel", "words", [], 2, some .int)
def y_Md_words : MethodName := ⟨"FileIndexerModel", "words", "(I)I"⟩
def k_Md_event : KT := (prog_10_method_37_code, "FileIndexerModel", "event", [], 2, some .int)
def y_Md_event : MethodName := ⟨"FileIndexerModel", "event", "(I)I"⟩
def k_Md_count : KT := (prog_10_method_38_code, "FileIndexerModel", "count", [], 4, some .int)
def y_Md_count : MethodName := ⟨"FileIndexerModel", "count", "(I)I"⟩
def k_Lw_make : KT := (method_3_code, "FileIndexerLaw", "make", [(0, 12, 15, 13), (0, 12, 19, 15)], 6, some .int)
def y_Lw_make : MethodName := ⟨"FileIndexerLaw", "make", "(LFileIndexer;IIZ[J)I"⟩
def k_Lw_write : KT := (method_4_code, "FileIndexerLaw", "write", [(0, 13, 16, 21), (0, 13, 20, 13), (0, 13, 24, 15)], 7, some .int)
def y_Lw_write : MethodName := ⟨"FileIndexerLaw", "write", "(LFileIndexer;IJI[J)I"⟩
def k_Lw_cut : KT := (method_5_code, "FileIndexerLaw", "cut", [(0, 10, 13, 21), (0, 10, 17, 13)], 5, some .int)
def y_Lw_cut : MethodName := ⟨"FileIndexerLaw", "cut", "(LFileIndexer;II[J)I"⟩
def k_Lw_remove : KT := (method_6_code, "FileIndexerLaw", "remove", [(0, 9, 12, 13), (0, 9, 15, 21)], 4, some .int)
def y_Lw_remove : MethodName := ⟨"FileIndexerLaw", "remove", "(LFileIndexer;I[J)I"⟩
def k_Lw_move : KT := (method_7_code, "FileIndexerLaw", "move", [(0, 10, 13, 13), (0, 10, 17, 21), (0, 10, 21, 15)], 5, some .int)
def y_Lw_move : MethodName := ⟨"FileIndexerLaw", "move", "(LFileIndexer;II[J)I"⟩
def k_Lw_work : KT := (method_8_code, "FileIndexerLaw", "work", [(0, 9, 12, 13), (0, 9, 15, 15)], 4, some .int)
def y_Lw_work : MethodName := ⟨"FileIndexerLaw", "work", "(LFileIndexer;I[J)I"⟩
def k_Lw_type : KT := (method_9_code, "FileIndexerLaw", "type", [(0, 9, 12, 13), (0, 9, 15, 15)], 4, some .int)
def y_Lw_type : MethodName := ⟨"FileIndexerLaw", "type", "(LFileIndexer;I[J)I"⟩
def k_Lw_search : KT := (method_10_code, "FileIndexerLaw", "search", [(0, 9, 12, 21), (0, 9, 15, 13)], 4, some .int)
def y_Lw_search : MethodName := ⟨"FileIndexerLaw", "search", "(LFileIndexer;I[J)I"⟩
def k_Lw_result : KT := (method_11_code, "FileIndexerLaw", "result", [(0, 10, 13, 21), (0, 10, 17, 13)], 5, some .int)
def y_Lw_result : MethodName := ⟨"FileIndexerLaw", "result", "(LFileIndexer;II[J)I"⟩
def k_Lw_words : KT := (method_12_code, "FileIndexerLaw", "words", [(0, 9, 12, 21)], 4, some .int)
def y_Lw_words : MethodName := ⟨"FileIndexerLaw", "words", "(LFileIndexer;I[J)I"⟩
def k_Lw_event : KT := (method_13_code, "FileIndexerLaw", "event", [(0, 9, 12, 21)], 4, some .int)
def y_Lw_event : MethodName := ⟨"FileIndexerLaw", "event", "(LFileIndexer;I[J)I"⟩
def k_Lw_count : KT := (method_14_code, "FileIndexerLaw", "count", [(0, 9, 12, 13)], 4, some .int)
def y_Lw_count : MethodName := ⟨"FileIndexerLaw", "count", "(LFileIndexer;I[J)I"⟩
def k_Lw_law : KT := (code, "FileIndexerLaw", "law", [], 7, some .boolean)
def y_Lw_law : MethodName := ⟨"FileIndexerLaw", "law", "([I)Z"⟩
end
section
theorem d_Tr_init_0 : decode k_Tr_init.1 0 = .ok (.aload_n 0, 1) := by decide +kernel
theorem d_Tr_init_1 : decode k_Tr_init.1 1 = .ok (.invokespecial 3, 3) := by decide +kernel
theorem d_Tr_init_4 : decode k_Tr_init.1 4 = .ok (.aload_n 0, 1) := by decide +kernel
theorem d_Tr_init_5 : decode k_Tr_init.1 5 = .ok (.bipush 16, 2) := by decide +kernel
theorem d_Tr_init_7 : decode k_Tr_init.1 7 = .ok (.newarray .int, 2) := by decide +kernel
theorem d_Tr_init_9 : decode k_Tr_init.1 9 = .ok (.putfield 9, 3) := by decide +kernel
theorem d_Tr_init_12 : decode k_Tr_init.1 12 = .ok (.aload_n 0, 1) := by decide +kernel
theorem d_Tr_init_13 : decode k_Tr_init.1 13 = .ok (.bipush 16, 2) := by decide +kernel
theorem d_Tr_init_15 : decode k_Tr_init.1 15 = .ok (.newarray .int, 2) := by decide +kernel
theorem d_Tr_init_17 : decode k_Tr_init.1 17 = .ok (.putfield 15, 3) := by decide +kernel
theorem d_Tr_init_20 : decode k_Tr_init.1 20 = .ok (.aload_n 0, 1) := by decide +kernel
theorem d_Tr_init_21 : decode k_Tr_init.1 21 = .ok (.bipush 16, 2) := by decide +kernel
theorem d_Tr_init_23 : decode k_Tr_init.1 23 = .ok (.bipush 60, 2) := by decide +kernel
theorem d_Tr_init_25 : decode k_Tr_init.1 25 = .ok (.multianewarray 18 2, 4) := by decide +kernel
theorem d_Tr_init_29 : decode k_Tr_init.1 29 = .ok (.putfield 20, 3) := by decide +kernel
theorem d_Tr_init_32 : decode k_Tr_init.1 32 = .ok (.aload_n 0, 1) := by decide +kernel
theorem d_Tr_init_33 : decode k_Tr_init.1 33 = .ok (.bipush 16, 2) := by decide +kernel
theorem d_Tr_init_35 : decode k_Tr_init.1 35 = .ok (.newarray .int, 2) := by decide +kernel
theorem d_Tr_init_37 : decode k_Tr_init.1 37 = .ok (.putfield 23, 3) := by decide +kernel
theorem d_Tr_init_40 : decode k_Tr_init.1 40 = .ok (.aload_n 0, 1) := by decide +kernel
theorem d_Tr_init_41 : decode k_Tr_init.1 41 = .ok (.getfield 9, 3) := by decide +kernel
theorem d_Tr_init_44 : decode k_Tr_init.1 44 = .ok (.iconst 0, 1) := by decide +kernel
theorem d_Tr_init_45 : decode k_Tr_init.1 45 = .ok (.iconst 1, 1) := by decide +kernel
theorem d_Tr_init_46 : decode k_Tr_init.1 46 = .ok (.iastore, 1) := by decide +kernel
theorem d_Tr_init_47 : decode k_Tr_init.1 47 = .ok (.return_, 1) := by decide +kernel
theorem d_Tr_isFile_0 : decode k_Tr_isFile.1 0 = .ok (.iload_n 1, 1) := by decide +kernel
theorem d_Tr_isFile_1 : decode k_Tr_isFile.1 1 = .ok (.invokestatic 26, 3) := by decide +kernel
theorem d_Tr_isFile_4 : decode k_Tr_isFile.1 4 = .ok (.ifCond .eq 17, 3) := by decide +kernel
theorem d_Tr_isFile_7 : decode k_Tr_isFile.1 7 = .ok (.aload_n 0, 1) := by decide +kernel
theorem d_Tr_isFile_8 : decode k_Tr_isFile.1 8 = .ok (.getfield 9, 3) := by decide +kernel
theorem d_Tr_isFile_11 : decode k_Tr_isFile.1 11 = .ok (.iload_n 1, 1) := by decide +kernel
theorem d_Tr_isFile_12 : decode k_Tr_isFile.1 12 = .ok (.iaload, 1) := by decide +kernel
theorem d_Tr_isFile_13 : decode k_Tr_isFile.1 13 = .ok (.iconst 2, 1) := by decide +kernel
theorem d_Tr_isFile_14 : decode k_Tr_isFile.1 14 = .ok (.if_icmp .ne 7, 3) := by decide +kernel
theorem d_Tr_isFile_17 : decode k_Tr_isFile.1 17 = .ok (.iconst 1, 1) := by decide +kernel
theorem d_Tr_isFile_18 : decode k_Tr_isFile.1 18 = .ok (.goto 4, 3) := by decide +kernel
theorem d_Tr_isFile_21 : decode k_Tr_isFile.1 21 = .ok (.iconst 0, 1) := by decide +kernel
theorem d_Tr_isFile_22 : decode k_Tr_isFile.1 22 = .ok (.ireturn, 1) := by decide +kernel
theorem d_Tr_contentOf_0 : decode k_Tr_contentOf.1 0 = .ok (.aload_n 0, 1) := by decide +kernel
theorem d_Tr_contentOf_1 : decode k_Tr_contentOf.1 1 = .ok (.getfield 20, 3) := by decide +kernel
theorem d_Tr_contentOf_4 : decode k_Tr_contentOf.1 4 = .ok (.iload_n 1, 1) := by decide +kernel
theorem d_Tr_contentOf_5 : decode k_Tr_contentOf.1 5 = .ok (.aaload, 1) := by decide +kernel
theorem d_Tr_contentOf_6 : decode k_Tr_contentOf.1 6 = .ok (.areturn, 1) := by decide +kernel
theorem d_Tr_lengthOf_0 : decode k_Tr_lengthOf.1 0 = .ok (.aload_n 0, 1) := by decide +kernel
theorem d_Tr_lengthOf_1 : decode k_Tr_lengthOf.1 1 = .ok (.getfield 23, 3) := by decide +kernel
theorem d_Tr_lengthOf_4 : decode k_Tr_lengthOf.1 4 = .ok (.iload_n 1, 1) := by decide +kernel
theorem d_Tr_lengthOf_5 : decode k_Tr_lengthOf.1 5 = .ok (.iaload, 1) := by decide +kernel
theorem d_Tr_lengthOf_6 : decode k_Tr_lengthOf.1 6 = .ok (.ireturn, 1) := by decide +kernel
theorem d_Tr_isThere_0 : decode k_Tr_isThere.1 0 = .ok (.iload_n 1, 1) := by decide +kernel
theorem d_Tr_isThere_1 : decode k_Tr_isThere.1 1 = .ok (.invokestatic 26, 3) := by decide +kernel
theorem d_Tr_isThere_4 : decode k_Tr_isThere.1 4 = .ok (.ifCond .eq 16, 3) := by decide +kernel
theorem d_Tr_isThere_7 : decode k_Tr_isThere.1 7 = .ok (.aload_n 0, 1) := by decide +kernel
theorem d_Tr_isThere_8 : decode k_Tr_isThere.1 8 = .ok (.getfield 9, 3) := by decide +kernel
theorem d_Tr_isThere_11 : decode k_Tr_isThere.1 11 = .ok (.iload_n 1, 1) := by decide +kernel
theorem d_Tr_isThere_12 : decode k_Tr_isThere.1 12 = .ok (.iaload, 1) := by decide +kernel
theorem d_Tr_isThere_13 : decode k_Tr_isThere.1 13 = .ok (.ifCond .eq 7, 3) := by decide +kernel
theorem d_Tr_isThere_16 : decode k_Tr_isThere.1 16 = .ok (.iconst 1, 1) := by decide +kernel
theorem d_Tr_isThere_17 : decode k_Tr_isThere.1 17 = .ok (.goto 4, 3) := by decide +kernel
theorem d_Tr_isThere_20 : decode k_Tr_isThere.1 20 = .ok (.iconst 0, 1) := by decide +kernel
theorem d_Tr_isThere_21 : decode k_Tr_isThere.1 21 = .ok (.ireturn, 1) := by decide +kernel
theorem d_Tr_isFolder_0 : decode k_Tr_isFolder.1 0 = .ok (.iload_n 1, 1) := by decide +kernel
theorem d_Tr_isFolder_1 : decode k_Tr_isFolder.1 1 = .ok (.invokestatic 26, 3) := by decide +kernel
theorem d_Tr_isFolder_4 : decode k_Tr_isFolder.1 4 = .ok (.ifCond .eq 17, 3) := by decide +kernel
theorem d_Tr_isFolder_7 : decode k_Tr_isFolder.1 7 = .ok (.aload_n 0, 1) := by decide +kernel
theorem d_Tr_isFolder_8 : decode k_Tr_isFolder.1 8 = .ok (.getfield 9, 3) := by decide +kernel
theorem d_Tr_isFolder_11 : decode k_Tr_isFolder.1 11 = .ok (.iload_n 1, 1) := by decide +kernel
theorem d_Tr_isFolder_12 : decode k_Tr_isFolder.1 12 = .ok (.iaload, 1) := by decide +kernel
theorem d_Tr_isFolder_13 : decode k_Tr_isFolder.1 13 = .ok (.iconst 1, 1) := by decide +kernel
theorem d_Tr_isFolder_14 : decode k_Tr_isFolder.1 14 = .ok (.if_icmp .ne 7, 3) := by decide +kernel
theorem d_Tr_isFolder_17 : decode k_Tr_isFolder.1 17 = .ok (.iconst 1, 1) := by decide +kernel
theorem d_Tr_isFolder_18 : decode k_Tr_isFolder.1 18 = .ok (.goto 4, 3) := by decide +kernel
theorem d_Tr_isFolder_21 : decode k_Tr_isFolder.1 21 = .ok (.iconst 0, 1) := by decide +kernel
theorem d_Tr_isFolder_22 : decode k_Tr_isFolder.1 22 = .ok (.ireturn, 1) := by decide +kernel
theorem d_Tr_put_0 : decode k_Tr_put.1 0 = .ok (.aload_n 0, 1) := by decide +kernel
theorem d_Tr_put_1 : decode k_Tr_put.1 1 = .ok (.getfield 9, 3) := by decide +kernel
theorem d_Tr_put_4 : decode k_Tr_put.1 4 = .ok (.iload_n 1, 1) := by decide +kernel
theorem d_Tr_put_5 : decode k_Tr_put.1 5 = .ok (.iload_n 3, 1) := by decide +kernel
theorem d_Tr_put_6 : decode k_Tr_put.1 6 = .ok (.ifCond .eq 7, 3) := by decide +kernel
theorem d_Tr_put_9 : decode k_Tr_put.1 9 = .ok (.iconst 1, 1) := by decide +kernel
theorem d_Tr_put_10 : decode k_Tr_put.1 10 = .ok (.goto 4, 3) := by decide +kernel
theorem d_Tr_put_13 : decode k_Tr_put.1 13 = .ok (.iconst 2, 1) := by decide +kernel
theorem d_Tr_put_14 : decode k_Tr_put.1 14 = .ok (.iastore, 1) := by decide +kernel
theorem d_Tr_put_15 : decode k_Tr_put.1 15 = .ok (.aload_n 0, 1) := by decide +kernel
theorem d_Tr_put_16 : decode k_Tr_put.1 16 = .ok (.getfield 15, 3) := by decide +kernel
theorem d_Tr_put_19 : decode k_Tr_put.1 19 = .ok (.iload_n 1, 1) := by decide +kernel
theorem d_Tr_put_20 : decode k_Tr_put.1 20 = .ok (.iload_n 2, 1) := by decide +kernel
theorem d_Tr_put_21 : decode k_Tr_put.1 21 = .ok (.iastore, 1) := by decide +kernel
theorem d_Tr_put_22 : decode k_Tr_put.1 22 = .ok (.aload_n 0, 1) := by decide +kernel
theorem d_Tr_put_23 : decode k_Tr_put.1 23 = .ok (.getfield 23, 3) := by decide +kernel
theorem d_Tr_put_26 : decode k_Tr_put.1 26 = .ok (.iload_n 1, 1) := by decide +kernel
theorem d_Tr_put_27 : decode k_Tr_put.1 27 = .ok (.iconst 0, 1) := by decide +kernel
theorem d_Tr_put_28 : decode k_Tr_put.1 28 = .ok (.iastore, 1) := by decide +kernel
theorem d_Tr_put_29 : decode k_Tr_put.1 29 = .ok (.return_, 1) := by decide +kernel
theorem d_Tr_append_0 : decode k_Tr_append.1 0 = .ok (.aload_n 0, 1) := by decide +kernel
theorem d_Tr_append_1 : decode k_Tr_append.1 1 = .ok (.getfield 20, 3) := by decide +kernel
theorem d_Tr_append_4 : decode k_Tr_append.1 4 = .ok (.iload_n 1, 1) := by decide +kernel
theorem d_Tr_append_5 : decode k_Tr_append.1 5 = .ok (.aaload, 1) := by decide +kernel
theorem d_Tr_append_6 : decode k_Tr_append.1 6 = .ok (.aload_n 0, 1) := by decide +kernel
theorem d_Tr_append_7 : decode k_Tr_append.1 7 = .ok (.getfield 23, 3) := by decide +kernel
theorem d_Tr_append_10 : decode k_Tr_append.1 10 = .ok (.iload_n 1, 1) := by decide +kernel
theorem d_Tr_append_11 : decode k_Tr_append.1 11 = .ok (.iaload, 1) := by decide +kernel
theorem d_Tr_append_12 : decode k_Tr_append.1 12 = .ok (.iload_n 2, 1) := by decide +kernel
theorem d_Tr_append_13 : decode k_Tr_append.1 13 = .ok (.iastore, 1) := by decide +kernel
theorem d_Tr_append_14 : decode k_Tr_append.1 14 = .ok (.aload_n 0, 1) := by decide +kernel
theorem d_Tr_append_15 : decode k_Tr_append.1 15 = .ok (.getfield 23, 3) := by decide +kernel
theorem d_Tr_append_18 : decode k_Tr_append.1 18 = .ok (.iload_n 1, 1) := by decide +kernel
theorem d_Tr_append_19 : decode k_Tr_append.1 19 = .ok (.dup2, 1) := by decide +kernel
theorem d_Tr_append_20 : decode k_Tr_append.1 20 = .ok (.iaload, 1) := by decide +kernel
theorem d_Tr_append_21 : decode k_Tr_append.1 21 = .ok (.iconst 1, 1) := by decide +kernel
theorem d_Tr_append_22 : decode k_Tr_append.1 22 = .ok (.iadd, 1) := by decide +kernel
theorem d_Tr_append_23 : decode k_Tr_append.1 23 = .ok (.iastore, 1) := by decide +kernel
theorem d_Tr_append_24 : decode k_Tr_append.1 24 = .ok (.return_, 1) := by decide +kernel
theorem d_Tr_shorten_0 : decode k_Tr_shorten.1 0 = .ok (.aload_n 0, 1) := by decide +kernel
theorem d_Tr_shorten_1 : decode k_Tr_shorten.1 1 = .ok (.getfield 23, 3) := by decide +kernel
theorem d_Tr_shorten_4 : decode k_Tr_shorten.1 4 = .ok (.iload_n 1, 1) := by decide +kernel
theorem d_Tr_shorten_5 : decode k_Tr_shorten.1 5 = .ok (.iload_n 2, 1) := by decide +kernel
theorem d_Tr_shorten_6 : decode k_Tr_shorten.1 6 = .ok (.iastore, 1) := by decide +kernel
theorem d_Tr_shorten_7 : decode k_Tr_shorten.1 7 = .ok (.return_, 1) := by decide +kernel
theorem d_Tr_isWithin_0 : decode k_Tr_isWithin.1 0 = .ok (.aload_n 0, 1) := by decide +kernel
theorem d_Tr_isWithin_1 : decode k_Tr_isWithin.1 1 = .ok (.iload_n 1, 1) := by decide +kernel
theorem d_Tr_isWithin_2 : decode k_Tr_isWithin.1 2 = .ok (.invokevirtual 30, 3) := by decide +kernel
theorem d_Tr_isWithin_5 : decode k_Tr_isWithin.1 5 = .ok (.ifCond .ne 5, 3) := by decide +kernel
theorem d_Tr_isWithin_8 : decode k_Tr_isWithin.1 8 = .ok (.iconst 0, 1) := by decide +kernel
theorem d_Tr_isWithin_9 : decode k_Tr_isWithin.1 9 = .ok (.ireturn, 1) := by decide +kernel
theorem d_Tr_isWithin_10 : decode k_Tr_isWithin.1 10 = .ok (.iload_n 1, 1) := by decide +kernel
theorem d_Tr_isWithin_11 : decode k_Tr_isWithin.1 11 = .ok (.istore_n 3, 1) := by decide +kernel
theorem d_Tr_isWithin_12 : decode k_Tr_isWithin.1 12 = .ok (.iconst 0, 1) := by decide +kernel
theorem d_Tr_isWithin_13 : decode k_Tr_isWithin.1 13 = .ok (.istore 4, 2) := by decide +kernel
theorem d_Tr_isWithin_15 : decode k_Tr_isWithin.1 15 = .ok (.iload 4, 2) := by decide +kernel
theorem d_Tr_isWithin_17 : decode k_Tr_isWithin.1 17 = .ok (.bipush 16, 2) := by decide +kernel
theorem d_Tr_isWithin_19 : decode k_Tr_isWithin.1 19 = .ok (.if_icmp .ge 27, 3) := by decide +kernel
theorem d_Tr_isWithin_22 : decode k_Tr_isWithin.1 22 = .ok (.iload_n 3, 1) := by decide +kernel
theorem d_Tr_isWithin_23 : decode k_Tr_isWithin.1 23 = .ok (.ifCond .eq 23, 3) := by decide +kernel
theorem d_Tr_isWithin_26 : decode k_Tr_isWithin.1 26 = .ok (.aload_n 0, 1) := by decide +kernel
theorem d_Tr_isWithin_27 : decode k_Tr_isWithin.1 27 = .ok (.getfield 15, 3) := by decide +kernel
theorem d_Tr_isWithin_30 : decode k_Tr_isWithin.1 30 = .ok (.iload_n 3, 1) := by decide +kernel
theorem d_Tr_isWithin_31 : decode k_Tr_isWithin.1 31 = .ok (.iaload, 1) := by decide +kernel
theorem d_Tr_isWithin_32 : decode k_Tr_isWithin.1 32 = .ok (.istore_n 3, 1) := by decide +kernel
theorem d_Tr_isWithin_33 : decode k_Tr_isWithin.1 33 = .ok (.iload_n 3, 1) := by decide +kernel
theorem d_Tr_isWithin_34 : decode k_Tr_isWithin.1 34 = .ok (.iload_n 2, 1) := by decide +kernel
theorem d_Tr_isWithin_35 : decode k_Tr_isWithin.1 35 = .ok (.if_icmp .ne 5, 3) := by decide +kernel
theorem d_Tr_isWithin_38 : decode k_Tr_isWithin.1 38 = .ok (.iconst 1, 1) := by decide +kernel
theorem d_Tr_isWithin_39 : decode k_Tr_isWithin.1 39 = .ok (.ireturn, 1) := by decide +kernel
theorem d_Tr_isWithin_40 : decode k_Tr_isWithin.1 40 = .ok (.iinc 4 1, 3) := by decide +kernel
theorem d_Tr_isWithin_43 : decode k_Tr_isWithin.1 43 = .ok (.goto (-28), 3) := by decide +kernel
theorem d_Tr_isWithin_46 : decode k_Tr_isWithin.1 46 = .ok (.iconst 0, 1) := by decide +kernel
theorem d_Tr_isWithin_47 : decode k_Tr_isWithin.1 47 = .ok (.ireturn, 1) := by decide +kernel
theorem d_Tr_drop_0 : decode k_Tr_drop.1 0 = .ok (.aload_n 0, 1) := by decide +kernel
theorem d_Tr_drop_1 : decode k_Tr_drop.1 1 = .ok (.getfield 9, 3) := by decide +kernel
theorem d_Tr_drop_4 : decode k_Tr_drop.1 4 = .ok (.iload_n 1, 1) := by decide +kernel
theorem d_Tr_drop_5 : decode k_Tr_drop.1 5 = .ok (.iconst 0, 1) := by decide +kernel
theorem d_Tr_drop_6 : decode k_Tr_drop.1 6 = .ok (.iastore, 1) := by decide +kernel
theorem d_Tr_drop_7 : decode k_Tr_drop.1 7 = .ok (.return_, 1) := by decide +kernel
theorem d_Tr_parentOf_0 : decode k_Tr_parentOf.1 0 = .ok (.aload_n 0, 1) := by decide +kernel
theorem d_Tr_parentOf_1 : decode k_Tr_parentOf.1 1 = .ok (.getfield 15, 3) := by decide +kernel
theorem d_Tr_parentOf_4 : decode k_Tr_parentOf.1 4 = .ok (.iload_n 1, 1) := by decide +kernel
theorem d_Tr_parentOf_5 : decode k_Tr_parentOf.1 5 = .ok (.iaload, 1) := by decide +kernel
theorem d_Tr_parentOf_6 : decode k_Tr_parentOf.1 6 = .ok (.ireturn, 1) := by decide +kernel
theorem d_Tr_hang_0 : decode k_Tr_hang.1 0 = .ok (.aload_n 0, 1) := by decide +kernel
theorem d_Tr_hang_1 : decode k_Tr_hang.1 1 = .ok (.getfield 15, 3) := by decide +kernel
theorem d_Tr_hang_4 : decode k_Tr_hang.1 4 = .ok (.iload_n 1, 1) := by decide +kernel
theorem d_Tr_hang_5 : decode k_Tr_hang.1 5 = .ok (.iload_n 2, 1) := by decide +kernel
theorem d_Tr_hang_6 : decode k_Tr_hang.1 6 = .ok (.iastore, 1) := by decide +kernel
theorem d_Tr_hang_7 : decode k_Tr_hang.1 7 = .ok (.return_, 1) := by decide +kernel
theorem d_Tr_nodesThere_0 : decode k_Tr_nodesThere.1 0 = .ok (.iconst 0, 1) := by decide +kernel
theorem d_Tr_nodesThere_1 : decode k_Tr_nodesThere.1 1 = .ok (.istore_n 1, 1) := by decide +kernel
theorem d_Tr_nodesThere_2 : decode k_Tr_nodesThere.1 2 = .ok (.iconst 0, 1) := by decide +kernel
theorem d_Tr_nodesThere_3 : decode k_Tr_nodesThere.1 3 = .ok (.istore_n 2, 1) := by decide +kernel
theorem d_Tr_nodesThere_4 : decode k_Tr_nodesThere.1 4 = .ok (.iload_n 2, 1) := by decide +kernel
theorem d_Tr_nodesThere_5 : decode k_Tr_nodesThere.1 5 = .ok (.bipush 16, 2) := by decide +kernel
theorem d_Tr_nodesThere_7 : decode k_Tr_nodesThere.1 7 = .ok (.if_icmp .ge 25, 3) := by decide +kernel
theorem d_Tr_nodesThere_10 : decode k_Tr_nodesThere.1 10 = .ok (.iload_n 1, 1) := by decide +kernel
theorem d_Tr_nodesThere_11 : decode k_Tr_nodesThere.1 11 = .ok (.aload_n 0, 1) := by decide +kernel
theorem d_Tr_nodesThere_12 : decode k_Tr_nodesThere.1 12 = .ok (.iload_n 2, 1) := by decide +kernel
theorem d_Tr_nodesThere_13 : decode k_Tr_nodesThere.1 13 = .ok (.invokevirtual 30, 3) := by decide +kernel
theorem d_Tr_nodesThere_16 : decode k_Tr_nodesThere.1 16 = .ok (.ifCond .eq 7, 3) := by decide +kernel
theorem d_Tr_nodesThere_19 : decode k_Tr_nodesThere.1 19 = .ok (.iconst 1, 1) := by decide +kernel
theorem d_Tr_nodesThere_20 : decode k_Tr_nodesThere.1 20 = .ok (.goto 4, 3) := by decide +kernel
theorem d_Tr_nodesThere_23 : decode k_Tr_nodesThere.1 23 = .ok (.iconst 0, 1) := by decide +kernel
theorem d_Tr_nodesThere_24 : decode k_Tr_nodesThere.1 24 = .ok (.iadd, 1) := by decide +kernel
theorem d_Tr_nodesThere_25 : decode k_Tr_nodesThere.1 25 = .ok (.istore_n 1, 1) := by decide +kernel
theorem d_Tr_nodesThere_26 : decode k_Tr_nodesThere.1 26 = .ok (.iinc 2 1, 3) := by decide +kernel
theorem d_Tr_nodesThere_29 : decode k_Tr_nodesThere.1 29 = .ok (.goto (-25), 3) := by decide +kernel
theorem d_Tr_nodesThere_32 : decode k_Tr_nodesThere.1 32 = .ok (.iload_n 1, 1) := by decide +kernel
theorem d_Tr_nodesThere_33 : decode k_Tr_nodesThere.1 33 = .ok (.ireturn, 1) := by decide +kernel
theorem d_Tr_filesThere_0 : decode k_Tr_filesThere.1 0 = .ok (.iconst 0, 1) := by decide +kernel
theorem d_Tr_filesThere_1 : decode k_Tr_filesThere.1 1 = .ok (.istore_n 1, 1) := by decide +kernel
theorem d_Tr_filesThere_2 : decode k_Tr_filesThere.1 2 = .ok (.iconst 0, 1) := by decide +kernel
theorem d_Tr_filesThere_3 : decode k_Tr_filesThere.1 3 = .ok (.istore_n 2, 1) := by decide +kernel
theorem d_Tr_filesThere_4 : decode k_Tr_filesThere.1 4 = .ok (.iload_n 2, 1) := by decide +kernel
theorem d_Tr_filesThere_5 : decode k_Tr_filesThere.1 5 = .ok (.bipush 16, 2) := by decide +kernel
theorem d_Tr_filesThere_7 : decode k_Tr_filesThere.1 7 = .ok (.if_icmp .ge 25, 3) := by decide +kernel
theorem d_Tr_filesThere_10 : decode k_Tr_filesThere.1 10 = .ok (.iload_n 1, 1) := by decide +kernel
theorem d_Tr_filesThere_11 : decode k_Tr_filesThere.1 11 = .ok (.aload_n 0, 1) := by decide +kernel
theorem d_Tr_filesThere_12 : decode k_Tr_filesThere.1 12 = .ok (.iload_n 2, 1) := by decide +kernel
theorem d_Tr_filesThere_13 : decode k_Tr_filesThere.1 13 = .ok (.invokevirtual 33, 3) := by decide +kernel
theorem d_Tr_filesThere_16 : decode k_Tr_filesThere.1 16 = .ok (.ifCond .eq 7, 3) := by decide +kernel
theorem d_Tr_filesThere_19 : decode k_Tr_filesThere.1 19 = .ok (.iconst 1, 1) := by decide +kernel
theorem d_Tr_filesThere_20 : decode k_Tr_filesThere.1 20 = .ok (.goto 4, 3) := by decide +kernel
theorem d_Tr_filesThere_23 : decode k_Tr_filesThere.1 23 = .ok (.iconst 0, 1) := by decide +kernel
theorem d_Tr_filesThere_24 : decode k_Tr_filesThere.1 24 = .ok (.iadd, 1) := by decide +kernel
theorem d_Tr_filesThere_25 : decode k_Tr_filesThere.1 25 = .ok (.istore_n 1, 1) := by decide +kernel
theorem d_Tr_filesThere_26 : decode k_Tr_filesThere.1 26 = .ok (.iinc 2 1, 3) := by decide +kernel
theorem d_Tr_filesThere_29 : decode k_Tr_filesThere.1 29 = .ok (.goto (-25), 3) := by decide +kernel
theorem d_Tr_filesThere_32 : decode k_Tr_filesThere.1 32 = .ok (.iload_n 1, 1) := by decide +kernel
theorem d_Tr_filesThere_33 : decode k_Tr_filesThere.1 33 = .ok (.ireturn, 1) := by decide +kernel
end
section
/-! ===== THE MEMORY. What the law has made is numbered 0, 1, .. in the order of its making. A shape S: how many cells; of each its kind (a class's number below 32, or an array's sort from 32 on) and length; its references. The ints stand in I, the longs in J, by cell and place. ===== -/
abbrev CT : Type := State × Array Value × Nat × Nat × (Nat → Int32) × va_G × (Nat → ClassId)
abbrev ShT : Type := Nat × (Nat → Nat × Nat) × (Nat → Nat → Option Nat)
abbrev DI : Type := Nat → Nat → Int32
abbrev DJ : Type := Nat → Nat → Int64
abbrev cS (C : CT) : State := C.1
abbrev cG (C : CT) : Array Value := C.2.1
abbrev cB (C : CT) : Nat := C.2.2.1
abbrev cN (C : CT) : Nat := C.2.2.2.1
abbrev cX (C : CT) : Nat → Int32 := C.2.2.2.2.1
abbrev cD (C : CT) : va_G := C.2.2.2.2.2.1
abbrev cA (C : CT) : Nat → ClassId := C.2.2.2.2.2.2
abbrev c0 (C : CT) : Nat := C.1.heap.size
def fR (C : CT) (r : Option Nat) : Value := match r with
  | some k => .ref (c0 C + k)
  | none => .null
def fV (C : CT) (S : ShT) (I : DI) (J : DJ) (k j : Nat) (ty : FieldType) : Value := match ty with
  | .long => .long (J k j)
  | .object _ => fR C (S.2.2 k j)
  | .array _ => fR C (S.2.2 k j)
  | _ => .int (I k j)
def fL (C : CT) (S : ShT) (I : DI) (J : DJ) (k t : Nat) : List Value := (List.range (kF t)).map (fun j => fV C S I J k j (kY t j))
def fA (C : CT) (S : ShT) (I : DI) (J : DJ) (k t n : Nat) : vp_A := (n, if t = 34 then .inr (.inl (J k)) else if t < 34 then .inl (I k) else .inr (.inr (.inr (.inr (fun j => (S.2.2 k j).map (fun r => c0 C + r))))))
def cel (C : CT) (S : ShT) (I : DI) (J : DJ) (k : Nat) : va_E := if (S.2.1 k).1 < 32 then .inr ((S.2.1 k).1, fL C S I J k (S.2.1 k).1) else .inl (cA C (S.2.1 k).1, fA C S I J k (S.2.1 k).1 (S.2.1 k).2)
def MR (C : CT) (S : ShT) (I : DI) (J : DJ) (H : Heap) : Prop := H.size = c0 C + S.1 ∧ ∀ k, k < S.1 → va_at (cD C) vwCl (c0 C + k, cel C S I J k) H
def tgT : Nat → FieldType := fun t => match t with
  | 32 => .int
  | 33 => .boolean
  | 34 => .long
  | 35 => .object "FileIndexer$Entry"
  | 36 => .object "FileIndexer$Term"
  | _ => .array .int
/-- a value of the memory as the machine has it; the script is '.retAddr 0' -/
def cv (C : CT) : Value → Value := fun v => match v with
  | .ref k => .ref (c0 C + k)
  | .retAddr _ => .ref (cB C)
  | v => v
theorem cv_cat (C : CT) (v : Value) : (cv C v).category = v.category := by cases v <;> rfl
def GG (C : CT) (U : State) : Prop := (cS C).WarmedH U.vm ∧ ∀ q, q < c0 C → U.heap[q]? = (cS C).heap[q]?
def OKC (C : CT) (l : Launch) : Prop := l.flags = flags0 ∧ (∀ w ∈ lw_tbl, w.before (cG C) (cS C) = true) ∧ va_K (cD C) vwCl [] (cS C) ∧ (∀ t, 32 ≤ t → ArrOfT (cS C) (cA C t) (tgT t) ∧ va_RA (cS C) (cA C t) (tgT t)) ∧ va_X (cB C) (cN C) (cX C) (cS C) (cS C).heap ∧ cB C < c0 C ∧
  (Cond.isRef (.static "java/lang/Throwable" "UNASSIGNED_STACK" "[Ljava/lang/StackTraceElement;")).before (cG C) (cS C) = true ∧ (Cond.isRef (.static "java/lang/Throwable" "SUPPRESSED_SENTINEL" "Ljava/util/List;")).before (cG C) (cS C) = true ∧
  ∀ i j : Nat, (i = 9 ∨ i = 10 ∨ i = 11) → (j = 9 ∨ j = 10 ∨ j = 11) → i ≠ j → (Cond.not (.castable (kN i) (kN j))).before (cG C) (cS C) = true
theorem Wd.at {w : Cond} (h : Wd w) {C : CT} {l : Launch} (hC : OKC C l) {U : State} (hW : (cS C).WarmedH U.vm) (a : Array Value) : w.before a U = true := word_at hW (good_of_word h.2) (hC.2.1 w h.1)
abbrev RsT : Type := Option Value ⊕ Nat
abbrev PoT : Type := RsT → ShT → DI → DJ → Prop
def oOf (C : CT) (r : RsT) (S : ShT) (o : Outcome) : Prop := match r with
  | .inl v => o = .returned (v.map (cv C))
  | .inr ci => ∃ k, S.1 = k + 1 ∧ (S.2.1 k).1 = ci ∧ o = .threw (c0 C + k)
def QX (C : CT) (Po : PoT) (o : Outcome) (t : State) : Prop := ∃ (r : RsT) (S : ShT) (I : DI) (J : DJ), Po r S I J ∧ MR C S I J t.heap ∧ GG C t ∧ oOf C r S o
abbrev RT : Type := Nat × Nat × Nat
def RM (R : RT) : Room := { frames := R.1, cells := R.2.1, slots := R.2.2, locals := 36 * R.1 }
def EX (C : CT) (R : RT) (s t : State) : Prop := ∃ L : List Loc, s.WarmedH t.vm ∧ s.sameButNew ({ t with vm := s.vm } : State) L R.2.1 R.2.2 ∧ ∀ q ∈ L, c0 C ≤ q.base
def ZX (C : CT) (R : RT) (Po : PoT) (below : List Frame) (s : State) : State → Prop := fun t => ∃ o, t.status = .running ∧ Ended t below o ∧ QX C Po o t ∧ EX C R s t
abbrev AX (C : CT) : Nat → Prop := fun q => c0 C ≤ q
def Iv (C : CT) (l : Launch) (K : KT) (p : Program) (s : State) (m : MethodId) (meth : Method) (c : Code) : Prop :=
  OKC C l ∧ p.tables.exec = Jvm.exec ∧ c.code = K.1 ∧ meth.sig.returnType = K.2.2.2.2.2 ∧ c.maxLocals = K.2.2.2.2.1 ∧ s.vm.findClass K.2.1 = some m.cls ∧ meth.locks = false ∧ c.exceptionTable.toList.map (fun x => (x.startPc, x.endPc, x.handlerPc, x.catchType)) = K.2.2.2.1 ∧ GG C s ∧ (∃ S I J, MR C S I J s.heap) ∧ meth.name = K.2.2.1
abbrev LT : Type := List (Nat × Value)
def lC (C : CT) (L : LT) : LT := L.map (fun q => (q.1, cv C q.2))
/-- THE JUDGEMENT: inside a method of the card K, at pc, with these locals, this stack and this memory, u cells and slots made so far: the method comes to an end with Po -/
def V (C : CT) (l : Launch) (K : KT) (R : RT) (Po : PoT) (pc : Nat) (L : LT) (st : List Value) (S : ShT) (I : DI) (J : DJ) (u : Nat × Nat) : Prop :=
  ∀ (p : Program) (e : Env) (s : State) (m : MethodId) (args : Array Value) (below : List Frame) (meth : Method) (c : Code), Iv C l K p s m meth c →
    ∀ (H : Heap) (ls : Array Slot) (locs : List Loc), MR C S I J H → lv_has ls K.2.2.2.2.1 (lC C L) → va_S (AX C) s.heap H locs → u.1 ≤ R.2.1 → u.2 ≤ R.2.2 →
    W p l e (RM R) s m args below meth c H locs u.1 u.2 (ZX C R Po below s) (F0 m pc ls (st.map (cv C)))
theorem lC_at {C : CT} {L : LT} {n i : Nat} {v : Value} {ls : Array Slot} {nL : Nat} (h : lv_has ls nL (lC C L)) (hl : L[n]? = some (i, v)) : ls[i]? = some (.val (cv C v)) := lv_at h n (by unfold lC; rw [List.getElem?_map, hl]; rfl)
theorem lC_f1 {C : CT} {L : LT} {i : Nat} : (lC C L).filter (fun q => !(q.1 == i) && !(q.1 + 1 == i && q.2.category == 2)) = lC C (L.filter (fun q => !(q.1 == i) && !(q.1 + 1 == i && q.2.category == 2))) := by
  unfold lC
  rw [List.filter_map]
  congr 2
  funext q
  simp [cv_cat]
theorem lC_f2 {C : CT} {L : LT} {i : Nat} : (lC C L).filter (fun q => !(q.1 == i) && (!(q.1 == i + 1) && !(q.1 + 1 == i && q.2.category == 2))) = lC C (L.filter (fun q => !(q.1 == i) && (!(q.1 == i + 1) && !(q.1 + 1 == i && q.2.category == 2)))) := by
  unfold lC
  rw [List.filter_map]
  congr 2
  funext q
  simp [cv_cat]
/-- the locals behind a store of one slot, of two slots -/
def s1 (L : LT) (i : Nat) (v : Value) : LT := (i, v) :: L.filter (fun q => !(q.1 == i) && !(q.1 + 1 == i && q.2.category == 2))
def s2 (L : LT) (i : Nat) (v : Value) : LT := (i, v) :: L.filter (fun q => !(q.1 == i) && (!(q.1 == i + 1) && !(q.1 + 1 == i && q.2.category == 2)))
section Rows
variable {C : CT} {l : Launch} {K : KT} {R : RT} {Po : PoT} {pc pc' : Nat} {L L' : LT} {st : List Value} {S : ShT} {I : DI} {J : DJ} {u : Nat × Nat}
theorem v_sub (ks : List Nat) (hl : lv_pick L ks = L') (k : V C l K R Po pc L' st S I J u) : V C l K R Po pc L st S I J u := by
  intro p e s m args below meth c hI H ls locs hM hL hS h1 h2
  refine k p e s m args below meth c hI H ls locs hM (lv_sub hL ks ?_) hS h1 h2
  rw [← hl]
  unfold lC lv_pick
  rw [List.map_filterMap]
  congr 1
  funext i
  rw [List.getElem?_map]
theorem v_nmi {x : Int32} (k : ∀ y : Int32, y = x → V C l K R Po pc L (.int y :: st) S I J u) : V C l K R Po pc L (.int x :: st) S I J u := k x rfl
theorem v_nml {x : Int64} (k : ∀ y : Int64, y = x → V C l K R Po pc L (.long y :: st) S I J u) : V C l K R Po pc L (.long x :: st) S I J u := k x rfl
theorem v_iconst {n : Int} {v : Int32} (hd : decode K.1 pc = .ok (.iconst n, 1)) (hv : Int32.ofInt n = v) (hp : pc + 1 = pc') (k : V C l K R Po pc' L (.int v :: st) S I J u) : V C l K R Po pc L st S I J u := by
  intro p e s m args below meth c hI H ls locs hM hL hS h1 h2
  subst hp
  exact lv_iconst hI.2.1 hI.2.2.1 hd hv (k p e s m args below meth c hI H ls locs hM hL hS h1 h2)
theorem v_bipush {n : Int} {v : Int32} (hd : decode K.1 pc = .ok (.bipush n, 2)) (hv : (Int8.ofInt n).toInt32 = v) (hp : pc + 2 = pc') (k : V C l K R Po pc' L (.int v :: st) S I J u) : V C l K R Po pc L st S I J u := by
  intro p e s m args below meth c hI H ls locs hM hL hS h1 h2
  subst hp
  exact lv_bipush hI.2.1 hI.2.2.1 hd hv (k p e s m args below meth c hI H ls locs hM hL hS h1 h2)
theorem v_sipush {n : Int} {v : Int32} (hd : decode K.1 pc = .ok (.sipush n, 3)) (hv : (Int16.ofInt n).toInt32 = v) (hp : pc + 3 = pc') (k : V C l K R Po pc' L (.int v :: st) S I J u) : V C l K R Po pc L st S I J u := by
  intro p e s m args below meth c hI H ls locs hM hL hS h1 h2
  subst hp
  exact lv_sipush hI.2.1 hI.2.2.1 hd hv (k p e s m args below meth c hI H ls locs hM hL hS h1 h2)
theorem v_lconst {n : Fin 2} {v : Int64} (hd : decode K.1 pc = .ok (.lconst n, 1)) (hv : Int64.ofNat (n : Nat) = v) (hp : pc + 1 = pc') (k : V C l K R Po pc' L (.long v :: st) S I J u) : V C l K R Po pc L st S I J u := by
  intro p e s m args below meth c hI H ls locs hM hL hS h1 h2
  subst hp
  exact lv_lconst hI.2.1 hI.2.2.1 hd hv (k p e s m args below meth c hI H ls locs hM hL hS h1 h2)
theorem v_iload_n {k4 : Fin 4} {i : Nat} {x : Int32} (n : Nat) (hd : decode K.1 pc = .ok (.iload_n k4, 1)) (hi : (k4 : Nat) = i) (hl : L[n]? = some (i, .int x)) (hp : pc + 1 = pc') (k : V C l K R Po pc' L (.int x :: st) S I J u) : V C l K R Po pc L st S I J u := by
  intro p e s m args below meth c hI H ls locs hM hL hS h1 h2
  subst hp
  exact lv_iload_n hI.2.1 hI.2.2.1 hd hi (lC_at hL hl) (k p e s m args below meth c hI H ls locs hM hL hS h1 h2)
theorem v_iload {i : Nat} {x : Int32} (n : Nat) (hd : decode K.1 pc = .ok (.iload i, 2)) (hl : L[n]? = some (i, .int x)) (hp : pc + 2 = pc') (k : V C l K R Po pc' L (.int x :: st) S I J u) : V C l K R Po pc L st S I J u := by
  intro p e s m args below meth c hI H ls locs hM hL hS h1 h2
  subst hp
  exact lv_iload hI.2.1 hI.2.2.1 hd (lC_at hL hl) (k p e s m args below meth c hI H ls locs hM hL hS h1 h2)
theorem v_lload_n {k4 : Fin 4} {i : Nat} {x : Int64} (n : Nat) (hd : decode K.1 pc = .ok (.lload_n k4, 1)) (hi : (k4 : Nat) = i) (hl : L[n]? = some (i, .long x)) (hp : pc + 1 = pc') (k : V C l K R Po pc' L (.long x :: st) S I J u) : V C l K R Po pc L st S I J u := by
  intro p e s m args below meth c hI H ls locs hM hL hS h1 h2
  subst hp
  exact lv_lload_n hI.2.1 hI.2.2.1 hd hi (lC_at hL hl) (k p e s m args below meth c hI H ls locs hM hL hS h1 h2)
theorem v_lload {i : Nat} {x : Int64} (n : Nat) (hd : decode K.1 pc = .ok (.lload i, 2)) (hl : L[n]? = some (i, .long x)) (hp : pc + 2 = pc') (k : V C l K R Po pc' L (.long x :: st) S I J u) : V C l K R Po pc L st S I J u := by
  intro p e s m args below meth c hI H ls locs hM hL hS h1 h2
  subst hp
  exact lv_lload hI.2.1 hI.2.2.1 hd (lC_at hL hl) (k p e s m args below meth c hI H ls locs hM hL hS h1 h2)
theorem v_aload_n {k4 : Fin 4} {i : Nat} {x : Nat} (n : Nat) (hd : decode K.1 pc = .ok (.aload_n k4, 1)) (hi : (k4 : Nat) = i) (hl : L[n]? = some (i, .ref x)) (hp : pc + 1 = pc') (k : V C l K R Po pc' L (.ref x :: st) S I J u) : V C l K R Po pc L st S I J u := by
  intro p e s m args below meth c hI H ls locs hM hL hS h1 h2
  subst hp
  exact lv_aload_n hI.2.1 hI.2.2.1 hd hi (lC_at hL hl) (k p e s m args below meth c hI H ls locs hM hL hS h1 h2)
theorem v_aload {i : Nat} {x : Nat} (n : Nat) (hd : decode K.1 pc = .ok (.aload i, 2)) (hl : L[n]? = some (i, .ref x)) (hp : pc + 2 = pc') (k : V C l K R Po pc' L (.ref x :: st) S I J u) : V C l K R Po pc L st S I J u := by
  intro p e s m args below meth c hI H ls locs hM hL hS h1 h2
  subst hp
  exact lv_aload hI.2.1 hI.2.2.1 hd (lC_at hL hl) (k p e s m args below meth c hI H ls locs hM hL hS h1 h2)
theorem v_sload_n {k4 : Fin 4} {i : Nat} {x : Nat} (n : Nat) (hd : decode K.1 pc = .ok (.aload_n k4, 1)) (hi : (k4 : Nat) = i) (hl : L[n]? = some (i, .retAddr x)) (hp : pc + 1 = pc') (k : V C l K R Po pc' L (.retAddr x :: st) S I J u) : V C l K R Po pc L st S I J u := by
  intro p e s m args below meth c hI H ls locs hM hL hS h1 h2
  subst hp
  exact lv_aload_n hI.2.1 hI.2.2.1 hd hi (lC_at hL hl) (k p e s m args below meth c hI H ls locs hM hL hS h1 h2)
theorem v_istore_n {k4 : Fin 4} {i : Nat} {x : Int32} (hd : decode K.1 pc = .ok (.istore_n k4, 1)) (hi : (k4 : Nat) = i) (hn : i < K.2.2.2.2.1) (hl : s1 L i (.int x) = L') (hp : pc + 1 = pc') (k : V C l K R Po pc' L' st S I J u) : V C l K R Po pc L ((.int x) :: st) S I J u := by
  intro p e s m args below meth c hI H ls locs hM hL hS h1 h2
  subst hp
  exact lv_istore_n hI.2.1 hI.2.2.1 hd hi hL hn (show _ = lC C L' by rw [← hl, lC_f1]; rfl) (fun ls hL => k p e s m args below meth c hI H ls locs hM hL hS h1 h2)
theorem v_istore {i : Nat} {x : Int32} (hd : decode K.1 pc = .ok (.istore i, 2)) (hn : i < K.2.2.2.2.1) (hl : s1 L i (.int x) = L') (hp : pc + 2 = pc') (k : V C l K R Po pc' L' st S I J u) : V C l K R Po pc L ((.int x) :: st) S I J u := by
  intro p e s m args below meth c hI H ls locs hM hL hS h1 h2
  subst hp
  exact lv_istore hI.2.1 hI.2.2.1 hd hL hn (show _ = lC C L' by rw [← hl, lC_f1]; rfl) (fun ls hL => k p e s m args below meth c hI H ls locs hM hL hS h1 h2)
theorem v_astore_n {k4 : Fin 4} {i : Nat} {x : Nat} (hd : decode K.1 pc = .ok (.astore_n k4, 1)) (hi : (k4 : Nat) = i) (hn : i < K.2.2.2.2.1) (hl : s1 L i (.ref x) = L') (hp : pc + 1 = pc') (k : V C l K R Po pc' L' st S I J u) : V C l K R Po pc L ((.ref x) :: st) S I J u := by
  intro p e s m args below meth c hI H ls locs hM hL hS h1 h2
  subst hp
  exact lv_astore_n hI.2.1 hI.2.2.1 hd hi hL hn (show _ = lC C L' by rw [← hl, lC_f1]; rfl) (fun ls hL => k p e s m args below meth c hI H ls locs hM hL hS h1 h2)
theorem v_astore {i : Nat} {x : Nat} (hd : decode K.1 pc = .ok (.astore i, 2)) (hn : i < K.2.2.2.2.1) (hl : s1 L i (.ref x) = L') (hp : pc + 2 = pc') (k : V C l K R Po pc' L' st S I J u) : V C l K R Po pc L ((.ref x) :: st) S I J u := by
  intro p e s m args below meth c hI H ls locs hM hL hS h1 h2
  subst hp
  exact lv_astore hI.2.1 hI.2.2.1 hd hL hn (show _ = lC C L' by rw [← hl, lC_f1]; rfl) (fun ls hL => k p e s m args below meth c hI H ls locs hM hL hS h1 h2)
theorem v_lstore_n {k4 : Fin 4} {i : Nat} {x : Int64} (hd : decode K.1 pc = .ok (.lstore_n k4, 1)) (hi : (k4 : Nat) = i) (hn : i + 1 < K.2.2.2.2.1) (hl : s2 L i (.long x) = L') (hp : pc + 1 = pc') (k : V C l K R Po pc' L' st S I J u) : V C l K R Po pc L ((.long x) :: st) S I J u := by
  intro p e s m args below meth c hI H ls locs hM hL hS h1 h2
  subst hp
  exact lv_lstore_n hI.2.1 hI.2.2.1 hd hi hL hn (show _ = lC C L' by rw [← hl, lC_f2]; rfl) (fun ls hL => k p e s m args below meth c hI H ls locs hM hL hS h1 h2)
theorem v_lstore {i : Nat} {x : Int64} (hd : decode K.1 pc = .ok (.lstore i, 2)) (hn : i + 1 < K.2.2.2.2.1) (hl : s2 L i (.long x) = L') (hp : pc + 2 = pc') (k : V C l K R Po pc' L' st S I J u) : V C l K R Po pc L ((.long x) :: st) S I J u := by
  intro p e s m args below meth c hI H ls locs hM hL hS h1 h2
  subst hp
  exact lv_lstore hI.2.1 hI.2.2.1 hd hL hn (show _ = lC C L' by rw [← hl, lC_f2]; rfl) (fun ls hL => k p e s m args below meth c hI H ls locs hM hL hS h1 h2)
theorem v_iinc {i n : Nat} {z : Int} {x v : Int32} (hd : decode K.1 pc = .ok (.iinc i z, 3)) (hk : L[n]? = some (i, .int x)) (hv : x + Int32.ofInt z = v) (hn : i < K.2.2.2.2.1) (hl : s1 L i (.int v) = L') (hp : pc + 3 = pc') (k : V C l K R Po pc' L' st S I J u) : V C l K R Po pc L st S I J u := by
  intro p e s m args below meth c hI H ls locs hM hL hS h1 h2
  subst hp
  exact lv_iinc hI.2.1 hI.2.2.1 hd hL (k := n) (by unfold lC; rw [List.getElem?_map, hk]; rfl) hv hn (show _ = lC C L' by rw [← hl, lC_f1]; rfl) (fun ls hL => k p e s m args below meth c hI H ls locs hM hL hS h1 h2)
theorem v_iadd {x y : Int32} (hd : decode K.1 pc = .ok (.iadd, 1))  (hp : pc + 1 = pc') (k : V C l K R Po pc' L (.int (x + y) :: st) S I J u) : V C l K R Po pc L (.int y :: .int x :: st) S I J u := by
  intro p e s m args below meth c hI H ls locs hM hL hS h1 h2
  subst hp
  exact lv_iadd hI.2.1 hI.2.2.1 hd (k p e s m args below meth c hI H ls locs hM hL hS h1 h2)
theorem v_isub {x y : Int32} (hd : decode K.1 pc = .ok (.isub, 1))  (hp : pc + 1 = pc') (k : V C l K R Po pc' L (.int (x - y) :: st) S I J u) : V C l K R Po pc L (.int y :: .int x :: st) S I J u := by
  intro p e s m args below meth c hI H ls locs hM hL hS h1 h2
  subst hp
  exact lv_isub hI.2.1 hI.2.2.1 hd (k p e s m args below meth c hI H ls locs hM hL hS h1 h2)
theorem v_imul {x y : Int32} (hd : decode K.1 pc = .ok (.imul, 1))  (hp : pc + 1 = pc') (k : V C l K R Po pc' L (.int (x * y) :: st) S I J u) : V C l K R Po pc L (.int y :: .int x :: st) S I J u := by
  intro p e s m args below meth c hI H ls locs hM hL hS h1 h2
  subst hp
  exact lv_imul hI.2.1 hI.2.2.1 hd (k p e s m args below meth c hI H ls locs hM hL hS h1 h2)
theorem v_iand {x y : Int32} (hd : decode K.1 pc = .ok (.iand, 1))  (hp : pc + 1 = pc') (k : V C l K R Po pc' L (.int (x &&& y) :: st) S I J u) : V C l K R Po pc L (.int y :: .int x :: st) S I J u := by
  intro p e s m args below meth c hI H ls locs hM hL hS h1 h2
  subst hp
  exact lv_iand hI.2.1 hI.2.2.1 hd (k p e s m args below meth c hI H ls locs hM hL hS h1 h2)
theorem v_ior {x y : Int32} (hd : decode K.1 pc = .ok (.ior, 1))  (hp : pc + 1 = pc') (k : V C l K R Po pc' L (.int (x ||| y) :: st) S I J u) : V C l K R Po pc L (.int y :: .int x :: st) S I J u := by
  intro p e s m args below meth c hI H ls locs hM hL hS h1 h2
  subst hp
  exact lv_ior hI.2.1 hI.2.2.1 hd (k p e s m args below meth c hI H ls locs hM hL hS h1 h2)
theorem v_land {x y : Int64} (hd : decode K.1 pc = .ok (.land, 1))  (hp : pc + 1 = pc') (k : V C l K R Po pc' L (.long (x &&& y) :: st) S I J u) : V C l K R Po pc L (.long y :: .long x :: st) S I J u := by
  intro p e s m args below meth c hI H ls locs hM hL hS h1 h2
  subst hp
  exact lv_land hI.2.1 hI.2.2.1 hd (k p e s m args below meth c hI H ls locs hM hL hS h1 h2)
theorem v_lor {x y : Int64} (hd : decode K.1 pc = .ok (.lor, 1))  (hp : pc + 1 = pc') (k : V C l K R Po pc' L (.long (x ||| y) :: st) S I J u) : V C l K R Po pc L (.long y :: .long x :: st) S I J u := by
  intro p e s m args below meth c hI H ls locs hM hL hS h1 h2
  subst hp
  exact lv_lor hI.2.1 hI.2.2.1 hd (k p e s m args below meth c hI H ls locs hM hL hS h1 h2)
theorem v_i2l {x : Int32} {v : Int64} (hd : decode K.1 pc = .ok (.i2l, 1)) (hv : x.toInt64 = v) (hp : pc + 1 = pc') (k : V C l K R Po pc' L (.long v :: st) S I J u) : V C l K R Po pc L (.int x :: st) S I J u := by
  intro p e s m args below meth c hI H ls locs hM hL hS h1 h2
  subst hp
  exact lv_i2l hI.2.1 hI.2.2.1 hd hv (k p e s m args below meth c hI H ls locs hM hL hS h1 h2)
theorem v_l2i {x : Int64} {v : Int32} (hd : decode K.1 pc = .ok (.l2i, 1)) (hv : x.toInt32 = v) (hp : pc + 1 = pc') (k : V C l K R Po pc' L (.int v :: st) S I J u) : V C l K R Po pc L (.long x :: st) S I J u := by
  intro p e s m args below meth c hI H ls locs hM hL hS h1 h2
  subst hp
  exact lv_l2i hI.2.1 hI.2.2.1 hd hv (k p e s m args below meth c hI H ls locs hM hL hS h1 h2)
theorem v_lushr {x v : Int64} {y : Int32} (hd : decode K.1 pc = .ok (.lushr, 1)) (hv : (x.toUInt64 >>> (y.toInt64.toUInt64 &&& Int64.toUInt64 63)).toInt64 = v) (hp : pc + 1 = pc') (k : V C l K R Po pc' L (.long v :: st) S I J u) : V C l K R Po pc L (.int y :: .long x :: st) S I J u := by
  intro p e s m args below meth c hI H ls locs hM hL hS h1 h2
  subst hp
  exact lv_lushr hI.2.1 hI.2.2.1 hd hv (k p e s m args below meth c hI H ls locs hM hL hS h1 h2)
theorem v_lshl {x v : Int64} {y : Int32} (hd : decode K.1 pc = .ok (.lshl, 1)) (hv : x <<< (y.toInt64 &&& 63) = v) (hp : pc + 1 = pc') (k : V C l K R Po pc' L (.long v :: st) S I J u) : V C l K R Po pc L (.int y :: .long x :: st) S I J u := by
  intro p e s m args below meth c hI H ls locs hM hL hS h1 h2
  subst hp
  exact lv_lshl hI.2.1 hI.2.2.1 hd hv (k p e s m args below meth c hI H ls locs hM hL hS h1 h2)
theorem v_lshr {x v : Int64} {y : Int32} (hd : decode K.1 pc = .ok (.lshr, 1)) (hv : x >>> (y.toInt64 &&& 63) = v) (hp : pc + 1 = pc') (k : V C l K R Po pc' L (.long v :: st) S I J u) : V C l K R Po pc L (.int y :: .long x :: st) S I J u := by
  intro p e s m args below meth c hI H ls locs hM hL hS h1 h2
  subst hp
  exact lv_lshr hI.2.1 hI.2.2.1 hd hv (k p e s m args below meth c hI H ls locs hM hL hS h1 h2)
theorem v_dup {va : Value} (hd : decode K.1 pc = .ok (.dup, 1)) (hva : va.category = 1) (hp : pc + 1 = pc') (k : V C l K R Po pc' L (va :: va :: st) S I J u) : V C l K R Po pc L (va :: st) S I J u := by
  intro p e s m args below meth c hI H ls locs hM hL hS h1 h2
  subst hp
  exact lv_dup hI.2.1 hI.2.2.1 hd ((cv_cat C va).trans hva) (k p e s m args below meth c hI H ls locs hM hL hS h1 h2)
theorem v_dup2 {va vb : Value} (hd : decode K.1 pc = .ok (.dup2, 1)) (hva : va.category = 1) (hvb : vb.category = 1) (hp : pc + 1 = pc') (k : V C l K R Po pc' L (va :: vb :: va :: vb :: st) S I J u) : V C l K R Po pc L (va :: vb :: st) S I J u := by
  intro p e s m args below meth c hI H ls locs hM hL hS h1 h2
  subst hp
  exact lv_dup2_11 hI.2.1 hI.2.2.1 hd ((cv_cat C va).trans hva) ((cv_cat C vb).trans hvb) (k p e s m args below meth c hI H ls locs hM hL hS h1 h2)
theorem v_pop {va : Value} (hd : decode K.1 pc = .ok (.pop, 1)) (hva : va.category = 1) (hp : pc + 1 = pc') (k : V C l K R Po pc' L st S I J u) : V C l K R Po pc L (va :: st) S I J u := by
  intro p e s m args below meth c hI H ls locs hM hL hS h1 h2
  subst hp
  exact lv_pop hI.2.1 hI.2.2.1 hd ((cv_cat C va).trans hva) (k p e s m args below meth c hI H ls locs hM hL hS h1 h2)
theorem v_if_eq {x : Int32} {off : Int} {tgt : Nat} (hd : decode K.1 pc = .ok (.ifCond .eq off, 3)) (ht : (pc : Int) + off = (tgt : Int)) (hp : pc + 3 = pc') (kt : x = 0 → V C l K R Po tgt L st S I J u) (kf : ¬ x = 0 → V C l K R Po pc' L st S I J u) : V C l K R Po pc L (.int x :: st) S I J u := by
  intro p e s m args below meth c hI H ls locs hM hL hS h1 h2
  subst hp
  exact lv_if_eq hI.2.1 hI.2.2.1 hd ht (fun q => kt q p e s m args below meth c hI H ls locs hM hL hS h1 h2) (fun q => kf q p e s m args below meth c hI H ls locs hM hL hS h1 h2)
theorem v_icmp_eq {x y : Int32} {off : Int} {tgt : Nat} (hd : decode K.1 pc = .ok (.if_icmp .eq off, 3)) (ht : (pc : Int) + off = (tgt : Int)) (hp : pc + 3 = pc') (kt : x = y → V C l K R Po tgt L st S I J u) (kf : ¬ x = y → V C l K R Po pc' L st S I J u) : V C l K R Po pc L (.int y :: .int x :: st) S I J u := by
  intro p e s m args below meth c hI H ls locs hM hL hS h1 h2
  subst hp
  exact lv_icmp_eq hI.2.1 hI.2.2.1 hd ht (fun q => kt q p e s m args below meth c hI H ls locs hM hL hS h1 h2) (fun q => kf q p e s m args below meth c hI H ls locs hM hL hS h1 h2)
theorem v_if_ne {x : Int32} {off : Int} {tgt : Nat} (hd : decode K.1 pc = .ok (.ifCond .ne off, 3)) (ht : (pc : Int) + off = (tgt : Int)) (hp : pc + 3 = pc') (kt : ¬ x = 0 → V C l K R Po tgt L st S I J u) (kf : x = 0 → V C l K R Po pc' L st S I J u) : V C l K R Po pc L (.int x :: st) S I J u := by
  intro p e s m args below meth c hI H ls locs hM hL hS h1 h2
  subst hp
  exact lv_if_ne hI.2.1 hI.2.2.1 hd ht (fun q => kt q p e s m args below meth c hI H ls locs hM hL hS h1 h2) (fun q => kf q p e s m args below meth c hI H ls locs hM hL hS h1 h2)
theorem v_icmp_ne {x y : Int32} {off : Int} {tgt : Nat} (hd : decode K.1 pc = .ok (.if_icmp .ne off, 3)) (ht : (pc : Int) + off = (tgt : Int)) (hp : pc + 3 = pc') (kt : ¬ x = y → V C l K R Po tgt L st S I J u) (kf : x = y → V C l K R Po pc' L st S I J u) : V C l K R Po pc L (.int y :: .int x :: st) S I J u := by
  intro p e s m args below meth c hI H ls locs hM hL hS h1 h2
  subst hp
  exact lv_icmp_ne hI.2.1 hI.2.2.1 hd ht (fun q => kt q p e s m args below meth c hI H ls locs hM hL hS h1 h2) (fun q => kf q p e s m args below meth c hI H ls locs hM hL hS h1 h2)
theorem v_if_lt {x : Int32} {off : Int} {tgt : Nat} (hd : decode K.1 pc = .ok (.ifCond .lt off, 3)) (ht : (pc : Int) + off = (tgt : Int)) (hp : pc + 3 = pc') (kt : x < 0 → V C l K R Po tgt L st S I J u) (kf : ¬ x < 0 → V C l K R Po pc' L st S I J u) : V C l K R Po pc L (.int x :: st) S I J u := by
  intro p e s m args below meth c hI H ls locs hM hL hS h1 h2
  subst hp
  exact lv_if_lt hI.2.1 hI.2.2.1 hd ht (fun q => kt q p e s m args below meth c hI H ls locs hM hL hS h1 h2) (fun q => kf q p e s m args below meth c hI H ls locs hM hL hS h1 h2)
theorem v_icmp_lt {x y : Int32} {off : Int} {tgt : Nat} (hd : decode K.1 pc = .ok (.if_icmp .lt off, 3)) (ht : (pc : Int) + off = (tgt : Int)) (hp : pc + 3 = pc') (kt : x < y → V C l K R Po tgt L st S I J u) (kf : ¬ x < y → V C l K R Po pc' L st S I J u) : V C l K R Po pc L (.int y :: .int x :: st) S I J u := by
  intro p e s m args below meth c hI H ls locs hM hL hS h1 h2
  subst hp
  exact lv_icmp_lt hI.2.1 hI.2.2.1 hd ht (fun q => kt q p e s m args below meth c hI H ls locs hM hL hS h1 h2) (fun q => kf q p e s m args below meth c hI H ls locs hM hL hS h1 h2)
theorem v_if_ge {x : Int32} {off : Int} {tgt : Nat} (hd : decode K.1 pc = .ok (.ifCond .ge off, 3)) (ht : (pc : Int) + off = (tgt : Int)) (hp : pc + 3 = pc') (kt : 0 ≤ x → V C l K R Po tgt L st S I J u) (kf : ¬ 0 ≤ x → V C l K R Po pc' L st S I J u) : V C l K R Po pc L (.int x :: st) S I J u := by
  intro p e s m args below meth c hI H ls locs hM hL hS h1 h2
  subst hp
  exact lv_if_ge hI.2.1 hI.2.2.1 hd ht (fun q => kt q p e s m args below meth c hI H ls locs hM hL hS h1 h2) (fun q => kf q p e s m args below meth c hI H ls locs hM hL hS h1 h2)
theorem v_icmp_ge {x y : Int32} {off : Int} {tgt : Nat} (hd : decode K.1 pc = .ok (.if_icmp .ge off, 3)) (ht : (pc : Int) + off = (tgt : Int)) (hp : pc + 3 = pc') (kt : y ≤ x → V C l K R Po tgt L st S I J u) (kf : ¬ y ≤ x → V C l K R Po pc' L st S I J u) : V C l K R Po pc L (.int y :: .int x :: st) S I J u := by
  intro p e s m args below meth c hI H ls locs hM hL hS h1 h2
  subst hp
  exact lv_icmp_ge hI.2.1 hI.2.2.1 hd ht (fun q => kt q p e s m args below meth c hI H ls locs hM hL hS h1 h2) (fun q => kf q p e s m args below meth c hI H ls locs hM hL hS h1 h2)
theorem v_if_gt {x : Int32} {off : Int} {tgt : Nat} (hd : decode K.1 pc = .ok (.ifCond .gt off, 3)) (ht : (pc : Int) + off = (tgt : Int)) (hp : pc + 3 = pc') (kt : 0 < x → V C l K R Po tgt L st S I J u) (kf : ¬ 0 < x → V C l K R Po pc' L st S I J u) : V C l K R Po pc L (.int x :: st) S I J u := by
  intro p e s m args below meth c hI H ls locs hM hL hS h1 h2
  subst hp
  exact lv_if_gt hI.2.1 hI.2.2.1 hd ht (fun q => kt q p e s m args below meth c hI H ls locs hM hL hS h1 h2) (fun q => kf q p e s m args below meth c hI H ls locs hM hL hS h1 h2)
theorem v_icmp_gt {x y : Int32} {off : Int} {tgt : Nat} (hd : decode K.1 pc = .ok (.if_icmp .gt off, 3)) (ht : (pc : Int) + off = (tgt : Int)) (hp : pc + 3 = pc') (kt : y < x → V C l K R Po tgt L st S I J u) (kf : ¬ y < x → V C l K R Po pc' L st S I J u) : V C l K R Po pc L (.int y :: .int x :: st) S I J u := by
  intro p e s m args below meth c hI H ls locs hM hL hS h1 h2
  subst hp
  exact lv_icmp_gt hI.2.1 hI.2.2.1 hd ht (fun q => kt q p e s m args below meth c hI H ls locs hM hL hS h1 h2) (fun q => kf q p e s m args below meth c hI H ls locs hM hL hS h1 h2)
theorem v_if_le {x : Int32} {off : Int} {tgt : Nat} (hd : decode K.1 pc = .ok (.ifCond .le off, 3)) (ht : (pc : Int) + off = (tgt : Int)) (hp : pc + 3 = pc') (kt : x ≤ 0 → V C l K R Po tgt L st S I J u) (kf : ¬ x ≤ 0 → V C l K R Po pc' L st S I J u) : V C l K R Po pc L (.int x :: st) S I J u := by
  intro p e s m args below meth c hI H ls locs hM hL hS h1 h2
  subst hp
  exact lv_if_le hI.2.1 hI.2.2.1 hd ht (fun q => kt q p e s m args below meth c hI H ls locs hM hL hS h1 h2) (fun q => kf q p e s m args below meth c hI H ls locs hM hL hS h1 h2)
theorem v_icmp_le {x y : Int32} {off : Int} {tgt : Nat} (hd : decode K.1 pc = .ok (.if_icmp .le off, 3)) (ht : (pc : Int) + off = (tgt : Int)) (hp : pc + 3 = pc') (kt : x ≤ y → V C l K R Po tgt L st S I J u) (kf : ¬ x ≤ y → V C l K R Po pc' L st S I J u) : V C l K R Po pc L (.int y :: .int x :: st) S I J u := by
  intro p e s m args below meth c hI H ls locs hM hL hS h1 h2
  subst hp
  exact lv_icmp_le hI.2.1 hI.2.2.1 hd ht (fun q => kt q p e s m args below meth c hI H ls locs hM hL hS h1 h2) (fun q => kf q p e s m args below meth c hI H ls locs hM hL hS h1 h2)
theorem v_goto {off : Int} {tgt : Nat} (hd : decode K.1 pc = .ok (.goto off, 3)) (ht : (pc : Int) + off = (tgt : Int)) (k : V C l K R Po tgt L st S I J u) : V C l K R Po pc L st S I J u := by
  intro p e s m args below meth c hI H ls locs hM hL hS h1 h2
  exact lv_goto hI.2.1 hI.2.2.1 hd ht (k p e s m args below meth c hI H ls locs hM hL hS h1 h2)
end Rows
end
section
/-! ===== ROWS OF THE MEMORY: fields and arrays ===== -/
def isO (S : ShT) (a ci : Nat) : Prop := a < S.1 ∧ (S.2.1 a).1 = ci
def isA (S : ShT) (a t n : Nat) : Prop := a < S.1 ∧ S.2.1 a = (t, n)
def FL (own : String) (idx ci k : Nat) : Prop := k < kF ci ∧ ci < 12 ∧ (kT ci k).1 = kN ci ∧ Wd (.fieldLink own idx (kN ci) (kT ci k).2.1 (kT ci k).2.2.1)
def u2 {α : Type} (f : Nat → Nat → α) (a k : Nat) (x : α) : Nat → Nat → α := fun b j => if b = a ∧ j = k then x else f b j
theorem u2_o {α : Type} {f : Nat → Nat → α} {a k : Nat} {x : α} {b : Nat} (h : b ≠ a) : u2 f a k x b = f b := by
  funext j
  simp [u2, h]
theorem u2_s {α : Type} {f : Nat → Nat → α} {a k : Nat} {x : α} : u2 f a k x a k = x := by simp [u2]
theorem u2_n {α : Type} {f : Nat → Nat → α} {a k : Nat} {x : α} {b j : Nat} (h : b ≠ a ∨ j ≠ k) : u2 f a k x b j = f b j := by
  unfold u2
  rw [if_neg (fun q => h.elim (fun g => g q.1) (fun g => g q.2))]
theorem ulay_good (C : String) (T : u_T) (k : Nat) : goodWord (u_lay C T k) = true := by
  unfold u_lay
  split <;> rfl
theorem cel_o {C : CT} {S : ShT} {I : DI} {J : DJ} {k ci : Nat} (h : (S.2.1 k).1 = ci) (hc : ci < 12) : cel C S I J k = .inr (ci, fL C S I J k ci) := by
  unfold cel
  rw [h, if_pos (by omega)]
theorem cel_a {C : CT} {S : ShT} {I : DI} {J : DJ} {k t n : Nat} (h : S.2.1 k = (t, n)) (hc : 32 ≤ t) : cel C S I J k = .inl (cA C t, fA C S I J k t n) := by
  unfold cel
  rw [h, if_neg (by omega)]
theorem cel_eq {C : CT} {S S' : ShT} {I I' : DI} {J J' : DJ} {k : Nat} (h1 : S'.2.1 k = S.2.1 k) (h2 : S'.2.2 k = S.2.2 k) (h3 : I' k = I k) (h4 : J' k = J k) : cel C S' I' J' k = cel C S I J k := by
  unfold cel fL fV fA
  rw [h1, h2, h3, h4]
theorem MR.one {C : CT} {S : ShT} {I : DI} {J : DJ} {H : Heap} (h : MR C S I J H) {a : Nat} (ha : a < S.1) {e : va_E} (he : cel C S I J a = e) : va_P (cD C) vwCl [(c0 C + a, e)] H := by
  intro k q hk
  cases k with
  | zero =>
    cases hk
    rw [← he]
    exact h.2 a ha
  | succ k => cases hk
/-- one cell changes -/
theorem MR.set {C : CT} {S S' : ShT} {I I' : DI} {J J' : DJ} {H H' : Heap} (h : MR C S I J H) {a : Nat} (hz : H'.size = H.size) (ho : ∀ q, q ≠ c0 C + a → H'[q]? = H[q]?) (hn : va_at (cD C) vwCl (c0 C + a, cel C S' I' J' a) H') (hs : S'.1 = S.1) (hk : ∀ k, k < S.1 → k ≠ a → cel C S' I' J' k = cel C S I J k) : MR C S' I' J' H' := by
  refine ⟨by rw [hz, h.1, hs], fun k hkn => ?_⟩
  rw [hs] at hkn
  by_cases e : k = a
  · subst e
    exact hn
  · rw [hk k hkn e]
    exact (h.2 k hkn).kept (ho _ (by show c0 C + k ≠ c0 C + a; omega))
theorem fL_get {C : CT} {S : ShT} {I : DI} {J : DJ} {a ci k : Nat} (hk : k < kF ci) : (fL C S I J a ci)[k]? = some (fV C S I J a k (kY ci k)) := by
  unfold fL
  rw [List.getElem?_map, List.getElem?_range hk]
  rfl
theorem fL_V {C : CT} {S : ShT} {I : DI} {J : DJ} {a ci k : Nat} (hk : k < kF ci) : vp_V (fL C S I J a ci) k = fV C S I J a k (kY ci k) := by
  unfold vp_V
  rw [List.getD_eq_getElem?_getD, fL_get hk]
  rfl
theorem GG.K {C : CT} {l : Launch} {U : State} (h : GG C U) (hC : OKC C l) : va_K (cD C) vwCl [] U := va_K.moved h.1.alike hC.2.2.1
theorem GG.arr {C : CT} {l : Launch} {U : State} (h : GG C U) (hC : OKC C l) {t : Nat} (ht : 32 ≤ t) : ArrOfT U (cA C t) (tgT t) ∧ va_RA U (cA C t) (tgT t) := ⟨arrOfT_moved h.1.alike (hC.2.2.2.1 t ht).1, (hC.2.2.2.1 t ht).2.moved h.1.alike⟩
theorem GG.lays {C : CT} {l : Launch} {U : State} (h : GG C U) (hC : OKC C l) (ci : Nat) (a : Array Value) : ∀ w ∈ u_ws (kN ci) (kT ci) (kF ci), w.before a U = true := by
  intro w hw
  have hg : goodWord w = true := by
    obtain ⟨k, -, rfl⟩ := List.mem_map.mp hw
    exact ulay_good _ _ _
  exact Wd.at ⟨ly_all ci w hw, hg⟩ hC h.1 a
section Put
variable {p : Program} {l : Launch} {e : Env} {R : Room} {s : State} {m : MethodId} {args : Array Value} {below : List Frame} {meth : Method} {c : Code} {H : Heap} {locs : List Loc} {cells slots : Nat} {Q : State → Prop} {D : va_G} {cl : List vw_C} {tys : List (ClassId × FieldType)} {a pc : Nat} {ls : Array Slot} {rest : List Value} {cc : ByteArray}
/-- putfield, with what stays -/
theorem put0 (hexec : p.tables.exec = Jvm.exec) (hb : c.code = cc) {own : String} {ci k index : Nat} (hts : ∀ w ∈ u_ws (kN ci) (kT ci) (kF ci), w.before args s = true) (hown : s.vm.findClass own = some m.cls) (hK : va_K D vwCl tys s) {fs : List Value} (hP : va_at D vwCl (a, .inr (ci, fs)) H) (hc : ci < 12) (hk : k < kF ci) (hself : (kT ci k).1 = kN ci)
    (hlink : (Cond.fieldLink own index (kN ci) (kT ci k).2.1 (kT ci k).2.2.1).before args s = true) (hfin : (kT ci k).2.2.2 = false ∨ ((kT ci k).2.2.2 = true ∧ meth.name = "<init>" ∧ kN ci = own)) {v : Value} (hn : narrow (kY ci k) v = v) (hfit : fits (kY ci k) v = true) (hl : k < fs.length)
    (hdg : decode cc pc = .ok (.putfield index, 3)) (kk : ∀ (H1 : Heap) (i : Nat), va_at D vwCl (a, .inr (ci, fs.set k v)) H1 → H1.size = H.size → (∀ q, q ≠ a → H1[q]? = H[q]?) → W p l e R s m args below meth c H1 (locs ++ [⟨a, i⟩]) cells slots Q (F0 m (pc + 3) ls rest)) : W p l e R s m args below meth c H locs cells slots Q (F0 m pc ls (v :: .ref a :: rest)) := by
  have hvw := vw_at hc
  have hap := va_apart (own := own) hts (fun w h => h) (kY ci) (ky_all ci) (kn_all ci) hK hvw
  obtain ⟨r, h1, cell, q1, q2, q3, q4⟩ := hP
  have hr : r = (kN ci, kT ci, kF ci) := Option.some.inj (h1.symm.trans hvw)
  subst hr
  obtain ⟨hS, hfc, kC, hkC, hkind⟩ := hK.1 ci _ hvw
  obtain ⟨cf, kf, fi, f, hi, hsl⟩ := hS k hk
  have hlay := hts _ (u_in_lay (C := kN ci) (T := kT ci) hk)
  have hst := (u_facts hfc hkC (u_lays hts (fun w h => h) hk) hi).1
  have hi2 : s.fieldFound? (kN ci) (kT ci k).2.1 (kT ci k).2.2.1 = some (cf, kf, fi, f) := by rw [← hself]; exact hi
  have end9 : ∀ H' : Heap, H'[a]? = some (cell.setSlot f.slot v) → va_at D vwCl (a, .inr (ci, fs.set k v)) H' := by
    intro H' e1
    rw [hsl] at e1
    exact ⟨_, hvw, t_OB.to (V := updV (vp_V fs) k v) ⟨_, e1, q2, q3, t_set q4 hap hk v⟩ (fun j _ => vp_updV_set hl v j)⟩
  rcases hfin with hf | ⟨hf, hin2, hdecl⟩
  · unfold u_lay at hlay
    rw [if_neg (by rw [hf]; decide)] at hlay
    have h6 := u_store hfc hkC hkind hlay hi (ky_all ci k hk) hn hfit
    exact W.putK hexec hb (f := f) ⟨hown, hlink, ⟨_, _, _, hi2⟩, hst⟩ (by rw [q2]; exact h6) q1 q3 (by rw [hsl]; exact k2_hasslot (q4 k hk)) rfl rfl hdg fun H' e1 e2 e3 => kk H' _ (end9 H' e1) e2 e3
  · unfold u_lay at hlay
    rw [if_pos hf] at hlay
    have hcf : m.cls = cf := by
      obtain ⟨_, _, c', _, _, _, -, -, hf', -, -, -, hown2, -⟩ := Cond.laysFinal_spec hlay
      have e1 : c' = cf := by have := hi.symm.trans hf'; simp at this; exact this.1.symm
      rw [hself, hdecl] at hown2
      rw [← e1]; exact Option.some.inj (hown.symm.trans hown2)
    have h6 := u_fits hfc hkC hkind (Or.inr hlay) hi (ky_all ci k hk) hn hfit
    exact W.putFinK hexec hb hown hlink hi2 hst hcf hin2 (by rw [q2]; exact h6) q1 q3 (by rw [hsl]; exact k2_hasslot (q4 k hk)) rfl rfl hdg fun H' e1 e2 e3 => kk H' _ (end9 H' e1) e2 e3
end Put
section Rows
variable {C : CT} {l : Launch} {K : KT} {R : RT} {Po : PoT} {pc pc' : Nat} {L L' : LT} {st : List Value} {S S' : ShT} {I I' : DI} {J J' : DJ} {u : Nat × Nat}
theorem v_get {a ci k idx : Nat} (av : Value) (hd : decode K.1 pc = .ok (.getfield idx, 3)) (hf : FL K.2.1 idx ci k) (ho : isO S a ci) (hv : cv C av = fV C S I J a k (kY ci k)) (hp : pc + 3 = pc') (kk : V C l K R Po pc' L (av :: st) S I J u) : V C l K R Po pc L (.ref a :: st) S I J u := by
  intro p e s m args below meth c hI H ls locs hM hL hS h1 h2
  subst hp
  obtain ⟨hC, hx, hb, hr, hml, hown, hlk, hh, hG, hM0, hnm⟩ := id hI
  obtain ⟨f1, f2, f3, f4⟩ := hf
  have hP := hM.one ho.1 (cel_o ho.2 f2)
  refine va_get (D := cD C) (cl := vwCl) (tys := []) (ci := ci) (C := kN ci) (T := kT ci) (N := kF ci) (Ts := u_ws (kN ci) (kT ci) (kF ci)) (ref := kN ci) hx hb (hG.lays hC ci args) (fun w h => h) hown (hG.K hC) hP 0 rfl (vw_at f2) k f1 (f4.at hC hG.1 args) (fun x h => by rw [← f3]; exact h) (fL_get f1) hd ?_
  rw [← hv]
  exact kk p e s m args below meth c hI H ls locs hM hL hS h1 h2
def isI (t : FieldType) : Bool := match t with
  | .int => true
  | .boolean => true
  | _ => false
def isR (t : FieldType) : Bool := match t with
  | .object _ => true
  | .array _ => true
  | _ => false
theorem fV_i {C : CT} {S : ShT} {I : DI} {J : DJ} {a k : Nat} {t : FieldType} (h : isI t = true) : fV C S I J a k t = .int (I a k) := by
  cases t <;> first | rfl | cases h
theorem fV_r {C : CT} {S : ShT} {I : DI} {J : DJ} {a k r : Nat} {t : FieldType} (h : isR t = true) (hr : S.2.2 a k = some r) : fV C S I J a k t = .ref (c0 C + r) := by
  cases t <;> first | (cases h; done) | (simp [fV, fR, hr])
theorem v_geti {a ci k idx : Nat} (hd : decode K.1 pc = .ok (.getfield idx, 3)) (hf : FL K.2.1 idx ci k) (ho : isO S a ci) (hy : isI (kY ci k) = true) (hp : pc + 3 = pc') (kk : V C l K R Po pc' L (.int (I a k) :: st) S I J u) : V C l K R Po pc L (.ref a :: st) S I J u := v_get (.int (I a k)) hd hf ho (fV_i hy).symm hp kk
theorem v_getl {a ci k idx : Nat} (hd : decode K.1 pc = .ok (.getfield idx, 3)) (hf : FL K.2.1 idx ci k) (ho : isO S a ci) (hy : kY ci k = .long) (hp : pc + 3 = pc') (kk : V C l K R Po pc' L (.long (J a k) :: st) S I J u) : V C l K R Po pc L (.ref a :: st) S I J u := v_get (.long (J a k)) hd hf ho (by rw [hy]; rfl) hp kk
theorem v_getr {a ci k idx r : Nat} (hd : decode K.1 pc = .ok (.getfield idx, 3)) (hf : FL K.2.1 idx ci k) (ho : isO S a ci) (hy : isR (kY ci k) = true) (hr : S.2.2 a k = some r) (hp : pc + 3 = pc') (kk : V C l K R Po pc' L (.ref r :: st) S I J u) : V C l K R Po pc L (.ref a :: st) S I J u := v_get (.ref r) hd hf ho (fV_r hy hr).symm hp kk
theorem va_S.put1 {A : Nat → Prop} {H0 H H1 : Heap} {locs : List Loc} {a i : Nat} (h : va_S A H0 H locs) (z : H1.size = H.size) (oq : ∀ q : Nat, q ≠ a → H1[q]? = H[q]?) (ha : A a) : va_S A H0 H1 (locs ++ [⟨a, i⟩]) := h.put z oq ha
theorem v_put {a ci k idx : Nat} {av : Value} (hd : decode K.1 pc = .ok (.putfield idx, 3)) (hf : FL K.2.1 idx ci k) (ho : isO S a ci) (hfin : (kT ci k).2.2.2 = false ∨ ((kT ci k).2.2.2 = true ∧ K.2.2.1 = "<init>" ∧ kN ci = K.2.1)) (hn : narrow (kY ci k) (cv C av) = cv C av) (hfit : fits (kY ci k) (cv C av) = true)
    (hs : S'.1 = S.1) (hk : S'.2.1 = S.2.1) (hc : ∀ b, b ≠ a → S'.2.2 b = S.2.2 b ∧ I' b = I b ∧ J' b = J b) (hv : ∀ j, j < kF ci → fV C S' I' J' a j (kY ci j) = if j = k then cv C av else fV C S I J a j (kY ci j))
    (hp : pc + 3 = pc') (kk : V C l K R Po pc' L st S' I' J' u) : V C l K R Po pc L (av :: .ref a :: st) S I J u := by
  intro p e s m args below meth c hI H ls locs hM hL hS h1 h2
  subst hp
  obtain ⟨hC, hx, hb, hr, hml, hown, hlk, hh, hG, hM0, hnm⟩ := id hI
  obtain ⟨f1, f2, f3, f4⟩ := hf
  have hP := hM.2 a ho.1
  rw [cel_o ho.2 f2] at hP
  have hlen : (fL C S I J a ci).length = kF ci := by simp [fL]
  refine put0 (D := cD C) (tys := []) hx hb (hG.lays hC ci args) hown (hG.K hC) hP f2 f1 f3 (f4.at hC hG.1 args) (by rw [hnm]; exact hfin) hn hfit (by rw [hlen]; exact f1) hd fun H1 i e1 e2 e3 => ?_
  have hS1 := hS.put1 (i := i) e2 e3 (Nat.le_add_right _ _)
  refine kk p e s m args below meth c hI H1 ls _ (hM.set e2 e3 ?_ hs (fun b _ hba => cel_eq (by rw [hk]) (hc b hba).1 (hc b hba).2.1 (hc b hba).2.2)) hL hS1 h1 h2
  rw [cel_o (by rw [hk]; exact ho.2) f2]
  have : (fL C S I J a ci).set k (cv C av) = fL C S' I' J' a ci := by
    apply List.ext_getElem?
    intro j
    by_cases hj : j < kF ci
    · rw [fL_get hj, hv j hj, List.getElem?_set]
      by_cases hjk : j = k
      · subst hjk
        simp [hlen, hj]
      · simp [hjk, Ne.symm hjk, fL_get hj]
    · rw [List.getElem?_eq_none (by rw [List.length_set, hlen]; omega), List.getElem?_eq_none (by simp [fL]; omega)]
  rw [← this]
  exact e1
theorem v_puti {a ci k idx : Nat} {x : Int32} (hd : decode K.1 pc = .ok (.putfield idx, 3)) (hf : FL K.2.1 idx ci k) (ho : isO S a ci) (hfin : (kT ci k).2.2.2 = false) (hy : kY ci k = .int) (hp : pc + 3 = pc') (kk : V C l K R Po pc' L st S (u2 I a k x) J u) : V C l K R Po pc L (.int x :: .ref a :: st) S I J u := by
  refine v_put (av := .int x) hd hf ho (Or.inl hfin) (by rw [hy]; rfl) (by rw [hy]; rfl) rfl rfl (fun b hb => ⟨rfl, u2_o hb, rfl⟩) (fun j hj => ?_) hp kk
  by_cases hjk : j = k
  · subst hjk
    rw [hy, if_pos rfl]
    show Value.int (u2 I a j x a j) = _
    rw [u2_s]
    rfl
  · rw [if_neg hjk]
    unfold fV
    simp only [u2_n (Or.inr hjk)]
theorem v_putz {a ci k idx : Nat} {x : Int32} (hd : decode K.1 pc = .ok (.putfield idx, 3)) (hf : FL K.2.1 idx ci k) (ho : isO S a ci) (hfin : (kT ci k).2.2.2 = false) (hy : kY ci k = .boolean) (hx : x = 0 ∨ x = 1) (hp : pc + 3 = pc') (kk : V C l K R Po pc' L st S (u2 I a k x) J u) : V C l K R Po pc L (.int x :: .ref a :: st) S I J u := by
  refine v_put (av := .int x) hd hf ho (Or.inl hfin) (by rw [hy]; rcases hx with rfl | rfl <;> rfl) (by rw [hy]; rcases hx with rfl | rfl <;> rfl) rfl rfl (fun b hb => ⟨rfl, u2_o hb, rfl⟩) (fun j hj => ?_) hp kk
  by_cases hjk : j = k
  · subst hjk
    rw [hy, if_pos rfl]
    show Value.int (u2 I a j x a j) = _
    rw [u2_s]
    rfl
  · rw [if_neg hjk]
    unfold fV
    simp only [u2_n (Or.inr hjk)]
theorem v_putl {a ci k idx : Nat} {x : Int64} (hd : decode K.1 pc = .ok (.putfield idx, 3)) (hf : FL K.2.1 idx ci k) (ho : isO S a ci) (hfin : (kT ci k).2.2.2 = false) (hy : kY ci k = .long) (hp : pc + 3 = pc') (kk : V C l K R Po pc' L st S I (u2 J a k x) u) : V C l K R Po pc L (.long x :: .ref a :: st) S I J u := by
  refine v_put (av := .long x) hd hf ho (Or.inl hfin) (by rw [hy]; rfl) (by rw [hy]; rfl) rfl rfl (fun b hb => ⟨rfl, rfl, u2_o hb⟩) (fun j hj => ?_) hp kk
  by_cases hjk : j = k
  · subst hjk
    rw [hy, if_pos rfl]
    show Value.long (u2 J a j x a j) = _
    rw [u2_s]
    rfl
  · rw [if_neg hjk]
    unfold fV
    simp only [u2_n (Or.inr hjk)]
/-- a final reference field, in its constructor -/
theorem v_putF {a ci k idx r : Nat} (hd : decode K.1 pc = .ok (.putfield idx, 3)) (hf : FL K.2.1 idx ci k) (ho : isO S a ci) (hfin : (kT ci k).2.2.2 = true) (hin : K.2.2.1 = "<init>") (hown : kN ci = K.2.1) (hy : isR (kY ci k) = true) (hp : pc + 3 = pc') (kk : V C l K R Po pc' L st (S.1, S.2.1, u2 S.2.2 a k (some r)) I J u) : V C l K R Po pc L (.ref r :: .ref a :: st) S I J u := by
  refine v_put (S' := (S.1, S.2.1, u2 S.2.2 a k (some r))) (av := .ref r) hd hf ho (Or.inr ⟨hfin, hin, hown⟩) ?_ ?_ rfl rfl (fun b hb => ⟨u2_o hb, rfl, rfl⟩) (fun j hj => ?_) hp kk
  · generalize kY ci k = t at hy
    cases t <;> first | rfl | cases hy
  · generalize kY ci k = t at hy
    cases t <;> first | rfl | cases hy
  · by_cases hjk : j = k
    · subst hjk
      rw [if_pos rfl, fV_r hy (show (u2 S.2.2 a j (some r)) a j = some r from u2_s)]
      rfl
    · rw [if_neg hjk]
      unfold fV
      simp only [u2_n (Or.inr hjk)]
end Rows
end
section
/-! ===== ROWS OF THE MEMORY: arrays; the script; long compares; switches ===== -/
theorem vp_in_j {i : Int32} {j n : Nat} (hi : i = nI j) (hj : j < n) (hn : n ≤ 1000) : vp_in i n := by
  rw [hi]
  exact vp_in_nI hj (by omega)
theorem cl_j {i : Int32} {j n : Nat} (hi : i = nI j) (hj : j < n) (hn : n ≤ 1000) : i.toNatClampNeg = j := by
  rw [hi]
  exact nI_clamp (by omega)
theorem MR.arr {C : CT} {S : ShT} {I : DI} {J : DJ} {H : Heap} (h : MR C S I J H) {a t n : Nat} (ha : isA S a t n) (ht : 32 ≤ t) : H[c0 C + a]? = some (vp_cell (cA C t) (fA C S I J a t n)) := by
  have hP := h.2 a ha.1
  rw [cel_a ha.2 ht] at hP
  exact hP
theorem MR.arrSet {C : CT} {S S' : ShT} {I I' : DI} {J J' : DJ} {H H' : Heap} (h : MR C S I J H) {a t n : Nat} (ha : isA S a t n) (ht : 32 ≤ t) (hz : H'.size = H.size) (ho : ∀ q, q ≠ c0 C + a → H'[q]? = H[q]?) (hs : S'.1 = S.1) (hk : S'.2.1 = S.2.1) (hc : ∀ b, b ≠ a → S'.2.2 b = S.2.2 b ∧ I' b = I b ∧ J' b = J b) (hn : H'[c0 C + a]? = some (vp_cell (cA C t) (fA C S' I' J' a t n))) : MR C S' I' J' H' := by
  refine h.set hz ho ?_ hs (fun b _ hba => cel_eq (by rw [hk]) (hc b hba).1 (hc b hba).2.1 (hc b hba).2.2)
  rw [cel_a (by rw [hk]; exact ha.2) ht]
  exact hn
theorem vc32 {C : CT} {S : ShT} {I : DI} {J : DJ} {a n : Nat} : vp_cell (cA C 32) (fA C S I J a 32 n) = arrV (cA C 32) n (fun j => .int (I a j)) := rfl
theorem vc33 {C : CT} {S : ShT} {I : DI} {J : DJ} {a n : Nat} : vp_cell (cA C 33) (fA C S I J a 33 n) = arrV (cA C 33) n (fun j => .int (I a j)) := rfl
theorem vc34 {C : CT} {S : ShT} {I : DI} {J : DJ} {a n : Nat} : vp_cell (cA C 34) (fA C S I J a 34 n) = arrV (cA C 34) n (fun j => .long (J a j)) := rfl
theorem fA_q {C : CT} {S : ShT} {I : DI} {J : DJ} {a t n : Nat} (ht : 35 ≤ t) : fA C S I J a t n = (n, .inr (.inr (.inr (.inr (fun j => (S.2.2 a j).map (fun r => c0 C + r)))))) := by
  unfold fA
  rw [if_neg (by omega), if_neg (by omega)]
theorem vcq {C : CT} {S : ShT} {I : DI} {J : DJ} {a t n : Nat} (ht : 35 ≤ t) : vp_cell (cA C t) (fA C S I J a t n) = arrV (cA C t) n (fun j => va_rf ((S.2.2 a j).map (fun r => c0 C + r))) := by
  rw [fA_q ht]
  rfl
section Rows
variable {C : CT} {l : Launch} {K : KT} {R : RT} {Po : PoT} {pc pc' : Nat} {L L' : LT} {st : List Value} {S S' : ShT} {I I' : DI} {J J' : DJ} {u : Nat × Nat}
theorem v_iald {a n j : Nat} {i : Int32} (hd : decode K.1 pc = .ok (.iaload, 1)) (ha : isA S a 32 n) (hi : i = nI j) (hj : j < n) (hn : n ≤ 1000) (hp : pc + 1 = pc') (kk : V C l K R Po pc' L (.int (I a j) :: st) S I J u) : V C l K R Po pc L (.int i :: .ref a :: st) S I J u := by
  intro p e s m args below meth c hI H ls locs hM hL hS h1 h2
  subst hp
  obtain ⟨hC, hx, hb, hr, hml, hown, hlk, hh, hG, hM0, hnm⟩ := id hI
  have hcell := hM.arr ha (by omega)
  rw [vc32] at hcell
  refine W.iald (v := .int (I a j)) hx hb hcell ((hG.arr hC (t := 32) (by omega)).1 n (fun j => .int (I a j))) (fun q => by cases q) (by show ¬ (i < 0 ∨ (arrV _ _ _).slots.size ≤ _); rw [arrV_size]; exact vp_in_j hi hj hn) (by show (arrV _ _ _).slots[_]? = _; rw [cl_j hi hj hn, arrV_read _ _ hj]) rfl rfl hd ?_
  exact kk p e s m args below meth c hI H ls locs hM hL hS h1 h2
theorem v_zald {a n j : Nat} {i : Int32} (hd : decode K.1 pc = .ok (.baload, 1)) (ha : isA S a 33 n) (hi : i = nI j) (hj : j < n) (hn : n ≤ 1000) (hp : pc + 1 = pc') (kk : V C l K R Po pc' L (.int (I a j) :: st) S I J u) : V C l K R Po pc L (.int i :: .ref a :: st) S I J u := by
  intro p e s m args below meth c hI H ls locs hM hL hS h1 h2
  subst hp
  obtain ⟨hC, hx, hb, hr, hml, hown, hlk, hh, hG, hM0, hnm⟩ := id hI
  have hK : va_K (cD C) vwCl [(cA C 33, .boolean)] s := ⟨(hG.K hC).1, fun k q hk => by
    cases k with
    | zero => cases hk; exact hG.arr hC (t := 33) (by omega)
    | succ k => cases hk⟩
  have hP := hM.one ha.1 (cel_a ha.2 (by omega))
  refine va_zald (D := cD C) (cl := vwCl) (tys := [(cA C 33, .boolean)]) (n := n) (f := I a) hx hb hK hP 0 0 rfl rfl (vp_in_j hi hj hn) hd ?_
  rw [cl_j hi hj hn]
  exact kk p e s m args below meth c hI H ls locs hM hL hS h1 h2
theorem v_lald {a n j : Nat} {i : Int32} (hd : decode K.1 pc = .ok (.laload, 1)) (ha : isA S a 34 n) (hi : i = nI j) (hj : j < n) (hn : n ≤ 1000) (hp : pc + 1 = pc') (kk : V C l K R Po pc' L (.long (J a j) :: st) S I J u) : V C l K R Po pc L (.int i :: .ref a :: st) S I J u := by
  intro p e s m args below meth c hI H ls locs hM hL hS h1 h2
  subst hp
  obtain ⟨hC, hx, hb, hr, hml, hown, hlk, hh, hG, hM0, hnm⟩ := id hI
  have hK : va_K (cD C) vwCl [(cA C 34, .long)] s := ⟨(hG.K hC).1, fun k q hk => by
    cases k with
    | zero => cases hk; exact hG.arr hC (t := 34) (by omega)
    | succ k => cases hk⟩
  have hP := hM.one ha.1 (cel_a ha.2 (by omega))
  refine va_lald (D := cD C) (cl := vwCl) (tys := [(cA C 34, .long)]) (n := n) (f := J a) hx hb hK hP 0 0 rfl rfl (vp_in_j hi hj hn) hd ?_
  rw [cl_j hi hj hn]
  exact kk p e s m args below meth c hI H ls locs hM hL hS h1 h2
theorem tg_ref {t : Nat} (ht : 35 ≤ t) : (tgT t).isReference = true := by
  unfold tgT
  split <;> first | omega | rfl
theorem v_aald {a t n j r : Nat} {i : Int32} (hd : decode K.1 pc = .ok (.aaload, 1)) (ha : isA S a t n) (ht : 35 ≤ t) (hi : i = nI j) (hj : j < n) (hn : n ≤ 1000) (hr : S.2.2 a j = some r) (hp : pc + 1 = pc') (kk : V C l K R Po pc' L (.ref r :: st) S I J u) : V C l K R Po pc L (.int i :: .ref a :: st) S I J u := by
  intro p e s m args below meth c hI H ls locs hM hL hS h1 h2
  subst hp
  obtain ⟨hC, hx, hb, hrt, hml, hown, hlk, hh, hG, hM0, hnm⟩ := id hI
  have hcell := hM.arr ha (by omega)
  rw [vcq ht] at hcell
  refine W.aald (v := .ref (c0 C + r)) (ty := tgT t) hx hb hcell ((hG.arr hC (t := t) (by omega)).1 n (fun j => va_rf ((S.2.2 a j).map (fun r => c0 C + r)))) (tg_ref ht) (fun q => by cases q) (by show ¬ (i < 0 ∨ (arrV _ _ _).slots.size ≤ _); rw [arrV_size]; exact vp_in_j hi hj hn) (by show (arrV _ _ _).slots[_]? = _; rw [cl_j hi hj hn, arrV_read _ _ hj]; simp only [hr]; rfl) rfl rfl hd ?_
  exact kk p e s m args below meth c hI H ls locs hM hL hS h1 h2
theorem v_iast {a n j : Nat} {i x : Int32} (hd : decode K.1 pc = .ok (.iastore, 1)) (ha : isA S a 32 n) (hi : i = nI j) (hj : j < n) (hn : n ≤ 1000) (hp : pc + 1 = pc') (kk : V C l K R Po pc' L st S (u2 I a j x) J u) : V C l K R Po pc L (.int x :: .int i :: .ref a :: st) S I J u := by
  intro p e s m args below meth c hI H ls locs hM hL hS h1 h2
  subst hp
  obtain ⟨hC, hx, hb, hr, hml, hown, hlk, hh, hG, hM0, hnm⟩ := id hI
  refine W.iast hx hb (hM.arr ha (by omega)) ((hG.arr hC (t := 32) (by omega)).1 n (fun j => .int (I a j))) (fun q => by cases q) (by show ¬ (i < 0 ∨ (arrV _ _ _).slots.size ≤ _); rw [arrV_size]; exact vp_in_j hi hj hn) rfl rfl hd fun H1 e1 e2 e3 => ?_
  refine kk p e s m args below meth c hI H1 ls _ (hM.arrSet ha (by omega) e2 e3 rfl rfl (fun b hb => ⟨rfl, u2_o hb, rfl⟩) ?_) hL (hS.put e2 e3 (Nat.le_add_right _ _)) h1 h2
  rw [e1, cl_j hi hj hn]
  rw [vc32, vc32, arrV_store]
  congr 2
  funext q
  by_cases hq : q = j
  · subst hq
    simp [updV, u2_s]
  · simp [updV, hq, u2_n (Or.inr hq)]
theorem v_zast {a n j : Nat} {i x : Int32} (hd : decode K.1 pc = .ok (.bastore, 1)) (ha : isA S a 33 n) (hi : i = nI j) (hj : j < n) (hn : n ≤ 1000) (hx01 : x = 0 ∨ x = 1) (hp : pc + 1 = pc') (kk : V C l K R Po pc' L st S (u2 I a j x) J u) : V C l K R Po pc L (.int x :: .int i :: .ref a :: st) S I J u := by
  intro p e s m args below meth c hI H ls locs hM hL hS h1 h2
  subst hp
  obtain ⟨hC, hx, hb, hr, hml, hown, hlk, hh, hG, hM0, hnm⟩ := id hI
  refine W.zast hx hb (hM.arr ha (by omega)) ((hG.arr hC (t := 33) (by omega)).1 n (fun j => .int (I a j))) (fun q => by cases q) (by show ¬ (i < 0 ∨ (arrV _ _ _).slots.size ≤ _); rw [arrV_size]; exact vp_in_j hi hj hn) rfl rfl hd fun H1 e1 e2 e3 => ?_
  refine kk p e s m args below meth c hI H1 ls _ (hM.arrSet ha (by omega) e2 e3 rfl rfl (fun b hb => ⟨rfl, u2_o hb, rfl⟩) ?_) hL (hS.put e2 e3 (Nat.le_add_right _ _)) h1 h2
  have hnr : narrow .boolean (.int x) = .int x := by rcases hx01 with rfl | rfl <;> rfl
  rw [e1, cl_j hi hj hn, hnr]
  rw [vc33, vc33, arrV_store]
  congr 2
  funext q
  by_cases hq : q = j
  · subst hq
    simp [updV, u2_s]
  · simp [updV, hq, u2_n (Or.inr hq)]
theorem v_last {a n j : Nat} {i : Int32} {x : Int64} (hd : decode K.1 pc = .ok (.lastore, 1)) (ha : isA S a 34 n) (hi : i = nI j) (hj : j < n) (hn : n ≤ 1000) (hp : pc + 1 = pc') (kk : V C l K R Po pc' L st S I (u2 J a j x) u) : V C l K R Po pc L (.long x :: .int i :: .ref a :: st) S I J u := by
  intro p e s m args below meth c hI H ls locs hM hL hS h1 h2
  subst hp
  obtain ⟨hC, hx, hb, hr, hml, hown, hlk, hh, hG, hM0, hnm⟩ := id hI
  refine W.last hx hb (hM.arr ha (by omega)) ((hG.arr hC (t := 34) (by omega)).1 n (fun j => .long (J a j))) (fun q => by cases q) (by show ¬ (i < 0 ∨ (arrV _ _ _).slots.size ≤ _); rw [arrV_size]; exact vp_in_j hi hj hn) rfl rfl hd fun H1 e1 e2 e3 => ?_
  refine kk p e s m args below meth c hI H1 ls _ (hM.arrSet ha (by omega) e2 e3 rfl rfl (fun b hb => ⟨rfl, rfl, u2_o hb⟩) ?_) hL (hS.put e2 e3 (Nat.le_add_right _ _)) h1 h2
  rw [e1, cl_j hi hj hn]
  rw [vc34, vc34, arrV_store]
  congr 2
  funext q
  by_cases hq : q = j
  · subst hq
    simp [updV, u2_s]
  · simp [updV, hq, u2_n (Or.inr hq)]
theorem v_aast {a v t n j ci : Nat} {i : Int32} (hd : decode K.1 pc = .ok (.aastore, 1)) (ha : isA S a t n) (ht : 35 ≤ t) (hv : isO S v ci) (hc : ci < 12) (htc : tgT t = .object (kN ci)) (hi : i = nI j) (hj : j < n) (hn : n ≤ 1000) (hp : pc + 1 = pc') (kk : V C l K R Po pc' L st (S.1, S.2.1, u2 S.2.2 a j (some v)) I J u) : V C l K R Po pc L (.ref v :: .int i :: .ref a :: st) S I J u := by
  intro p e s m args below meth c hI H ls locs hM hL hS h1 h2
  subst hp
  obtain ⟨hC, hx, hb, hr, hml, hown, hlk, hh, hG, hM0, hnm⟩ := id hI
  have hcell := hM.arr ha (by omega)
  rw [vcq ht] at hcell
  have hPv := hM.2 v hv.1
  rw [cel_o hv.2 hc] at hPv
  obtain ⟨r', hr', cellV, g1, g2, g3, -⟩ := hPv
  have hcls := ((hG.K hC).1 ci _ (vw_at hc)).2
  have hRA := (hG.arr hC (t := t) (by omega)).2
  rw [htc] at hRA
  obtain ⟨kA, comp, k1, k2, k3, -⟩ := hRA
  have hcomp : comp = (cD C).1 ci := Option.some.inj (k3.symm.trans hcls.1)
  subst hcomp
  obtain ⟨kC, hkC, -⟩ := hcls.2
  have hin := vp_in_j hi hj hn
  refine W.aast hx hb hcell (fun q h => by cases h) (fun h => by cases h) k1 k2 rfl hkC ⟨fun q => hin (Or.inl q), by show _ < (arrV _ _ _).slots.size; rw [arrV_size, cl_j hi hj hn]; exact hj⟩ g1 (fun q h => by rw [g3] at h; cases h) (by rw [g2]; exact hkC) (by rw [g2]; exact va_assign hcls) rfl rfl hd fun H1 e1 e2 e3 => ?_
  refine kk p e s m args below meth c hI H1 ls _ (hM.arrSet (S' := (S.1, S.2.1, u2 S.2.2 a j (some v))) ha (by omega) e2 e3 rfl rfl (fun b hb => ⟨u2_o hb, rfl, rfl⟩) ?_) hL (hS.put e2 e3 (Nat.le_add_right _ _)) h1 h2
  rw [e1, cl_j hi hj hn, vcq ht, arrV_store]
  congr 2
  funext q
  by_cases hq : q = j
  · subst hq
    simp [updV, u2_s, va_rf]
  · simp [updV, hq, u2_n (Or.inr hq)]
/-- the script: its length, its ints -/
theorem v_slen {z : Nat} (hd : decode K.1 pc = .ok (.arraylength, 1)) (hp : pc + 1 = pc') (kk : V C l K R Po pc' L (.int (nI (cN C)) :: st) S I J u) : V C l K R Po pc L (.retAddr z :: st) S I J u := by
  intro p e s m args below meth c hI H ls locs hM hL hS h1 h2
  subst hp
  obtain ⟨hC, hx, hb, hr, hml, hown, hlk, hh, hG, ⟨S0, I0, J0, hM0⟩, hnm⟩ := id hI
  have hX : va_X (cB C) (cN C) (cX C) s s.heap := (va_X.moved hG.1.alike hC.2.2.2.2.1).kept (hG.2 _ hC.2.2.2.2.2.1)
  have hbl : cB C < s.heap.size := by have h := hM0.1; have h' := hC.2.2.2.2.2.1; omega
  refine va_slen hx hb hX hbl (Nat.not_le.mpr hC.2.2.2.2.2.1) hS hd ?_
  exact kk p e s m args below meth c hI H ls locs hM hL hS h1 h2
theorem v_sld {z j : Nat} {i : Int32} (hd : decode K.1 pc = .ok (.iaload, 1)) (hi : i = nI j) (hj : j < cN C) (hn : cN C ≤ 2560) (hp : pc + 1 = pc') (kk : V C l K R Po pc' L (.int (cX C j) :: st) S I J u) : V C l K R Po pc L (.int i :: .retAddr z :: st) S I J u := by
  intro p e s m args below meth c hI H ls locs hM hL hS h1 h2
  subst hp
  obtain ⟨hC, hx, hb, hr, hml, hown, hlk, hh, hG, ⟨S0, I0, J0, hM0⟩, hnm⟩ := id hI
  have hX : va_X (cB C) (cN C) (cX C) s s.heap := (va_X.moved hG.1.alike hC.2.2.2.2.1).kept (hG.2 _ hC.2.2.2.2.2.1)
  have hbl : cB C < s.heap.size := by have h := hM0.1; have h' := hC.2.2.2.2.2.1; omega
  refine va_sld hx hb hX hbl (Nat.not_le.mpr hC.2.2.2.2.2.1) hS (i := i) (by rw [hi]; exact vp_in_nI hj (by omega)) hd ?_
  rw [show i.toNatClampNeg = j by rw [hi]; exact nI_clamp (by omega)]
  exact kk p e s m args below meth c hI H ls locs hM hL hS h1 h2
theorem v_lcmp {x y : Int64} (hd : decode K.1 pc = .ok (.lcmp, 1)) (hp : pc + 1 = pc') (kk : V C l K R Po pc' L (.int (lg_cmp x y) :: st) S I J u) : V C l K R Po pc L (.long y :: .long x :: st) S I J u := by
  intro p e s m args below meth c hI H ls locs hM hL hS h1 h2
  subst hp
  exact W.lcmp hI.2.1 hI.2.2.1 hd (kk p e s m args below meth c hI H ls locs hM hL hS h1 h2)
theorem v_ldc2 {idx : Nat} {v : Int64} (hd : decode K.1 pc = .ok (.ldc2_w idx, 3)) (hw : Wd (.constantLong K.2.1 idx v)) (hp : pc + 3 = pc') (kk : V C l K R Po pc' L (.long v :: st) S I J u) : V C l K R Po pc L st S I J u := by
  intro p e s m args below meth c hI H ls locs hM hL hS h1 h2
  subst hp
  obtain ⟨hC, hx, hb, hr, hml, hown, hlk, hh, hG, hM0, hnm⟩ := id hI
  exact lv_ldc2 hx hb hown (hw.at hC hG.1 args) hd (kk p e s m args below meth c hI H ls locs hM hL hS h1 h2)
theorem v_tabO {dflt lo hi : Int} {offs : Array Int} {len : Nat} {x : Int32} {tgt : Nat} (hd : decode K.1 pc = .ok (.tableswitch dflt lo hi offs, len)) (h : x.toInt < lo ∨ hi < x.toInt) (ht : (pc : Int) + dflt = (tgt : Int)) (kk : V C l K R Po tgt L st S I J u) : V C l K R Po pc L (.int x :: st) S I J u := by
  intro p e s m args below meth c hI H ls locs hM hL hS h1 h2
  exact lv_tableOut hI.2.1 hI.2.2.1 hd h ht (kk p e s m args below meth c hI H ls locs hM hL hS h1 h2)
theorem v_tabI {dflt lo hi : Int} {offs : Array Int} {len : Nat} {x : Int32} {off : Int} {tgt : Nat} (hd : decode K.1 pc = .ok (.tableswitch dflt lo hi offs, len)) (h1 : ¬ x.toInt < lo) (h2 : ¬ hi < x.toInt) (ho : offs[(x.toInt - lo).toNat]? = some off) (ht : (pc : Int) + off = (tgt : Int)) (kk : V C l K R Po tgt L st S I J u) : V C l K R Po pc L (.int x :: st) S I J u := by
  intro p e s m args below meth c hI H ls locs hM hL hS g1 g2
  exact lv_tableIn hI.2.1 hI.2.2.1 hd h1 h2 ho ht (kk p e s m args below meth c hI H ls locs hM hL hS g1 g2)
end Rows
end
section
/-! ===== A METHOD'S END, ITS CONTRACT ===== -/
theorem GG.on {C : CT} {s t : State} {H : Heap} {locs : List Loc} (h : GG C s) (hS : va_S (AX C) s.heap H locs) (hz : c0 C ≤ s.heap.size) (ht : t.heap = H) (hW : s.WarmedH t.vm) : GG C t :=
  ⟨State.WarmedH.trans h.1 hW, fun q hq => by rw [ht, hS.2.1 q (Nat.lt_of_lt_of_le hq hz) (Nat.not_le.mpr hq)]; exact h.2 q hq⟩
theorem MR.z {C : CT} {S : ShT} {I : DI} {J : DJ} {H : Heap} (h : MR C S I J H) : c0 C ≤ H.size := by rw [h.1]; exact Nat.le_add_right _ _
section WM
variable {p : Program} {l : Launch} {e : Env} {R : Room} {s : State} {m : MethodId} {args : Array Value} {below : List Frame} {meth : Method} {c : Code} {H : Heap} {locs : List Loc} {cells slots : Nat} {Q Q' : State → Prop}
theorem W.mono {g : JFrame} (h : ∀ t, Q t → Q' t) (w : W p l e R s m args below meth c H locs cells slots Q g) : W p l e R s m args below meth c H locs cells slots Q' g := fun T hT X => by
  obtain ⟨t, a, b⟩ := w T hT X
  exact ⟨t, a, h t b⟩
end WM
section Rows
variable {C : CT} {l : Launch} {K : KT} {R : RT} {Po : PoT} {pc pc' : Nat} {L L' : LT} {st : List Value} {S S' : ShT} {I I' : DI} {J J' : DJ} {u : Nat × Nat}
/-- any of the returns -/
theorem v_end {r : Option Value} (hp : Po (.inl r) S I J) (k : ∀ (p : Program) (e : Env) (s : State) (m : MethodId) (args : Array Value) (below : List Frame) (meth : Method) (c : Code), Iv C l K p s m meth c → ∀ (H : Heap) (ls : Array Slot) (locs : List Loc) (x y : Nat) (Qc : Array Value → State → Outcome → State → Prop), (∀ t : State, t.heap = H → s.WarmedH t.vm → Qc args s (.returned (r.map (cv C))) t) → (∀ q ∈ locs, c0 C ≤ q.base) →
    W p l e (RM R) s m args below meth c H locs x y (MQ below Qc args s x y (fun q => c0 C ≤ q)) (F0 m pc ls (st.map (cv C)))) : V C l K R Po pc L st S I J u := by
  intro p e s m args below meth c hI H ls locs hM hL hS h1 h2
  obtain ⟨hC, hx, hb, hr, hml, hown, hlk, hh, hG, ⟨S0, I0, J0, hM0⟩, hnm⟩ := id hI
  refine W.widen (k := R.2.1) (n := R.2.2) h1 h2 ?_
  refine W.mono ?_ (k p e s m args below meth c hI H ls locs R.2.1 R.2.2 (fun _ _ o t => o = .returned (r.map (cv C)) ∧ t.heap = H) (fun t ht _ => ⟨rfl, ht⟩) hS.2.2)
  rintro t ⟨o, a1, a2, ⟨rfl, a3⟩, Lc, ⟨-, hW, hsm⟩, a5⟩
  exact ⟨_, a1, a2, ⟨.inl r, S, I, J, hp, by rw [a3]; exact hM, hG.on hS hM0.z a3 hW, rfl⟩, Lc, hW, hsm, a5⟩
theorem v_iret {x : Int32} (hd : decode K.1 pc = .ok (.ireturn, 1)) (ht : K.2.2.2.2.2 = some .int) (hp : Po (.inl (some (.int x))) S I J) : V C l K R Po pc L [.int x] S I J u :=
  v_end hp (fun p e s m args below meth c hI H ls locs _ _ Qc hq hf => by
    have hlk : meth.locks = false := hI.2.2.2.2.2.2.1
    exact W.iret hI.2.1 hI.2.2.1 (hI.2.2.2.1.trans ht) hq hf hd)
theorem v_zret {x : Int32} (hd : decode K.1 pc = .ok (.ireturn, 1)) (ht : K.2.2.2.2.2 = some .boolean) (hx : x = 0 ∨ x = 1) (hp : Po (.inl (some (.int x))) S I J) : V C l K R Po pc L [.int x] S I J u :=
  v_end hp (fun p e s m args below meth c hI H ls locs _ _ Qc hq hf => by
    have hlk : meth.locks = false := hI.2.2.2.2.2.2.1
    have hn : narrow .boolean (.int x) = .int x := by rcases hx with rfl | rfl <;> rfl
    intro T hT X
    obtain ⟨fs, hret, hrun, hended, hW, hframe⟩ := X.leave (v := some (.int x)) (fun h => by rw [hI.2.2.2.1.trans ht] at h; cases h)
    have hmeth' : T.vm.method? m = some meth := X.method'
    refine ⟨T.setFrames fs, ?_, .returned (some (.int x)), hrun, hended, hq _ hT hW, locs, ⟨⟨_, rfl⟩, hW, hframe⟩, hf⟩
    have hexec := hI.2.1
    have hb := hI.2.2.1
    have hr := hI.2.2.2.1.trans ht
    show Steps p.tables e below (T.setTop (F0 m pc ls [.int x])) (T.setFrames fs)
    jvm_step X.here [X.here.top, hexec, hb, hd, hmeth', hr, hn]
    (try refine ⟨rfl, ?_⟩); (try refine ⟨rfl, ?_⟩)
    first | (intro acts; rw [hret _ acts rfl rfl rfl]) | rw [hret _ _ rfl rfl rfl]
    exact Steps.refl _)
theorem v_vret (hd : decode K.1 pc = .ok (.return_, 1)) (ht : K.2.2.2.2.2 = none) (hp : Po (.inl none) S I J) : V C l K R Po pc L [] S I J u :=
  v_end hp (fun p e s m args below meth c hI H ls locs _ _ Qc hq hf => by
    have hlk : meth.locks = false := hI.2.2.2.2.2.2.1
    exact W.vret hI.2.1 hI.2.2.1 (hI.2.2.2.1.trans ht) hq hf hd)
theorem v_lret {x : Int64} (hd : decode K.1 pc = .ok (.lreturn, 1)) (ht : K.2.2.2.2.2 = some .long) (hp : Po (.inl (some (.long x))) S I J) : V C l K R Po pc L [.long x] S I J u :=
  v_end hp (fun p e s m args below meth c hI H ls locs _ _ Qc hq hf => by
    have hlk : meth.locks = false := hI.2.2.2.2.2.2.1
    exact W.lret hI.2.1 hI.2.2.1 (hI.2.2.2.1.trans ht) hq hf hd)
end Rows
end
section
/-! ===== CONTRACTS AND CALLS ===== -/
def cwd (K : KT) (y : MethodName) : Cond := match K.2.2.2.1 with
  | [] => .code y K.1 K.2.2.2.2.1 K.2.2.2.2.2
  | h :: t => .codeWith y K.1 K.2.2.2.2.1 K.2.2.2.2.2 (h :: t)
/-- the card K is that of the method y: its word stands in the tables, its class is initialised there -/
def Cd (K : KT) (y : MethodName) : Prop := K.2.1 = y.cls ∧ K.2.2.1 = y.name ∧ plainName y.cls = true ∧ (y.cls ≠ "java/lang/invoke/MethodHandle" ∧ y.cls ≠ "java/lang/invoke/VarHandle") ∧ Wd (cwd K y) ∧ Wd (.initialized y.cls) ∧ K.2.2.2.2.1 ≤ 17
theorem cwd_spec {K : KT} {y : MethodName} {a : Array Value} {s : State} {m : MethodId} (hn : s.methodNamed? y = some m) (h : (cwd K y).before a s = true) :
    ∃ meth c, s.vm.method? m = some meth ∧ meth.code = some c ∧ c.code = K.1 ∧ c.maxLocals = K.2.2.2.2.1 ∧ meth.sig.returnType = K.2.2.2.2.2 ∧ meth.locks = false ∧ c.exceptionTable.toList.map (fun x => (x.startPc, x.endPc, x.handlerPc, x.catchType)) = K.2.2.2.1 ∧ parseMethodDescriptor y.desc = some meth.sig := by
  unfold cwd at h
  split at h
  · rename_i hh
    obtain ⟨meth, c, h1, h2, h3, h4, h5, h6, h7, h8⟩ := Cond.code_spec hn h
    refine ⟨meth, c, h1, h2, h3, h4, h5, h6, ?_, h8⟩
    rw [hh]
    have : c.exceptionTable.toList = [] := by
      have h9 : c.exceptionTable = #[] := by simpa using h7
      rw [h9]
    rw [this]
    rfl
  · rename_i a1 a2 hh
    obtain ⟨m', meth, c, g0, h1, h2, h3, h4, h5, h6, h7, h8⟩ := Cond.codeWith_spec h
    cases hn.symm.trans g0
    refine ⟨meth, c, h1, h2, h3, h4, h6, h7, ?_, h8⟩
    rw [hh]
    exact h5
theorem cwd_named {K : KT} {y : MethodName} {a : Array Value} {s : State} (h : (cwd K y).before a s = true) : ∃ m, s.methodNamed? y = some m := by
  unfold cwd at h
  split at h
  · exact Cond.code_named h
  · obtain ⟨m', meth, c, g0, -⟩ := Cond.codeWith_spec h
    exact ⟨m', g0⟩
/-- THE CONTRACT of the method y with these arguments, from this memory: it comes to an end with Po, within the room R -/
def Sp (C : CT) (l : Launch) (K : KT) (y : MethodName) (R : RT) (as : List Value) (S : ShT) (I : DI) (J : DJ) (Po : PoT) : Prop :=
  MetFree l y (headSpec [cwd K y] (RM R)) (fun a U => a = (as.map (cv C)).toArray ∧ MR C S I J U.heap ∧ GG C U) (fun _ _ _ _ _ => True) (fun _ st o t => QX C Po o t ∧ EX C R st t)
theorem lv_args_map (C : CT) : ∀ (as : List Value) (i : Nat), lv_args i (as.map (cv C)) = lC C (lv_args i as)
  | [], i => rfl
  | v :: r, i => by
    have h := lv_args_map C r (if v.category = 2 then i + 2 else i + 1)
    simp only [List.map_cons, lv_args, cv_cat, lC] at h ⊢
    rw [h]
    try rfl
theorem lg_sl_len (C : CT) : ∀ as : List Value, (lg_sl (as.map (cv C))).length = (lg_sl as).length
  | [] => rfl
  | v :: r => by
    have h := lg_sl_len C r
    cases v <;> simp_all [lg_sl, cv] <;> rfl
theorem Sp.of {C : CT} {l : Launch} {K : KT} {y : MethodName} {R : RT} {as : List Value} {S : ShT} {I : DI} {J : DJ} {Po : PoT} (hC : OKC C l) (hK : Cd K y) (hlen : (lg_sl as).length ≤ K.2.2.2.2.1) (h : V C l K R Po 0 (lv_args 0 as) [] S I J (0, 0)) : Sp C l K y R as S I J Po := by
  obtain ⟨k1, k2, k3, k4, k5, k6, k7⟩ := hK
  refine MetFree.of_bodyS (code := K.1) (maxLocals := K.2.2.2.2.1) (ret := K.2.2.2.2.2) k3 ?_ ?_
  · intro args s m hp hn
    obtain ⟨meth, c, h1, h2, h3, h4, h5, h6, -, -⟩ := cwd_spec hn (atoms_spec (ws := [cwd K y]) hp _ List.mem_cons_self)
    exact ⟨meth, c, h1, h2, h3, h4, h5, h6⟩
  · intro p e s m args below meth c s₁ B hml hP _
    obtain ⟨rfl, hM, hG⟩ := hP
    have hh0 : s₁.heap = s.heap := by rw [B.state]; rfl
    obtain ⟨meth', c', h1, h2, h3, h4, h5, h6, h7, -⟩ := cwd_spec B.named (atoms_spec (ws := [cwd K y]) B.pre _ List.mem_cons_self)
    cases B.method.symm.trans h1
    cases (Stand.of_body B).code.symm.trans h2
    have hI : Iv C l K p s m meth c := ⟨hC, B.exec, B.bytes, B.returns, hml, by rw [k1]; exact findClass_of_methodNamed B.named, B.notSynchronized, h7, hG, ⟨S, I, J, hM⟩, by rw [k2]; exact (name_of_methodNamed B.named B.method).1⟩
    have hl := lv_entry (as.map (cv C)) (n := K.2.2.2.2.1) (by rw [lg_sl_len]; exact hlen)
    have w := h p e s m (as.map (cv C)).toArray below meth c hI s.heap _ [] hM (by rw [lv_args_map] at hl; exact hl) va_S.rf (Nat.zero_le _) (Nat.zero_le _)
    obtain ⟨t, a1, o, b1, b2, b3⟩ := w s₁ hh0 (Stand.of_body B)
    refine ⟨t, o, ?_, b1, b2, b3⟩
    rw [lg_entry_eq]
    exact a1
section Run
variable {C : CT} {l : Launch} {K K' : KT} {R R' : RT} {Po : PoT} {S S' : ShT} {I I' : DI} {J J' : DJ} {u : Nat × Nat}
variable {p : Program} {e : Env} {s : State} {m : MethodId} {args : Array Value} {below : List Frame} {meth : Method} {c : Code} {T : State} {locs : List Loc} {uc us : Nat} {y : MethodName} {as : List Value}
/-- the callee's run: it comes back, or it throws -/
theorem Sp.run (X : Stand p l e (RM R) s m args below meth c T locs uc us) (hC : OKC C l) (hK : Cd K' y) (hSp : Sp C l K' y R' as S I J Po) (hM : MR C S I J T.heap) (hG : GG C T) {mk : MethodId} (hn : T.methodNamed? y = some mk)
    {g : JFrame} (hg : g.method = m) (hsize : g.locals.size = c.maxLocals) {ig : Instr} (hdg : decode c.code g.pc = .ok (ig, 3)) (hW : 2 * g.monitorRoom + (g.stack.map fun v => v.category).sum ≤ 8) (hfr : R'.1 + 1 ≤ R.1) (hcl : uc + R'.2.1 ≤ R.2.1) (hsl : us + R'.2.2 ≤ R.2.2) :
    ∃ (r : RsT) (S' : ShT) (I' : DI) (J' : DJ) (T' : State) (Lc : List Loc), Po r S' I' J' ∧ MR C S' I' J' T'.heap ∧ GG C T' ∧ Stand p l e (RM R) s m args below meth c T' (locs ++ Lc) (uc + R'.2.1) (us + R'.2.2) ∧ (∀ q ∈ Lc, c0 C ≤ q.base) ∧
      match r with
      | .inl v => Steps p.tables e below (doInvoke e (T.setTop g) [] mk (as.map (cv C)).toArray).1 (T'.setTop { g with pc := g.pc + 3, stack := (v.map (cv C)).toList ++ g.stack })
      | .inr ci => ∃ k, S'.1 = k + 1 ∧ (S'.2.1 k).1 = ci ∧ Steps p.tables e below (doInvoke e (T.setTop g) [] mk (as.map (cv C)).toArray).1 ((T'.setTop g).pushFrame (.throwing (c0 C + k))) := by
  obtain ⟨k1, k2, k3, k4, k5, k6, k7⟩ := hK
  have hcw : (cwd K' y).before (as.map (cv C)).toArray T = true := k5.at hC hG.1 _
  obtain ⟨methY, cY, hmY, hcY, -, hlY, -, -, -, -⟩ := cwd_spec hn hcw
  obtain ⟨kY, hkY, -⟩ := className_of_methodNamed hn
  have hinitY : kY.init = .initialized := Cond.initialized_spec (findClass_of_methodNamed hn) hkY (k6.at hC hG.1 (as.map (cv C)).toArray)
  have h : At T g.method c below := by rw [hg]; exact X.here
  have happ : (headSpec [cwd K' y] (RM R')).appliesLoose y e.platform (T.calling g mk (as.map (cv C)).toArray) = true :=
    Spec.appliesLoose_calling (g := g) h hdg hn hkY hinitY
      (X.room_calling (g := g) (R' := RM R') hsize hmY hcY hfr (by rw [hlY]; show _ + _ + 36 * R'.1 ≤ 36 * R.1; omega) hcl hsl) (atoms_intro fun w hw => by
        rw [List.mem_singleton.mp hw]
        exact hcw)
  obtain ⟨mid, hmid⟩ := h.above
  have hfr2 : (T.setTop g).frames = (.java g :: mid) ++ below := by rw [State.frames_setTop' g h.top, hmid]; rfl
  have hcall : ∃ o s₂, Steps p.tables e below (doInvoke e (T.setTop g) [] mk (as.map (cv C)).toArray).1 s₂ ∧ s₂.status = .running ∧ Ended s₂ (T.setTop g).frames o ∧ (QX C Po o s₂ ∧ EX C R' (T.calling g mk (as.map (cv C)).toArray) s₂) :=
    Steps.callFree hSp p X.admits X.cas X.clock (acts := []) hfr2 happ ⟨rfl, hM, hG⟩ trivial
  obtain ⟨o, s₂, hsteps, -, hend, ⟨r, S', I', J', q1, q2, q3, q4⟩, Lc, e1, e2, e3⟩ := hcall
  rw [State.frames_setTop' g h.top, X.tail] at hend
  cases r with
  | inl v =>
    have q4 : o = .returned (v.map (cv C)) := q4
    subst q4
    obtain ⟨T', X', hW', hB, rfl⟩ := X.outOf hg hdg hend e1 e2
    refine ⟨.inl v, S', I', J', T', Lc, q1, ?_, ?_, X', e3, hsteps⟩
    · exact q2
    · exact q3
  | inr ci =>
    obtain ⟨k, g1, g2, rfl⟩ := q4
    obtain ⟨T', X', hW', hB, rfl⟩ := X.outOfThrown hg hend e1 e2
    refine ⟨.inr ci, S', I', J', T', Lc, q1, ?_, ?_, X', e3, k, g1, g2, hsteps⟩
    · rw [Stand.throwing_heap] at q2
      exact q2
    · exact ⟨by have := q3.1; rw [Stand.throwing_vm] at this; exact this, by have := q3.2; rw [Stand.throwing_heap] at this; exact this⟩
end Run
end
section
/-! ===== CALL ROWS ===== -/
/-- a throw under way: the frame g, the thrown object k over it -/
def VT (C : CT) (l : Launch) (K : KT) (R : RT) (Po : PoT) (pc : Nat) (L : LT) (st : List Value) (S : ShT) (I : DI) (J : DJ) (u : Nat × Nat) (k : Nat) : Prop :=
  ∀ (p : Program) (e : Env) (s : State) (m : MethodId) (args : Array Value) (below : List Frame) (meth : Method) (c : Code), Iv C l K p s m meth c →
    ∀ (T : State) (ls : Array Slot) (locs : List Loc), MR C S I J T.heap → lv_has ls K.2.2.2.2.1 (lC C L) → va_S (AX C) s.heap T.heap locs → u.1 ≤ R.2.1 → u.2 ≤ R.2.2 → Stand p l e (RM R) s m args below meth c T locs u.1 u.2 →
    ∃ t, Steps p.tables e below ((T.setTop (F0 m pc ls (st.map (cv C)))).pushFrame (.throwing (c0 C + k))) t ∧ ZX C R Po below s t
/-- a call site: the card, the links; n: how many parameters -/
def CsV (own : String) (idx : Nat) (K : KT) (y : MethodName) (n : Nat) : Prop := Cd K y ∧ Wd (.methodLink own idx y) ∧ Wd (.instanceMethod y) ∧ Wd (.selects y.cls y y) ∧ (parseMethodDescriptor y.desc).map (fun d => d.parameters.length) = some n
def CsS (own : String) (idx : Nat) (K : KT) (y : MethodName) (n : Nat) : Prop := Cd K y ∧ Wd (.methodLink own idx y) ∧ Wd (.static y) ∧ (parseMethodDescriptor y.desc).map (fun d => d.parameters.length) = some n
def CsN (own : String) (idx : Nat) (K : KT) (y : MethodName) (n : Nat) : Prop := Cd K y ∧ (∃ host, Cond.methodLinkNest own idx y host ∈ lw_tbl) ∧ Wd (.static y) ∧ (parseMethodDescriptor y.desc).map (fun d => d.parameters.length) = some n
def CsI (own : String) (idx : Nat) (K : KT) (y : MethodName) (n : Nat) : Prop := Cd K y ∧ (Wd (.methodLink own idx y) ∨ ∃ host, Cond.methodLinkNest own idx y host ∈ lw_tbl) ∧ Wd (.instanceMethod y) ∧ K.2.2.2.1 = [] ∧ K.2.2.2.2.2 = none ∧ y.name = "<init>" ∧ (parseMethodDescriptor y.desc).map (fun d => d.parameters.length) = some n
theorem nest_at {C : CT} {l : Launch} (hC : OKC C l) {own : String} {idx : Nat} {y : MethodName} {host : String} (h : Cond.methodLinkNest own idx y host ∈ lw_tbl) {U : State} (hW : (cS C).WarmedH U.vm) (a : Array Value) : (Cond.methodLinkNest own idx y host).before a U = true :=
  va_Nw.use rfl (va_Nw.warmM hW (va_Nw.of rfl (hC.2.1 _ h)))
theorem par_len {y : MethodName} {n : Nat} {as : List Value} (h : (parseMethodDescriptor y.desc).map (fun d => d.parameters.length) = some n) (ha : as.length = n) : ∀ sig, parseMethodDescriptor y.desc = some sig → as.length = sig.parameters.length := by
  intro sig hs
  rw [hs] at h
  exact ha.trans (Option.some.inj h).symm
section Rows
variable {C : CT} {l : Launch} {K K' : KT} {R R' : RT} {Po Po' : PoT} {pc pc' : Nat} {L L' : LT} {st stk : List Value} {S S' : ShT} {I I' : DI} {J J' : DJ} {u : Nat × Nat} {y : MethodName} {as : List Value}
/-- behind the callee's run -/
theorem v_back {p : Program} {e : Env} {s : State} {m : MethodId} {args : Array Value} {below : List Frame} {meth : Method} {c : Code} {T : State} {locs : List Loc} {ls : Array Slot} (hI : Iv C l K p s m meth c) (hL : lv_has ls K.2.2.2.2.1 (lC C L)) (hS : va_S (AX C) s.heap T.heap locs) (hK' : Cd K' y) (hSp : Sp C l K' y R' as S I J Po') (hM : MR C S I J T.heap)
    {vm₁ : Vm} (X₁ : Stand p l e (RM R) s m args below meth c (T.setVm vm₁) locs u.1 u.2) {mk : MethodId} (hn : (T.setVm vm₁).methodNamed? y = some mk) {ig : Instr} (hdg : decode K.1 pc = .ok (ig, 3)) (hw : (st.map fun v => v.category).sum ≤ 8) (hfr : R'.1 + 1 ≤ R.1) (hu : u.1 + R'.2.1 ≤ R.2.1 ∧ u.2 + R'.2.2 ≤ R.2.2) (hp : pc + 3 = pc')
    (kk : ∀ (v : Option Value) (S' : ShT) (I' : DI) (J' : DJ), Po' (.inl v) S' I' J' → V C l K R Po pc' L (v.toList ++ st) S' I' J' (u.1 + R'.2.1, u.2 + R'.2.2))
    (kt : ∀ (ci k : Nat) (S' : ShT) (I' : DI) (J' : DJ), Po' (.inr ci) S' I' J' → S'.1 = k + 1 → (S'.2.1 k).1 = ci → VT C l K R Po pc L st S' I' J' (u.1 + R'.2.1, u.2 + R'.2.2) k)
    (hstep : ∀ target, Steps p.tables e below (doInvoke e ((T.setVm vm₁).setTop (F0 m pc ls (st.map (cv C)))) [] mk (as.map (cv C)).toArray).1 target → Steps p.tables e below (T.setTop (F0 m pc ls (stk.map (cv C)))) target) :
    ∃ t, Steps p.tables e below (T.setTop (F0 m pc ls (stk.map (cv C)))) t ∧ ZX C R Po below s t := by
  obtain ⟨hC, hx, hb, hr, hml, hown, hlk, hh, hG, ⟨S0, I0, J0, hM0⟩, hnm⟩ := id hI
  subst hp
  have hG1 : GG C (T.setVm vm₁) := hG.on hS hM0.z rfl X₁.warmed
  obtain ⟨r, S1, I1, J1, T', Lc, q1, q2, q3, X', q5, q6⟩ := Sp.run X₁ hC hK' hSp (show MR C S I J (T.setVm vm₁).heap from hM) hG1 hn (g := F0 m pc ls (st.map (cv C))) rfl (by rw [hml]; exact hL.1) (by rw [hb]; exact hdg) (lv_room (by
    have : ((st.map (cv C)).map fun v => v.category) = st.map fun v => v.category := by
      rw [List.map_map]
      congr 1
      funext v
      exact cv_cat C v
    show ((st.map (cv C)).map fun v => v.category).sum ≤ 8
    rw [this]
    exact hw)) hfr hu.1 hu.2
  have hS' : va_S (AX C) s.heap T'.heap (locs ++ Lc) := ⟨X'.same.2.1, fun q _ h2 => by rw [q3.2 q (Nat.not_le.mp h2), hG.2 q (Nat.not_le.mp h2)], fun z hz => by
    rcases List.mem_append.mp hz with h | h
    · exact hS.2.2 z h
    · exact q5 z h⟩
  cases r with
  | inl v =>
    have w := kk v S1 I1 J1 q1 p e s m args below meth c hI T'.heap ls (locs ++ Lc) q2 hL hS' hu.1 hu.2 T' rfl X'
    obtain ⟨t, a1, b1⟩ := w
    refine ⟨t, hstep _ (q6.trans ?_), b1⟩
    have e9 : (v.toList ++ st).map (cv C) = (v.map (cv C)).toList ++ st.map (cv C) := by cases v <;> rfl
    rw [e9] at a1
    exact a1
  | inr ci =>
    obtain ⟨k, g1, g2, g3⟩ := q6
    obtain ⟨t, a1, b1⟩ := kt ci k S1 I1 J1 q1 g1 g2 p e s m args below meth c hI T' ls (locs ++ Lc) q2 hL hS' hu.1 hu.2 X'
    exact ⟨t, hstep _ (g3.trans a1), b1⟩
theorem v_callV {b ci idx n : Nat} (hd : decode K.1 pc = .ok (.invokevirtual idx, 3)) (hk : CsV K.2.1 idx K' y n) (hSp : Sp C l K' y R' (.ref b :: as) S I J Po') (hb0 : isO S b ci) (hc : ci < 12) (hcy : kN ci = y.cls) (hn : as.length = n) (hst : as.reverse ++ .ref b :: st = stk) (hw : (st.map fun v => v.category).sum ≤ 8) (hfr : R'.1 + 1 ≤ R.1) (hu : u.1 + R'.2.1 ≤ R.2.1 ∧ u.2 + R'.2.2 ≤ R.2.2) (hp : pc + 3 = pc')
    (kk : ∀ (v : Option Value) (S' : ShT) (I' : DI) (J' : DJ), Po' (.inl v) S' I' J' → V C l K R Po pc' L (v.toList ++ st) S' I' J' (u.1 + R'.2.1, u.2 + R'.2.2))
    (kt : ∀ (ci k : Nat) (S' : ShT) (I' : DI) (J' : DJ), Po' (.inr ci) S' I' J' → S'.1 = k + 1 → (S'.2.1 k).1 = ci → VT C l K R Po pc L st S' I' J' (u.1 + R'.2.1, u.2 + R'.2.2) k) : V C l K R Po pc L stk S I J u := by
  intro p e s m args below meth c hI H ls locs hM hL hS h1 h2 T hT X
  subst hT
  obtain ⟨hC, hx, hb, hr, hml, hown, hlk, hh, hG, ⟨S0, I0, J0, hM0⟩, hnm⟩ := id hI
  obtain ⟨k1, k2, k3, k4, k5⟩ := hk
  obtain ⟨-, -, -, hy, w5, -, -⟩ := id k1
  obtain ⟨mk, methM, hnamed, hmethM, hstM, habM⟩ := Cond.instanceMethod_spec (k3.at hC hG.1 args)
  obtain ⟨methM', cM, hmethM', -, -, -, -, -, -, hsigM⟩ := cwd_spec hnamed (w5.at hC hG.1 args)
  cases hmethM.symm.trans hmethM'
  have hPv := hM.2 b hb0.1
  rw [cel_o hb0.2 hc] at hPv
  obtain ⟨r', hr', cellV, g1, g2, g3, -⟩ := hPv
  have hcls : s.vm.findClass y.cls = some cellV.cls := by rw [← hcy, g2]; exact ((hG.K hC).1 ci _ (vw_at hc)).2.1
  obtain ⟨c2, r2, m2, q1, q2, q3, q4, kP, hkP, hkPi⟩ := Cond.selects_spec (k4.at hC hG.1 args)
  cases hcls.symm.trans q1
  cases (State.methodFound?_of_named hnamed hy).symm.trans q2
  cases hnamed.symm.trans q3
  have hselP : selectMethod e.platform s.vm cellV.cls mk = .method mk := by rw [Launch.admits_selectMethod X.admits]; exact q4
  obtain ⟨vm₁, X₁, hstep₁⟩ := X.invokevirtual hx hown (k2.at hC hG.1 args) hnamed hmethM hstM hkP hkPi hy (a := c0 C + b) (cell := cellV) g1
    (fun z h => by rw [g3] at h; cases h) hselP hmethM habM hkP hkPi (g := F0 m pc ls (stk.map (cv C))) rfl (argsL := as.map (cv C)) (rest := st.map (cv C)) (by rw [List.length_map]; exact par_len k5 hn _ hsigM) (by rw [← hst, List.map_append, List.map_reverse]; rfl) (by rw [hb]; exact hd)
  exact v_back (as := .ref b :: as) hI hL hS k1 hSp hM X₁ (X₁.named hnamed) hd hw hfr hu hp kk kt (fun target h => hstep₁ _ fun acts => by rw [doInvoke_state]; exact h)
theorem v_callS {idx n : Nat} (hd : decode K.1 pc = .ok (.invokestatic idx, 3)) (hk : CsS K.2.1 idx K' y n) (hSp : Sp C l K' y R' as S I J Po') (hn : as.length = n) (hst : as.reverse ++ st = stk) (hw : (st.map fun v => v.category).sum ≤ 8) (hfr : R'.1 + 1 ≤ R.1) (hu : u.1 + R'.2.1 ≤ R.2.1 ∧ u.2 + R'.2.2 ≤ R.2.2) (hp : pc + 3 = pc')
    (kk : ∀ (v : Option Value) (S' : ShT) (I' : DI) (J' : DJ), Po' (.inl v) S' I' J' → V C l K R Po pc' L (v.toList ++ st) S' I' J' (u.1 + R'.2.1, u.2 + R'.2.2))
    (kt : ∀ (ci k : Nat) (S' : ShT) (I' : DI) (J' : DJ), Po' (.inr ci) S' I' J' → S'.1 = k + 1 → (S'.2.1 k).1 = ci → VT C l K R Po pc L st S' I' J' (u.1 + R'.2.1, u.2 + R'.2.2) k) : V C l K R Po pc L stk S I J u := by
  intro p e s m args below meth c hI H ls locs hM hL hS h1 h2 T hT X
  subst hT
  obtain ⟨hC, hx, hb, hr, hml, hown, hlk, hh, hG, ⟨S0, I0, J0, hM0⟩, hnm⟩ := id hI
  obtain ⟨k1, k2, k3, k5⟩ := hk
  obtain ⟨-, -, -, hy, w5, w6, -⟩ := id k1
  obtain ⟨mk, hnamed⟩ := cwd_named (w5.at hC hG.1 args)
  obtain ⟨methM, cM, hmethM, -, -, -, -, -, -, hsigM⟩ := cwd_spec hnamed (w5.at hC hG.1 args)
  have hstatic : methM.isStatic = true := Cond.static_spec hnamed hmethM (k3.at hC hG.1 args)
  obtain ⟨kP, hkP, -⟩ := className_of_methodNamed hnamed
  have hinitP : kP.init = .initialized := Cond.initialized_spec (findClass_of_methodNamed hnamed) hkP (w6.at hC hG.1 args)
  obtain ⟨vm₁, X₁, hstep₁⟩ := X.invokestatic hx hown (k2.at hC hG.1 args) hnamed hmethM hstatic hkP hinitP hy (g := F0 m pc ls (stk.map (cv C))) rfl (argsL := as.map (cv C)) (rest := st.map (cv C)) (by rw [List.length_map]; exact par_len k5 hn _ hsigM) (by rw [← hst, List.map_append, List.map_reverse]) (by rw [hb]; exact hd)
  exact v_back (as := as) hI hL hS k1 hSp hM X₁ (X₁.named hnamed) hd hw hfr hu hp kk kt (fun target h => hstep₁ _ fun acts => by rw [doInvoke_state]; exact h)
theorem v_callN {idx n : Nat} (hd : decode K.1 pc = .ok (.invokestatic idx, 3)) (hk : CsN K.2.1 idx K' y n) (hSp : Sp C l K' y R' as S I J Po') (hn : as.length = n) (hst : as.reverse ++ st = stk) (hw : (st.map fun v => v.category).sum ≤ 8) (hfr : R'.1 + 1 ≤ R.1) (hu : u.1 + R'.2.1 ≤ R.2.1 ∧ u.2 + R'.2.2 ≤ R.2.2) (hp : pc + 3 = pc')
    (kk : ∀ (v : Option Value) (S' : ShT) (I' : DI) (J' : DJ), Po' (.inl v) S' I' J' → V C l K R Po pc' L (v.toList ++ st) S' I' J' (u.1 + R'.2.1, u.2 + R'.2.2))
    (kt : ∀ (ci k : Nat) (S' : ShT) (I' : DI) (J' : DJ), Po' (.inr ci) S' I' J' → S'.1 = k + 1 → (S'.2.1 k).1 = ci → VT C l K R Po pc L st S' I' J' (u.1 + R'.2.1, u.2 + R'.2.2) k) : V C l K R Po pc L stk S I J u := by
  intro p e s m args below meth c hI H ls locs hM hL hS h1 h2 T hT X
  subst hT
  obtain ⟨hC, hx, hb, hr, hml, hown, hlk, hh, hG, ⟨S0, I0, J0, hM0⟩, hnm⟩ := id hI
  obtain ⟨k1, ⟨host, k2⟩, k3, k5⟩ := hk
  obtain ⟨-, -, -, hy, w5, w6, -⟩ := id k1
  obtain ⟨mk, hnamed⟩ := cwd_named (w5.at hC hG.1 args)
  obtain ⟨methM, cM, hmethM, -, -, -, -, -, -, hsigM⟩ := cwd_spec hnamed (w5.at hC hG.1 args)
  have hstatic : methM.isStatic = true := Cond.static_spec hnamed hmethM (k3.at hC hG.1 args)
  obtain ⟨kP, hkP, -⟩ := className_of_methodNamed hnamed
  have hinitP : kP.init = .initialized := Cond.initialized_spec (findClass_of_methodNamed hnamed) hkP (w6.at hC hG.1 args)
  obtain ⟨vm₁, X₁, hstep₁⟩ := X.invokestaticNest hx hown (nest_at hC k2 hG.1 args) hnamed hmethM hstatic hkP hinitP hy (g := F0 m pc ls (stk.map (cv C))) rfl (argsL := as.map (cv C)) (rest := st.map (cv C)) (by rw [List.length_map]; exact par_len k5 hn _ hsigM) (by rw [← hst, List.map_append, List.map_reverse]) (by rw [hb]; exact hd)
  exact v_back (as := as) hI hL hS k1 hSp hM X₁ (X₁.named hnamed) hd hw hfr hu hp kk kt (fun target h => hstep₁ _ fun acts => by rw [doInvoke_state]; exact h)
theorem v_callI {b idx n : Nat} (hd : decode K.1 pc = .ok (.invokespecial idx, 3)) (hk : CsI K.2.1 idx K' y n) (hSp : Sp C l K' y R' (.ref b :: as) S I J Po') (hn : as.length = n) (hst : as.reverse ++ .ref b :: st = stk) (hw : (st.map fun v => v.category).sum ≤ 8) (hfr : R'.1 + 1 ≤ R.1) (hu : u.1 + R'.2.1 ≤ R.2.1 ∧ u.2 + R'.2.2 ≤ R.2.2) (hp : pc + 3 = pc')
    (kk : ∀ (v : Option Value) (S' : ShT) (I' : DI) (J' : DJ), Po' (.inl v) S' I' J' → V C l K R Po pc' L (v.toList ++ st) S' I' J' (u.1 + R'.2.1, u.2 + R'.2.2))
    (kt : ∀ (ci k : Nat) (S' : ShT) (I' : DI) (J' : DJ), Po' (.inr ci) S' I' J' → S'.1 = k + 1 → (S'.2.1 k).1 = ci → VT C l K R Po pc L st S' I' J' (u.1 + R'.2.1, u.2 + R'.2.2) k) : V C l K R Po pc L stk S I J u := by
  intro p e s m args below meth c hI H ls locs hM hL hS h1 h2 T hT X
  subst hT
  obtain ⟨hC, hx, hb, hr, hml, hown, hlk, hh, hG, ⟨S0, I0, J0, hM0⟩, hnm⟩ := id hI
  obtain ⟨k1, k2, k3, k4, k4b, hy1, k5⟩ := hk
  obtain ⟨-, -, -, hy, w5, w6, -⟩ := id k1
  have hpl : e.platform.magicAccessors = ({} : Platform).magicAccessors := by rw [X.admits.platform]
  have hcode : (Cond.code y K'.1 K'.2.2.2.2.1 none).before args s = true := by
    have h := w5.at hC hG.1 args
    unfold cwd at h
    rw [k4, k4b] at h
    exact h
  have hlenA : ∀ sig, parseMethodDescriptor y.desc = some sig → (as.map (cv C)).length = sig.parameters.length := by
    intro sig h
    rw [List.length_map]
    exact par_len k5 hn sig h
  have hstk : (F0 m pc ls (stk.map (cv C))).stack = (as.map (cv C)).reverse ++ .ref (c0 C + b) :: st.map (cv C) := by
    show stk.map (cv C) = _
    rw [← hst, List.map_append, List.map_reverse]
    rfl
  rcases k2 with k2 | ⟨host, k2⟩
  · obtain ⟨mk, methM, cM, kP, vm₁, hnamed, hmethM, hcodeM, -, hlocalsM, -, hkP, -, hW₁, hstep₁⟩ := Steps.initColdArgs (e := e) X.here hx X.warmed hpl hown hy1 hy (k2.at hC hG.1 args) (k3.at hC hG.1 args) hcode (f := F0 m pc ls (stk.map (cv C))) rfl hlenA hstk (by rw [hb]; exact hd)
    have X₁ := X.noted hW₁
    exact v_back (as := .ref b :: as) hI hL hS k1 hSp hM X₁ (X₁.named hnamed) hd hw hfr hu hp kk kt (fun target h => hstep₁ _ fun acts => by rw [doInvoke_state]; exact h)
  · obtain ⟨mk, methM, cM, kP, vm₁, hnamed, hmethM, hcodeM, -, hlocalsM, -, hkP, -, hW₁, hstep₁⟩ := Steps.initColdArgsNest (e := e) X.here hx X.warmed hpl hown hy1 hy (nest_at hC k2 hG.1 args) (k3.at hC hG.1 args) hcode (f := F0 m pc ls (stk.map (cv C))) rfl hlenA hstk (by rw [hb]; exact hd)
    have X₁ := X.noted hW₁
    exact v_back (as := .ref b :: as) hI hL hS k1 hSp hM X₁ (X₁.named hnamed) hd hw hfr hu hp kk kt (fun target h => hstep₁ _ fun acts => by rw [doInvoke_state]; exact h)
end Rows
end
section
/-! ===== ROWS THAT MAKE CELLS ===== -/
def zf {α : Type} (f : Nat → Nat → α) (n : Nat) (z : α) : Nat → Nat → α := fun b => if n ≤ b then fun _ => z else f b
def ad1 (S : ShT) (k : Nat × Nat) : ShT := (S.1 + 1, fun b => if b = S.1 then k else S.2.1 b, zf S.2.2 S.1 none)
def ad2 (S : ShT) (N M : Nat) : ShT := (S.1 + 1 + N, fun b => if b = S.1 then (37, N) else if S.1 < b then (32, M) else S.2.1 b, fun b j => if b = S.1 then (if j < N then some (S.1 + 1 + j) else none) else zf S.2.2 S.1 none b j)
theorem zf_lt {α : Type} {f : Nat → Nat → α} {n : Nat} {z : α} {b : Nat} (h : b < n) : zf f n z b = f b := by
  unfold zf
  rw [if_neg (by omega)]
theorem zf_ge {α : Type} {f : Nat → Nat → α} {n : Nat} {z : α} {b j : Nat} (h : n ≤ b) : zf f n z b j = z := by
  unfold zf
  rw [if_pos h]
theorem MR.grow {C : CT} {S S' : ShT} {I I' : DI} {J J' : DJ} {H H' : Heap} (h : MR C S I J H) (hz : H'.size = c0 C + S'.1) (ho : ∀ q, q < H.size → H'[q]? = H[q]?) (hk : ∀ k, k < S.1 → S'.2.1 k = S.2.1 k ∧ S'.2.2 k = S.2.2 k ∧ I' k = I k ∧ J' k = J k) (hn : ∀ k, S.1 ≤ k → k < S'.1 → va_at (cD C) vwCl (c0 C + k, cel C S' I' J' k) H') : MR C S' I' J' H' := by
  refine ⟨hz, fun k hk' => ?_⟩
  by_cases hl : k < S.1
  · obtain ⟨g1, g2, g3, g4⟩ := hk k hl
    rw [cel_eq g1 g2 g3 g4]
    exact (h.2 k hl).kept (ho _ (by rw [h.1]; show c0 C + k < c0 C + S.1; omega))
  · exact hn k (by omega) hk'
theorem va_S.grow {A : Nat → Prop} {H0 H H1 : Heap} {locs : List Loc} (h : va_S A H0 H locs) (z : H.size ≤ H1.size) (o : ∀ q, q < H.size → H1[q]? = H[q]?) : va_S A H0 H1 locs :=
  ⟨Nat.le_trans h.1 z, fun x h1 h2 => (o x (Nat.lt_of_lt_of_le h1 h.1)).trans (h.2.1 x h1 h2), h.2.2⟩
theorem fV_new {C : CT} {S : ShT} {I : DI} {J : DJ} {n j : Nat} (h1 : S.2.2 n j = none) (h2 : I n j = 0) (h3 : J n j = 0) {t : FieldType} (ht : t = .int ∨ t = .boolean ∨ t = .long ∨ isR t = true) : fV C S I J n j t = defaultValue t := by
  rcases ht with rfl | rfl | rfl | h
  · simp [fV, h2, defaultValue]
  · simp [fV, h2, defaultValue]
  · simp [fV, h3, defaultValue]
  · cases t <;> first | (cases h; done) | (simp [fV, fR, h1, defaultValue])
def okT (t : FieldType) : Bool := match t with
  | .int => true
  | .boolean => true
  | .long => true
  | .object _ => true
  | .array _ => true
  | _ => false
theorem okT_s {t : FieldType} (h : okT t = true) : t = .int ∨ t = .boolean ∨ t = .long ∨ isR t = true := by
  cases t <;> simp_all [okT, isR]
theorem ky_ok : ∀ c, c < 12 → ∀ k, k < kF c → okT (kY c k) = true := by decide +kernel
section Rows
variable {C : CT} {l : Launch} {K : KT} {R : RT} {Po : PoT} {pc pc' : Nat} {L L' : LT} {st : List Value} {S S' : ShT} {I I' : DI} {J J' : DJ} {u : Nat × Nat}
theorem v_new {ci idx N : Nat} (hd : decode K.1 pc = .ok (.new idx, 3)) (hc : ci < 12) (hw1 : Wd (.classLink K.2.1 idx (kN ci))) (hw2 : Wd (.instantiable (kN ci) N)) (hw3 : Wd (.initialized (kN ci))) (hu : u.1 + 1 ≤ R.2.1 ∧ u.2 + N ≤ R.2.2) (hp : pc + 3 = pc')
    (kk : V C l K R Po pc' L (.ref S.1 :: st) (ad1 S (ci, 0)) (zf I S.1 0) (zf J S.1 0) (u.1 + 1, u.2 + N)) : V C l K R Po pc L st S I J u := by
  intro p e s m args below meth c hI H ls locs hM hL hS h1 h2
  subst hp
  obtain ⟨hC, hx, hb, hr, hml, hown, hlk, hh, hG, ⟨S0, I0, J0, hM0⟩, hnm⟩ := id hI
  have hKn := (hG.K hC).1 ci _ (vw_at hc)
  refine W.newcK hx hb hown (hw1.at hC hG.1 args) (hw2.at hC hG.1 args) (hw3.at hC hG.1 args) rfl hd hu.1 hu.2 hKn.2.1 hM.1 fun H1 kC hkC e1 z1 o1 => ?_
  have o2 : ∀ q, q < H.size → H1[q]? = H[q]? := fun q hq => o1 q (by rw [← hM.1]; exact hq)
  refine kk p e s m args below meth c hI H1 ls locs (hM.grow (by rw [z1]; rfl) o2 (fun k hk => ⟨?_, zf_lt hk, zf_lt hk, zf_lt hk⟩) (fun k g1 g2 => ?_)) hL (hS.grow (by rw [z1, hM.1]; exact Nat.le_succ _) o2) hu.1 hu.2
  · show (if k = S.1 then _ else _) = _
    rw [if_neg (by omega)]
  · have hk : k = S.1 := by have : k < S.1 + 1 := g2; omega
    subst hk
    rw [cel_o (ci := ci) (by show (if S.1 = S.1 then _ else _ : Nat × Nat).1 = ci; rw [if_pos rfl]) hc]
    refine ⟨_, vw_at hc, (u_born (kY ci) (hG.lays hC ci args) (fun w h => h) hKn hkC e1 (ky_all ci)).to fun j hj => ?_⟩
    rw [fL_V hj, fV_new (zf_ge (Nat.le_refl _)) (zf_ge (Nat.le_refl _)) (zf_ge (Nat.le_refl _)) (okT_s (ky_ok ci hc j hj))]
theorem v_newa {t N : Nat} {atype : ArrayType} {x : Int32} (hd : decode K.1 pc = .ok (.newarray atype, 2)) (ht : (t = 32 ∧ atype = .int) ∨ (t = 33 ∧ atype = .boolean) ∨ (t = 34 ∧ atype = .long)) (hw : Wd (.arrayClass (tgT t))) (hx : x = nI N) (hN : N ≤ 1000) (hu : u.1 + 1 ≤ R.2.1 ∧ u.2 + N ≤ R.2.2) (hp : pc + 2 = pc')
    (kk : V C l K R Po pc' L (.ref S.1 :: st) (ad1 S (t, N)) (zf I S.1 0) (zf J S.1 0) (u.1 + 1, u.2 + N)) : V C l K R Po pc L (.int x :: st) S I J u := by
  intro p e s m args below meth c hI H ls locs hM hL hS h1 h2
  subst hp
  obtain ⟨hC, hx0, hb, hr, hml, hown, hlk, hh, hG, ⟨S0, I0, J0, hM0⟩, hnm⟩ := id hI
  have hty : newarray.typeOf atype = tgT t := by rcases ht with ⟨rfl, rfl⟩ | ⟨rfl, rfl⟩ | ⟨rfl, rfl⟩ <;> rfl
  have ht32 : 32 ≤ t := by omega
  have hRA : s.vm.findClass ("[" ++ (tgT t).toString) = some (cA C t) := by
    have h := (hG.arr hC ht32).2
    rcases ht with ⟨rfl, rfl⟩ | ⟨rfl, rfl⟩ | ⟨rfl, rfl⟩ <;> exact h
  refine va_newaK hx0 hb (atype := atype) (by rw [hty]; exact hw.at hC hG.1 args) rfl hd rfl (by rw [hx]; exact nI_pos (by omega)) (by rw [hx]; exact nI_clamp (by omega)) (by rcases ht with ⟨rfl, rfl⟩ | ⟨rfl, rfl⟩ | ⟨rfl, rfl⟩ <;> simp only [newarray.typeOf, componentBytes] <;> omega) hu.1 hu.2 hM.1 fun H1 cA1 e1 z1 o1 a1 a2 => ?_
  rw [hty] at a2 e1
  cases hRA.symm.trans a2
  have o2 : ∀ q, q < H.size → H1[q]? = H[q]? := fun q hq => o1 q (by rw [← hM.1]; exact hq)
  refine kk p e s m args below meth c hI H1 ls locs (hM.grow (by rw [z1]; rfl) o2 (fun k hk => ⟨?_, zf_lt hk, zf_lt hk, zf_lt hk⟩) (fun k g1 g2 => ?_)) hL (hS.grow (by rw [z1, hM.1]; exact Nat.le_succ _) o2) hu.1 hu.2
  · show (if k = S.1 then _ else _) = _
    rw [if_neg (by omega)]
  · have hk : k = S.1 := by have : k < S.1 + 1 := g2; omega
    subst hk
    rw [cel_a (t := t) (n := N) (by show (if S.1 = S.1 then _ else _ : Nat × Nat) = _; rw [if_pos rfl]) ht32]
    show H1[c0 C + S.1]? = some (vp_cell _ _)
    rw [e1]
    rcases ht with ⟨rfl, rfl⟩ | ⟨rfl, rfl⟩ | ⟨rfl, rfl⟩
    · rw [vc32]
      congr 2
      funext j
      rw [zf_ge (Nat.le_refl _)]
      rfl
    · rw [vc33]
      congr 2
      funext j
      rw [zf_ge (Nat.le_refl _)]
      rfl
    · rw [vc34]
      congr 2
      funext j
      rw [zf_ge (Nat.le_refl _)]
      rfl
theorem v_anew {t N idx ci : Nat} {x : Int32} (hd : decode K.1 pc = .ok (.anewarray idx, 3)) (ht : 35 ≤ t) (htc : tgT t = .object (kN ci)) (hw : Wd (.classLink K.2.1 idx (kN ci))) (hw2 : Cond.arrayOver (.object (kN ci)) ∈ lw_tbl) (hx : x = nI N) (hN : N ≤ 1000) (hu : u.1 + 1 ≤ R.2.1 ∧ u.2 + N ≤ R.2.2) (hp : pc + 3 = pc')
    (kk : V C l K R Po pc' L (.ref S.1 :: st) (ad1 S (t, N)) (zf I S.1 0) (zf J S.1 0) (u.1 + 1, u.2 + N)) : V C l K R Po pc L (.int x :: st) S I J u := by
  intro p e s m args below meth c hI H ls locs hM hL hS h1 h2
  subst hp
  obtain ⟨hC, hx0, hb, hr, hml, hown, hlk, hh, hG, ⟨S0, I0, J0, hM0⟩, hnm⟩ := id hI
  have hcl : x.toNatClampNeg = N := by rw [hx]; exact nI_clamp (by omega)
  have hRA := (hG.arr hC (t := t) (by omega)).2
  rw [htc] at hRA
  obtain ⟨-, -, -, -, -, hfc⟩ := hRA
  refine W.anew hx0 hb hown (hw.at hC hG.1 args) (va_AO.use (A := args) (va_AO.moved hG.1.alike (va_AO.of (hC.2.1 _ hw2)))) rfl hd rfl (by rw [hx]; exact nI_pos (by omega)) (by rw [hcl]; omega) hu.1 (by rw [hcl]; exact hu.2) fun cA1 kA comp f1 f2 f3 f4 => ?_
  cases hfc.symm.trans f1
  rw [hcl, hM.1]
  generalize hH1 : H.push ({ cls := cA C t, slots := Array.replicate N .null, vm := .none } : Cell) = H1
  have z1 : H1.size = H.size + 1 := by rw [← hH1, Array.size_push]
  have e1 : H1[H.size]? = some (arrV (cA C t) N (fun _ => .null)) := by rw [← hH1, Array.getElem?_push_size, ← arrV_new]
  have o2 : ∀ q : Nat, q < H.size → H1[q]? = H[q]? := fun q hq => by rw [← hH1, Array.getElem?_push, if_neg (Nat.ne_of_lt hq)]
  refine kk p e s m args below meth c hI H1 ls locs (hM.grow (by rw [z1, hM.1]; rfl) o2 (fun k hk => ⟨?_, zf_lt hk, zf_lt hk, zf_lt hk⟩) (fun k g1 g2 => ?_)) hL (hS.grow (by rw [z1]; exact Nat.le_succ _) o2) hu.1 hu.2
  · show (if k = S.1 then _ else _) = _
    rw [if_neg (by omega)]
  · have hk : k = S.1 := by have : k < S.1 + 1 := g2; omega
    subst hk
    rw [cel_a (t := t) (n := N) (by show (if S.1 = S.1 then _ else _ : Nat × Nat) = _; rw [if_pos rfl]) (by omega)]
    show H1[c0 C + S.1]? = some (vp_cell _ _)
    rw [← hM.1, e1, vcq ht]
    congr 2
    funext j
    show _ = va_rf ((zf S.2.2 S.1 none S.1 j).map _)
    rw [zf_ge (Nat.le_refl _)]
    rfl
/-- Object's constructor -/
theorem v_obj {idx a : Nat} (hd : decode K.1 pc = .ok (.invokespecial idx, 3)) (hw : Wd (.methodLink K.2.1 idx objectInit)) (hw2 : Wd (.instanceMethod objectInit)) (hw3 : Wd (.code objectInit ⟨#[0xb1]⟩ 1 none)) (hR : 1 ≤ R.1) (hst : (st.map fun v => v.category).sum ≤ 8) (hp : pc + 3 = pc') (kk : V C l K R Po pc' L st S I J u) : V C l K R Po pc L (.ref a :: st) S I J u := by
  intro p e s m args below meth c hI H ls locs hM hL hS h1 h2
  subst hp
  obtain ⟨hC, hx, hb, hr, hml, hown, hlk, hh, hG, ⟨S0, I0, J0, hM0⟩, hnm⟩ := id hI
  have hst2 : ((st.map (cv C)).map fun v => v.category).sum ≤ 8 := by
    have : ((st.map (cv C)).map fun v => v.category) = st.map fun v => v.category := by
      rw [List.map_map]
      congr 1
      funext v
      exact cv_cat C v
    rw [this]
    exact hst
  have hrm := lv_room (m := m) (pc := pc) (ls := ls) (rest := (.ref a :: st).map (cv C)) hst2
  refine W.objInit hx hb hown (hw.at hC hG.1 args) (hw2.at hC hG.1 args) (hw3.at hC hG.1 args) rfl (by rw [hml]; exact hL.1) rfl hd hR (by show _ ≤ 36 * R.1; omega) ?_
  exact kk p e s m args below meth c hI H ls locs hM hL hS h1 h2
end Rows
end
section
/-! ===== new int[N][M] ===== -/
theorem ao_spec {a : Array Value} {s : State} {t : FieldType} (h : (Cond.arrayOver (.array t)).before a s = true) :
    ∃ comp c k, s.vm.findClass (FieldType.array t).toString = some comp ∧ (s.vm.classes.findIdx? fun (x : Class) => match x.kind with | .array component _ => component == comp | _ => false) = some c ∧ s.vm.classes[c]? = some k ∧ k.kind = .array comp (.array t) ∧ s.vm.findClass ("[" ++ (FieldType.array t).toString) = some c := by
  unfold Cond.before Cond.holds at h
  simp only [Cond.value, beq_iff_eq] at h
  cases hc : s.vm.findClass (FieldType.array t).toString with
  | none => simp [hc] at h
  | some comp =>
    cases hi : (s.vm.classes.findIdx? fun (x : Class) => match x.kind with | .array component _ => component == comp | _ => false) with
    | none =>
      rw [hc, Option.bind_some] at h
      have h' := (congrArg (fun o : Option Nat => (o.bind (fun c => (s.vm.classes[c]?).map fun (k : Class) => match k.kind with | .array _ ty => decide (ty = FieldType.array t) && decide (s.vm.findClass ("[" ++ (FieldType.array t).toString) = some c) | _ => false))) hi).symm.trans h
      simp at h'
    | some c =>
      rw [hc, Option.bind_some] at h
      have h' := (congrArg (fun o : Option Nat => (o.bind (fun c => (s.vm.classes[c]?).map fun (k : Class) => match k.kind with | .array _ ty => decide (ty = FieldType.array t) && decide (s.vm.findClass ("[" ++ (FieldType.array t).toString) = some c) | _ => false))) hi).symm.trans h
      simp only [Option.bind_some] at h'
      cases hk : s.vm.classes[c]? with
      | none => simp [hk] at h'
      | some k =>
        rw [hk, Option.map_some] at h'
        have h2 := Option.some.inj h'
        cases hkind : k.kind with
        | array comp' ty =>
          rw [hkind] at h2
          simp only [Bool.and_eq_true, decide_eq_true_eq] at h2
          have hp := Array.findIdx?_eq_some_iff_getElem.mp hi
          obtain ⟨hlt, hp1, -⟩ := hp
          have he : s.vm.classes[c] = k := by
            have := Array.getElem?_eq_getElem hlt
            rw [hk] at this
            exact (Option.some.inj this).symm
          rw [he, hkind] at hp1
          have hcc : comp' = comp := by simpa using hp1
          exact ⟨comp, c, k, rfl, hi, hk, by rw [hkind, hcc, h2.1], h2.2⟩
        | _ => rw [hkind] at h2; simp at h2
theorem ao_moved {a a' : Array Value} {t : FieldType} {u U : State} (hvm : u.vm.Alike U.vm) (h : (Cond.arrayOver (.array t)).before a u = true) : (Cond.arrayOver (.array t)).before a' U = true := by
  obtain ⟨comp, c, k, h1, h2, h3, h4, h5⟩ := ao_spec h
  obtain ⟨k', hk', he⟩ := hvm.2.2 _ _ h3
  have hi : (U.vm.classes.findIdx? fun (x : Class) => match x.kind with | .array component _ => component == comp | _ => false) = some c := by
    have hb := hvm.bare_eq
    have e1 := va_idx_bare U.vm comp
    have e2 := va_idx_bare u.vm comp
    first | rw [hb] at e2 | rw [← hb] at e2
    exact e1.symm.trans (e2.trans h2)
  have hkind : k'.kind = .array comp (.array t) := by rw [he]; exact h4
  have f1 : U.vm.findClass (FieldType.array t).toString = some comp := by rw [hvm.findClass]; exact h1
  have f2 : U.vm.findClass ("[" ++ (FieldType.array t).toString) = some c := by rw [hvm.findClass]; exact h5
  unfold Cond.before Cond.holds
  simp only [Cond.value]
  rw [f1, Option.bind_some]
  refine (congrArg (fun o : Option Nat => (o.bind (fun c => (U.vm.classes[c]?).map fun (k : Class) => match k.kind with | .array _ ty => decide (ty = FieldType.array t) && decide (U.vm.findClass ("[" ++ (FieldType.array t).toString) = some c) | _ => false) == some true)) hi).trans ?_
  simp [hk', hkind, f2]
theorem vr_out (c : ClassId) (N h0 : Nat) : ∀ i : Nat, Jvm.Free.Multi.outerC c N h0 i = arrV c N (fun j => va_rf (if j < i then some (h0 + 1 + j) else none))
  | 0 => by
    show ({ cls := c, slots := Array.replicate N .null, vm := .none } : Cell) = _
    rw [arrV_new]
    refine congrArg (arrV c N) (funext fun j => ?_)
    simp [va_rf]
  | i + 1 => by
    show (Jvm.Free.Multi.outerC c N h0 i).setSlot i (.ref (h0 + 1 + i)) = _
    rw [vr_out c N h0 i, arrV_store]
    refine congrArg (arrV c N) (funext fun j => ?_)
    by_cases e : j = i
    · subst e
      simp [updV, va_rf]
    · by_cases h : j < i
      · simp [updV, e, h, Nat.lt_succ_of_lt h]
      · simp [updV, e, h, show ¬ j < i + 1 by omega]
section Rows
variable {C : CT} {l : Launch} {K : KT} {R : RT} {Po : PoT} {pc pc' : Nat} {L L' : LT} {st : List Value} {S S' : ShT} {I I' : DI} {J J' : DJ} {u : Nat × Nat}
theorem v_mna {N M idx : Nat} {x y : Int32} (hd : decode K.1 pc = .ok (.multianewarray idx 2, 4)) (hw1 : Wd (.classLink K.2.1 idx "[[I")) (hw2 : Cond.arrayOver (.array .int) ∈ lw_tbl) (hw3 : Wd (.arrayClass .int)) (hx : x = nI N) (hy : y = nI M) (hN : N ≤ 1000) (hM1 : M ≤ 1000) (hu : u.1 + (1 + N) ≤ R.2.1 ∧ u.2 + (N + N * M) ≤ R.2.2) (hp : pc + 4 = pc')
    (kk : V C l K R Po pc' L (.ref S.1 :: st) (ad2 S N M) (zf I S.1 0) (zf J S.1 0) (u.1 + 1 + N, u.2 + N + N * M)) : V C l K R Po pc L (.int y :: .int x :: st) S I J u := by
  intro p e s m args below meth c hI H ls locs hM hL hS h1 h2 T hT X
  subst hT
  subst hp
  obtain ⟨hC, hx0, hb, hr, hml, hown, hlk, hh, hG, ⟨S0, I0, J0, hM0⟩, hnm⟩ := id hI
  have cx : x.toNatClampNeg = N := by rw [hx]; exact nI_clamp (by omega)
  have cy : y.toNatClampNeg = M := by rw [hy]; exact nI_clamp (by omega)
  have hRA : s.vm.findClass "[I" = some (cA C 32) := (hG.arr hC (t := 32) (by omega)).2
  have hRA2 : s.vm.findClass "[[I" = some (cA C 37) := (hG.arr hC (t := 37) (by omega)).2
  obtain ⟨vm₁, cA1, comp, -, fA1, fC, hO, -, X', step⟩ := X.multianewarray2F (ty := .int) hx0 hown (hw1.at hC hG.1 args) (ao_moved hG.1.alike (hC.2.1 _ hw2)) (hw3.at hC hG.1 args) (g := F0 m pc ls ((.int y :: .int x :: st).map (cv C))) rfl (by rw [hb]; exact hd) (n := x) (k := y) (rest := st.map (cv C)) rfl (by rw [hx]; exact nI_pos (by omega)) (by rw [hy]; exact nI_pos (by omega)) (by rw [cx]; omega) (by rw [cy]; simp only [componentBytes]; omega) (by rw [cy]; omega) rfl rfl (by rw [cx]; exact hu.1) (by rw [cx, cy]; exact hu.2)
  cases hRA.symm.trans (show s.vm.findClass "[I" = some comp from fC)
  cases hRA2.symm.trans (show s.vm.findClass "[[I" = some cA1 from fA1)
  rw [cx, cy] at X' step
  generalize hF : Jvm.Free.Multi.fill (T.setVm vm₁) (cA C 37) (cA C 32) N M (defaultValue .int) N = F at X' step
  have hTh : (T.setVm vm₁).heap = T.heap := rfl
  obtain ⟨f1, f2, -, -⟩ := Jvm.Free.Multi.fill_facts (T.setVm vm₁) (cA C 37) (cA C 32) N M (defaultValue .int) N
  rw [hF, hTh] at f1 f2
  have hold : ∀ q : Nat, q < T.heap.size → F.heap[q]? = T.heap[q]? := fun q hq => by
    have := Jvm.Free.Multi.fill_old (T.setVm vm₁) (cA C 37) (cA C 32) N M (defaultValue .int) (a := q) (by rw [hTh]; exact hq) N
    rw [hF, hTh] at this
    exact this
  have hrow : ∀ j : Nat, j < N → F.heap[T.heap.size + 1 + j]? = some (arrV (cA C 32) M (fun _ => .int 0)) := fun j hj => by
    have := Jvm.Free.Multi.fill_inner (T.setVm vm₁) (cA C 37) (cA C 32) N M (defaultValue .int) N j hj
    rw [hF, hTh] at this
    rw [this, ← arrV_new]
    rfl
  rw [vr_out] at f2
  have hMR : MR C (ad2 S N M) (zf I S.1 0) (zf J S.1 0) F.heap := by
    refine hM.grow (by rw [f1, hM.1]; show c0 C + S.1 + 1 + N = c0 C + (S.1 + 1 + N); omega) hold (fun k hk => ⟨?_, ?_, zf_lt hk, zf_lt hk⟩) (fun k g1 g2 => ?_)
    · show (if k = S.1 then _ else if S.1 < k then _ else _) = _
      rw [if_neg (by omega), if_neg (by omega)]
    · funext j
      show (if k = S.1 then _ else zf S.2.2 S.1 none k j) = _
      rw [if_neg (by omega), zf_lt hk]
    · have g2 : k < S.1 + 1 + N := g2
      by_cases e0 : k = S.1
      · subst e0
        rw [cel_a (t := 37) (n := N) (by show (if S.1 = S.1 then _ else _ : Nat × Nat) = _; rw [if_pos rfl]) (by omega)]
        show F.heap[c0 C + S.1]? = some (vp_cell _ _)
        rw [← hM.1, f2, vcq (by omega)]
        congr 2
        funext j
        show _ = va_rf ((if S.1 = S.1 then (if j < N then some (S.1 + 1 + j) else none) else _ : Option Nat).map _)
        rw [if_pos rfl]
        by_cases hj : j < N
        · rw [if_pos hj, if_pos hj, hM.1]
          exact congrArg Value.ref (show c0 C + S.1 + 1 + j = c0 C + (S.1 + 1 + j) by omega)
        · rw [if_neg hj, if_neg hj]
          rfl
      · rw [cel_a (t := 32) (n := M) (by show (if k = S.1 then _ else if S.1 < k then _ else _ : Nat × Nat) = _; rw [if_neg e0, if_pos (by omega)]) (by omega)]
        show F.heap[c0 C + k]? = some (vp_cell _ _)
        have := hrow (k - S.1 - 1) (by omega)
        rw [show T.heap.size + 1 + (k - S.1 - 1) = c0 C + k by rw [hM.1]; omega] at this
        rw [this, vc32]
        congr 2
        funext j
        rw [zf_ge g1]
  obtain ⟨t, a1, b1⟩ := kk p e s m args below meth c hI F.heap ls locs hMR hL (hS.grow (by rw [f1]; omega) hold) (by have := hu.1; show u.1 + 1 + N ≤ _; omega) (by have := hu.2; show u.2 + N + N * M ≤ _; omega) F rfl X'
  refine ⟨t, step t ?_, b1⟩
  have hsz : T.heap.size = c0 C + S.1 := hM.1
  rw [hsz]
  exact a1
end Rows
end
section
/-! ===== THE WORDS OF A THROW, at every state of the run ===== -/
theorem ls_moved {C : CT} {o n d : String} {a a' : Array Value} (h : (Cond.laysStatic o n d).before a (cS C) = true) {U : State} (hG : GG C U) : (Cond.laysStatic o n d).before a' U = true := by
  obtain ⟨c, k, i, f, ad, cell, h1, h2, h3, h4, h5, h6, h7, h8, h9⟩ := Cond.laysStatic_spec h
  obtain ⟨k', g1, g2⟩ := State.fieldFound?_setVm hG.1.alike h2
  have e1 : U.vm.findClass o = some c := by rw [hG.1.alike.findClass]; exact h1
  have e2 : U.fieldFound? o n d = some (c, k', i, f) := g1
  have hlt : ad < c0 C := (Array.getElem?_eq_some_iff.mp h5).1
  have e3 : U.heap[ad]? = some cell := by rw [hG.2 ad hlt]; exact h5
  have e4 : k'.statics = some ad := by rw [g2]; exact h4
  have e5 : k'.staticTypes[f.slot]? = some f.type := by rw [g2]; exact h9
  simp [Cond.before, Cond.holds, Cond.value, e1, e2, e3, e4, e5, h3, h6, h7, h8]
theorem ir_moved {C : CT} {o n d : String} {a a' : Array Value} (h : (Cond.laysStatic o n d).before a (cS C) = true) (hr : (Cond.isRef (.static o n d)).before a (cS C) = true) {U : State} (hG : GG C U) : (Cond.isRef (.static o n d)).before a' U = true := by
  obtain ⟨c, k, i, f, ad, cell, h1, h2, h3, h4, h5, h6, h7, h8, h9⟩ := Cond.laysStatic_spec h
  obtain ⟨k', g1, g2⟩ := State.fieldFound?_setVm hG.1.alike h2
  have e2 : U.fieldFound? o n d = some (c, k', i, f) := g1
  have hlt : ad < c0 C := (Array.getElem?_eq_some_iff.mp h5).1
  have e3 : U.heap[ad]? = some cell := by rw [hG.2 ad hlt]; exact h5
  have e4 : k'.statics = some ad := by rw [g2]; exact h4
  have ev : (Term.static o n d).eval a (cS C) none [] (cS C) = cell.slots[f.slot]? := by
    simp [Term.eval, State.fieldNamed?, h2, h3, h4, h5, h6]
  have ev' : (Term.static o n d).eval a' U none [] U = cell.slots[f.slot]? := by
    simp [Term.eval, State.fieldNamed?, e2, h3, e3, e4, h6]
  simp only [Cond.before, Cond.holds, Cond.value, ev, ev'] at hr ⊢
  exact hr
/-- a word that holds at every state of the run, by its form -/
def okX (w : Cond) : Bool := match w with
  | .castable _ _ => decide (w ∈ lw_tbl)
  | .declares _ => decide (w ∈ lw_tbl)
  | .laysStatic _ _ _ => decide (w ∈ lw_tbl)
  | .isRef (.static o n d) => (decide (o = "java/lang/Throwable" ∧ n = "UNASSIGNED_STACK" ∧ d = "[Ljava/lang/StackTraceElement;") || decide (o = "java/lang/Throwable" ∧ n = "SUPPRESSED_SENTINEL" ∧ d = "Ljava/util/List;"))
  | w => goodWord w && decide (w ∈ lw_tbl)
theorem ls1 : Cond.laysStatic "java/lang/Throwable" "UNASSIGNED_STACK" "[Ljava/lang/StackTraceElement;" ∈ lw_tbl := by decide +kernel
theorem ls2 : Cond.laysStatic "java/lang/Throwable" "SUPPRESSED_SENTINEL" "Ljava/util/List;" ∈ lw_tbl := by decide +kernel
theorem okX_at {w : Cond} (h : okX w = true) {C : CT} {l : Launch} (hC : OKC C l) {U : State} (hG : GG C U) (a : Array Value) : w.before a U = true := by
  unfold okX at h
  split at h
  · exact va_Nw.use rfl (va_Nw.warmC hG.1 (va_Nw.of rfl (hC.2.1 _ (of_decide_eq_true h))))
  · exact va_Nw.use rfl (va_Nw.warmD hG.1 (va_Nw.of rfl (hC.2.1 _ (of_decide_eq_true h))))
  · exact ls_moved (hC.2.1 _ (of_decide_eq_true h)) hG
  · rename_i o n d
    rw [Bool.or_eq_true] at h
    rcases h with h | h
    · obtain ⟨rfl, rfl, rfl⟩ := of_decide_eq_true h
      exact ir_moved (hC.2.1 _ ls1) hC.2.2.2.2.2.2.1 hG
    · obtain ⟨rfl, rfl, rfl⟩ := of_decide_eq_true h
      exact ir_moved (hC.2.1 _ ls2) hC.2.2.2.2.2.2.2.1 hG
  · rw [Bool.and_eq_true] at h
    exact Wd.at ⟨of_decide_eq_true h.2, h.1⟩ hC hG.1 a
def exN : List String := ["java/lang/RuntimeException", "java/lang/Exception"]
/-- all words of a throw but the link of its own constructor -/
def exW (X : String) : List Cond := (Bundle.throwableAtoms ++ Bundle.chain0Atoms X exN) ++ (Bundle.ownAtoms0 "" 0 X exN).drop 40
theorem exW9 : (exW (kN 9)).all okX = true := by decide +kernel
theorem exW10 : (exW (kN 10)).all okX = true := by decide +kernel
theorem exW11 : (exW (kN 11)).all okX = true := by decide +kernel
end
section
/-! ===== THE METHOD AS IF IT BEGAN HERE: what has been written and made so far is old ===== -/
section Anew
variable {p : Program} {l : Launch} {e : Env} {R : Room} {s : State} {m : MethodId} {args : Array Value} {below : List Frame} {meth : Method} {c : Code} {T : State} {locs : List Loc} {cells slots : Nat}
theorem st_anew (X : Stand p l e R s m args below meth c T locs cells slots) (hc : cells ≤ R.cells) (hs : slots ≤ R.slots) :
    Stand p l e { frames := R.frames, cells := R.cells - cells, slots := R.slots - slots, locals := R.locals } (T.setFrames (.invoking m args :: below)) m args below meth c T [] 0 0 := by
  obtain ⟨g₀, hfr⟩ := X.frames_eq
  have hcur : T.cur < T.threads.size := State.cur_lt_of_frames hfr
  have hf : (T.setFrames (.invoking m args :: below)).frames = .invoking m args :: below := State.frames_setFrames _ hcur
  have hlim : e.platform.stackLimits (T.setFrames (.invoking m args :: below)).me = e.platform.stackLimits s.me := by rw [State.stackLimits_setFrames, X.limits]
  have hbyt : (T.setFrames (.invoking m args :: below)).me.stackBytes = s.me.stackBytes := by rw [State.stackBytes_setFrames, X.bytes]
  have hloc : (T.setFrames (.invoking m args :: below)).localsInUse = s.localsInUse := by
    rw [State.localsInUse_invoking hf (show (T.setFrames (.invoking m args :: below)).vm.method? m = some meth from X.method') X.code, State.localsInUse_invoking X.frames X.method X.code]
  refine ⟨X.admits, X.cas, X.clock, hf, ?_, ?_, X.method', X.code, X.here, X.tail, State.WarmedH.refl _, ?_, ?_, ?_⟩
  · have hr := X.room
    have h1 := X.heapSize
    have h2 := X.used
    have h3 : (T.setFrames (.invoking m args :: below)).slotsTrue = true := X.book
    have h4 : (T.setFrames (.invoking m args :: below)).heap = T.heap := rfl
    have h5 : (T.setFrames (.invoking m args :: below)).slotsUsed = T.slotsUsed := rfl
    have h6 : (T.setFrames (.invoking m args :: below)).frames.length = s.frames.length := by rw [hf, X.frames]
    simp only [State.hasRoom, Bool.and_eq_true, decide_eq_true_eq] at hr ⊢
    rw [hloc, hlim, hbyt, h3, h4, h5, h6]
    obtain ⟨⟨⟨⟨a1, a2⟩, a3⟩, a4⟩, a5⟩ := hr
    exact ⟨⟨⟨⟨a1, a2⟩, by omega⟩, by omega⟩, rfl⟩
  · have hh := X.hears
    have hal := X.warmed.alike
    unfold State.hears at hh ⊢
    split
    · simp only at hh ⊢
      rw [State.code?_eq] at hh ⊢
      show (((T.vm.method? _).bind _).bind _).isSome = true
      rw [hal.method?]
      exact hh
    · rfl
    · rfl
    · rename_i h1 h2 h3
      have hh' : (s.vm.method? m).any (fun x => x.sig.returnType.isNone) = true := by
        split at hh
        · exact absurd rfl (h1 _ _)
        · exact absurd rfl (h2 _ _)
        · exact absurd rfl (h3 _ _)
        · exact hh
      show (T.vm.method? m).any _ = true
      rw [X.method']
      rw [X.method] at hh'
      exact hh'
  · rw [State.stackLimits_setFrames]
  · rw [State.stackBytes_setFrames]
  · obtain ⟨t, ht, -⟩ := State.frames_cons hf
    have h := (State.sameButNew.refl (T.setFrames (.invoking m args :: below)) ht).setFrames T.frames (State.cur_lt_of_frames hf)
    rw [State.setFrames_setFrames] at h
    obtain ⟨t2, ht2, -⟩ := State.frames_cons hfr
    rw [State.setFrames_self ht2] at h
    exact h
end Anew
end
section
/-! ===== throw new X() ===== -/
theorem exW_ok {ci : Nat} (h : ci = 9 ∨ ci = 10 ∨ ci = 11) : ∀ w ∈ exW (kN ci), okX w = true := by
  rcases h with rfl | rfl | rfl
  · exact List.all_eq_true.mp exW9
  · exact List.all_eq_true.mp exW10
  · exact List.all_eq_true.mp exW11
theorem ex_atoms {own : String} {ic : Nat} {X : String} {w : Cond} (h : w ∈ Bundle.ownAtoms0 own ic X exN) : w = .methodLink own ic (Bundle.init0 X) ∨ w ∈ exW X := by
  unfold exW
  unfold Bundle.ownAtoms0 at h
  rcases List.mem_append.mp h with h | h
  · exact Or.inr (List.mem_append_left _ h)
  · rcases List.mem_cons.mp h with h | h
    · exact Or.inl h
    · exact Or.inr (List.mem_append_right _ h)
theorem cell_same {c c' : Cell} (h1 : c' = { c with slots := c'.slots }) (h2 : c'.slots.size = c.slots.size) (h3 : ∀ i : Nat, c'.slots[i]? = c.slots[i]?) : c' = c := by
  have h4 : c'.slots = c.slots := Array.ext_getElem? h3
  rw [h1, h4]
section Rows
variable {C : CT} {l : Launch} {K : KT} {R : RT} {Po : PoT} {pc pc' : Nat} {L L' : LT} {st : List Value} {S S' : ShT} {I I' : DI} {J J' : DJ} {u : Nat × Nat}
theorem v_throw {ci idx ic : Nat} (hci : ci = 9 ∨ ci = 10 ∨ ci = 11) (hd0 : decode K.1 pc = .ok (.new idx, 3)) (hd3 : decode K.1 (pc + 3) = .ok (.dup, 1)) (hd4 : decode K.1 (pc + 4) = .ok (.invokespecial ic, 3)) (hd7 : decode K.1 (pc + 7) = .ok (.athrow, 1)) (hw1 : Wd (.classLink K.2.1 idx (kN ci))) (hw2 : Wd (.instantiable (kN ci) 6)) (hw3 : Wd (.initialized (kN ci))) (hw4 : Wd (.methodLink K.2.1 ic (Bundle.init0 (kN ci)))) (hh0 : K.2.2.2.1 = []) (hR : 6 ≤ R.1) (hu : u.1 + 1 ≤ R.2.1 ∧ u.2 + 6 ≤ R.2.2)
    (hp : Po (.inr ci) (ad1 S (ci, 0)) (zf I S.1 0) (zf J S.1 0)) : V C l K R Po pc L [] S I J u := by
  intro p e s m args below meth c hI H ls locs hM hL hS h1 h2 T hT X
  subst hT
  obtain ⟨hC, hx, hb, hr, hml, hown, hlk, hh, hG, ⟨S0, I0, J0, hM0⟩, hnm⟩ := id hI
  have hc : ci < 12 := by omega
  have X' := st_anew X (show u.1 ≤ (RM R).cells from h1) (show u.2 ≤ (RM R).slots from h2)
  have hGT : GG C T := hG.on hS hM0.z rfl X.warmed
  generalize hs' : T.setFrames (.invoking m args :: below) = s' at X'
  have hG' : GG C s' := by rw [← hs']; exact hGT
  have hh' : s'.heap = T.heap := by rw [← hs']; rfl
  have hvm' : s'.vm = T.vm := by rw [← hs']; rfl
  have hown' : s'.vm.findClass K.2.1 = some m.cls := by rw [hvm', X.warmed.alike.findClass]; exact hown
  have hKn := (hG'.K hC).1 ci _ (vw_at hc)
  have hw : W p l e { frames := (RM R).frames, cells := (RM R).cells - u.1, slots := (RM R).slots - u.2, locals := (RM R).locals } s' m args below meth c T.heap [] 0 0 (fun t => t.status = .running ∧ Ended t below (.threw (c0 C + S.1)) ∧ s'.WarmedH t.vm ∧ s'.sameButNew ({ t with vm := s'.vm } : State) [] 1 6 ∧ ∃ ce, t.heap[c0 C + S.1]? = some ce ∧ ce.cls = (cD C).1 ci ∧ ce.vm = .none) (F0 m pc ls []) := by
    refine W.newcK hx hb hown' (hw1.at hC hG'.1 args) (hw2.at hC hG'.1 args) (hw3.at hC hG'.1 args) rfl hd0 (by show 0 + 1 ≤ R.2.1 - u.1; omega) (by show 0 + 6 ≤ R.2.2 - u.2; omega) hKn.2.1 hM.1 fun H1 kC hkC e1 z1 o1 => ?_
    refine lv_dup (rest := []) hx hb (va := .ref (c0 C + S.1)) hd3 rfl ?_
    intro T1 hT1 X1
    subst hT1
    obtain ⟨U, st1, b1, b2, b3, b4, ce, b5, b6⟩ := X1.ctorThrow0 (own := K.2.1) (cls := kN ci) (names := exN) (ic := ic) hx (Launch.traces_off hC.1 X1.admits) hown' (by rcases hci with rfl | rfl | rfl <;> decide +kernel) (by decide +kernel)
      (fun a ha => by
        rcases ex_atoms ha with rfl | ha
        · exact hw4.at hC hG'.1 args
        · exact okX_at (exW_ok hci a ha) hC hG' args)
      (fun z hz => by cases hz)
      (a := c0 C + S.1) hKn.2.1 hkC e1 (by rw [hh', hM.1]; exact Nat.le_refl _) (g := F0 m (pc + 3 + 1) ls [.ref (c0 C + S.1), .ref (c0 C + S.1)]) rfl (by rw [hml]; exact hL.1) rfl rfl (rest := []) rfl (by rw [hb]; exact hd4) (by rw [hb]; exact hd7)
      (fun x hx9 => by
        rw [hh0] at hh
        have h9 : c.exceptionTable.toList = [] := List.map_eq_nil_iff.mp hh
        rw [h9] at hx9
        cases hx9)
      (by show 2 + 3 < R.1; omega) (by have h9 := lv_room (m := m) (pc := pc + 3 + 1) (ls := ls) (rest := [.ref (c0 C + S.1), .ref (c0 C + S.1)]) (st := [.ref (c0 C + S.1)]) (Nat.le_of_ble_eq_true rfl); show 2 * (F0 m (pc + 3 + 1) ls _).monitorRoom + ([Value.ref (c0 C + S.1)].map fun v => v.category).sum + (13 * (2 + 1) + 41) ≤ 36 * R.1; omega) hlk
    refine ⟨U, st1, b1, b2, b3, b4, ce, b5, ?_, b6.vm⟩
    exact Option.some.inj (b6.cls.symm.trans hKn.2.1)
  obtain ⟨t, a1, a2, a3, a4, a5, ce, a6, a7, a8⟩ := hw T rfl X'
  have hlt : c0 C + S.1 < t.heap.size := (Array.getElem?_eq_some_iff.mp a6).1
  have hz : t.heap.size = c0 C + (S.1 + 1) := by
    have g1 : t.heap.size ≤ s'.heap.size + 1 := a5.2.2.1
    rw [hh', hM.1] at g1
    omega
  have hold : ∀ q, q < T.heap.size → t.heap[q]? = T.heap[q]? := by
    intro q hq
    have hq1 : s'.heap[q]? = some T.heap[q] := by rw [hh']; exact Array.getElem?_eq_getElem hq
    obtain ⟨c9, g1, g2, g3, g4⟩ := a5.2.2.2.2.2 q _ hq1
    have g5 := cell_same g2 g3 (fun i => g4 i (by simp))
    have g1 : t.heap[q]? = some c9 := g1
    rw [g1, g5]
    exact (Array.getElem?_eq_getElem hq).symm
  refine ⟨t, a1, .threw (c0 C + S.1), a2, a3, ⟨.inr ci, _, _, _, hp, ?_, ?_, S.1, rfl, by show (if S.1 = S.1 then _ else _ : Nat × Nat).1 = ci; rw [if_pos rfl], rfl⟩, locs, ?_, ?_, hS.2.2⟩
  · refine hM.grow hz hold (fun k hk => ⟨?_, zf_lt hk, zf_lt hk, zf_lt hk⟩) (fun k g1 g2 => ?_)
    · show (if k = S.1 then _ else _) = _
      rw [if_neg (by omega)]
    · have hk : k = S.1 := by have : k < S.1 + 1 := g2; omega
      subst hk
      rw [cel_o (ci := ci) (by show (if S.1 = S.1 then _ else _ : Nat × Nat).1 = ci; rw [if_pos rfl]) hc]
      refine ⟨_, vw_at hc, ce, a6, a7, a8, fun j hj => ?_⟩
      have hkind : kF ci = 0 := by rcases hci with rfl | rfl | rfl <;> rfl
      rw [show (kN ci, kT ci, kF ci).2.2 = kF ci from rfl, hkind] at hj
      exact absurd hj (Nat.not_lt_zero _)
  · exact ⟨State.WarmedH.trans hG'.1 a4, fun q hq => by rw [hold q (by rw [hM.1]; omega)]; exact hGT.2 q hq⟩
  · exact State.WarmedH.trans X.warmed (show T.WarmedH t.vm by rw [← hs'] at a4; exact a4)
  · have h9 : T.sameButNew ({ t with vm := T.vm } : State) [] 1 6 := by
      rw [← hs'] at a5
      obtain ⟨g1, g2⟩ := a5
      refine ⟨?_, g2⟩
      rw [State.setFrames_setFrames] at g1
      exact g1
    have h8 := X.same.trans (h9.setVm s.vm)
    rw [List.append_nil] at h8
    exact h8.mono hu.1 hu.2
end Rows
end
section
/-! ===== A THROW IS CAUGHT ===== -/
section Find
variable {e : Env} {s : State} {f : JFrame} {a : Addr}
theorem fh_yes {Q : Handler → Pre} {E : CtlPost} {d : Bool} {acts : List Action} {x : ExceptionTableEntry} {t : List ExceptionTableEntry} {c : ClassId} {cell : Cell} (hx : covers x f.pc = true) (h0 : x.catchType ≠ 0)
    (hl : s.vm.ClassLinks e.platform f.method.cls x.catchType c) (hcell : s.heap[a]? = some cell) (hobj : ∀ k, cell.vm ≠ .statics k) (hk : ∃ k, s.vm.classes[cell.cls]? = some k) (hc : ∃ k, s.vm.classes[c]? = some k) (hfit : s.vm.assignable cell.cls c = true) :
    wp (findHandler.go f a (x :: t)) Q E e d acts s ↔ Q (.found x.handlerPc) d acts (s.setVm (s.vm.noted f.method.cls x.catchType (.cls c))) := by
  simp only [covers] at hx
  obtain ⟨ha, ht⟩ := (resolveClass_links e.toSetting hl).op (op := VmOp.resolveClass f.method.cls x.catchType) rfl
  have hal : s.vm.Alike (s.vm.noted f.method.cls x.catchType (.cls c)) := (Vm.Alike.refl s.vm).noted _ _ _
  obtain ⟨k1, hk1⟩ := hk
  obtain ⟨k2, hk2⟩ := hc
  obtain ⟨k1', hk1', -⟩ := hal.2.2 _ _ hk1
  obtain ⟨k2', hk2', -⟩ := hal.2.2 _ _ hk2
  have hfit' : (s.vm.noted f.method.cls x.catchType (.cls c)).assignable cell.cls c = true := by rw [hal.assignable]; exact hfit
  simp [findHandler.go, hx, h0, ha, ht, hcell, hobj, hk1', hk2', hfit', VmOp.dirties, VmOp.acts]
theorem fh_no {Q : Handler → Pre} {E : CtlPost} {d : Bool} {acts : List Action} {x : ExceptionTableEntry} {t : List ExceptionTableEntry} {c : ClassId} {cell : Cell} (hx : covers x f.pc = true) (h0 : x.catchType ≠ 0)
    (hl : s.vm.ClassLinks e.platform f.method.cls x.catchType c) (hcell : s.heap[a]? = some cell) (hobj : ∀ k, cell.vm ≠ .statics k) (hk : ∃ k, s.vm.classes[cell.cls]? = some k) (hc : ∃ k, s.vm.classes[c]? = some k) (hno : s.vm.assignable cell.cls c = false) :
    wp (findHandler.go f a (x :: t)) Q E e d acts s ↔ wp (findHandler.go f a t) Q E e d acts (s.setVm (s.vm.noted f.method.cls x.catchType (.cls c))) := by
  simp only [covers] at hx
  obtain ⟨ha, ht⟩ := (resolveClass_links e.toSetting hl).op (op := VmOp.resolveClass f.method.cls x.catchType) rfl
  have hal : s.vm.Alike (s.vm.noted f.method.cls x.catchType (.cls c)) := (Vm.Alike.refl s.vm).noted _ _ _
  obtain ⟨k1, hk1⟩ := hk
  obtain ⟨k2, hk2⟩ := hc
  obtain ⟨k1', hk1', -⟩ := hal.2.2 _ _ hk1
  obtain ⟨k2', hk2', -⟩ := hal.2.2 _ _ hk2
  have hno' : (s.vm.noted f.method.cls x.catchType (.cls c)).assignable cell.cls c = false := by rw [hal.assignable]; exact hno
  simp [findHandler.go, hx, h0, ha, ht, hcell, hobj, hk1', hk2', hno', VmOp.dirties, VmOp.acts]
end Find
/-- a row of the table that the search passes, by its words at the run's start; one that catches -/
def rwNo (C : CT) (l : Launch) (own : String) (ci : Nat) (x : ExceptionTableEntry) (pc : Nat) : Prop := covers x pc = true ∧ x.catchType ≠ 0 ∧ ∃ cj, (cj = 9 ∨ cj = 10 ∨ cj = 11) ∧ ci ≠ cj ∧ Wd (.classLink own x.catchType (kN cj))
def rwYes (C : CT) (l : Launch) (own : String) (ci : Nat) (x : ExceptionTableEntry) (pc : Nat) : Prop := covers x pc = true ∧ x.catchType ≠ 0 ∧ Wd (.classLink own x.catchType (kN ci))
theorem link_at {C : CT} {l : Launch} (hC : OKC C l) {U : State} (hG : (cS C).WarmedH U.vm) {own : String} {d : ClassId} (hown : U.vm.findClass own = some d) {idx cj : Nat} (hw : Wd (.classLink own idx (kN cj))) (hcj : cj < 12) {pl : Platform} (hpl : pl.magicAccessors = ({} : Platform).magicAccessors) :
    U.vm.ClassLinks pl d idx ((cD C).1 cj) ∧ ∃ k, U.vm.classes[(cD C).1 cj]? = some k := by
  obtain ⟨c', hc', hl⟩ := Cond.classLink_spec hown (hw.at hC hG #[]) pl hpl
  have hcl := ((va_K.moved hG.alike hC.2.2.1).1 cj _ (vw_at hcj)).2
  cases hcl.1.symm.trans hc'
  obtain ⟨k, hk, -⟩ := hcl.2
  exact ⟨hl, k, hk⟩
theorem find_to {C : CT} {l : Launch} (hC : OKC C l) {e : Env} (hpl : e.platform.magicAccessors = ({} : Platform).magicAccessors) {own : String} {ci : Nat} (hci : ci = 9 ∨ ci = 10 ∨ ci = 11) {f : JFrame} {a : Addr} (x : ExceptionTableEntry) (rest : List ExceptionTableEntry) (hx : rwYes C l own ci x f.pc) :
    ∀ (pre : List ExceptionTableEntry) (U : State), (cS C).WarmedH U.vm → U.vm.findClass own = some f.method.cls → (∃ cell, U.heap[a]? = some cell ∧ cell.cls = (cD C).1 ci ∧ cell.vm = .none) → (∀ y ∈ pre, rwNo C l own ci y f.pc) →
      ∃ vm', U.WarmedH vm' ∧ ∀ (Q : Handler → Pre) (E : CtlPost) (d : Bool) (acts : List Action), wp (findHandler.go f a (pre ++ x :: rest)) Q E e d acts U ↔ Q (.found x.handlerPc) d acts (U.setVm vm') := by
  intro pre
  have hc : ci < 12 := by omega
  induction pre with
  | nil =>
    intro U hW hown hcell _
    obtain ⟨cell, g1, g2, g3⟩ := hcell
    obtain ⟨x1, x2, x3⟩ := hx
    obtain ⟨hl, k, hk⟩ := link_at hC hW hown x3 hc hpl
    have hat : ClassAt U (kN ci) ((cD C).1 ci) := ((va_K.moved hW.alike hC.2.2.1).1 ci _ (vw_at hc)).2
    refine ⟨U.vm.noted f.method.cls x.catchType (.cls ((cD C).1 ci)), ?_, fun Q E d acts => ?_⟩
    · obtain ⟨dk, _, _, kt, hd, _, _, _, _, hkt, _, hopen⟩ := hl.here
      exact (State.WarmedH.refl U).noted hd hopen (State.rightAt_cls hl)
    · exact fh_yes x1 x2 hl g1 (fun k h => by rw [g3] at h; cases h) (by rw [g2]; exact ⟨k, hk⟩) ⟨k, hk⟩ (by rw [g2]; exact va_assign hat)
  | cons y ys ih =>
    intro U hW hown hcell hp
    obtain ⟨cell, g1, g2, g3⟩ := id hcell
    obtain ⟨y1, y2, cj, hcj, hne, y3⟩ := hp y List.mem_cons_self
    obtain ⟨hl, k, hk⟩ := link_at hC hW hown y3 (by omega) hpl
    have hcl := ((va_K.moved hW.alike hC.2.2.1).1 ci _ (vw_at hc)).2
    obtain ⟨k0, hk0, -⟩ := hcl.2
    have hno : U.vm.assignable ((cD C).1 ci) ((cD C).1 cj) = false := by
      have h9 := hC.2.2.2.2.2.2.2.2 ci cj hci hcj hne
      have hv := Cond.holds_not_iff.mp h9
      have f1 := (hC.2.2.1.1 ci _ (vw_at hc)).2.1
      have f2 := (hC.2.2.1.1 cj _ (vw_at (show cj < 12 by omega))).2.1
      simp only [Cond.value, f1, f2] at hv
      rw [hW.alike.assignable]
      exact Option.some.inj hv
    have hW2 : U.WarmedH (U.vm.noted f.method.cls y.catchType (.cls ((cD C).1 cj))) := by
      obtain ⟨dk, _, _, kt, hd, _, _, _, _, hkt, _, hopen⟩ := hl.here
      exact (State.WarmedH.refl U).noted hd hopen (State.rightAt_cls hl)
    obtain ⟨vm', w1, w2⟩ := ih (U.setVm (U.vm.noted f.method.cls y.catchType (.cls ((cD C).1 cj)))) (State.WarmedH.trans hW hW2) (by rw [show (U.setVm (U.vm.noted f.method.cls y.catchType (.cls ((cD C).1 cj)))).vm = U.vm.noted f.method.cls y.catchType (.cls ((cD C).1 cj)) from rfl, hW2.alike.findClass]; exact hown) hcell (fun z hz => hp z (List.mem_cons_of_mem _ hz))
    refine ⟨vm', State.WarmedH.trans hW2 w1, fun Q E d acts => ?_⟩
    rw [List.cons_append, fh_no y1 y2 hl g1 (fun k h => by rw [g3] at h; cases h) (by rw [g2]; exact ⟨k0, hk0⟩) ⟨k, hk⟩ (by rw [g2]; exact hno)]
    exact w2 Q E d acts
theorem caught_to {tb : Tables} {e : Env} {s target : State} {g : JFrame} {c : Code} {below : List Frame} {a : Addr} (h : At s g.method c below) {pc : Nat} {vm' : Vm}
    (hfind : ∀ (Q : Handler → Pre) (E : CtlPost) (d : Bool) (acts : List Action), wp (findHandler g a) Q E e d acts ((s.setTop g).pushFrame (.throwing a)) ↔ Q (.found pc) d acts (((s.setTop g).pushFrame (.throwing a)).setVm vm'))
    (hrest : Steps tb e below ((s.setVm vm').setTop { g with pc := pc, stack := [.ref a] }) target) : Steps tb e below ((s.setTop g).pushFrame (.throwing a)) target := by
  obtain ⟨hgo, hw⟩ := h.throwing a
  refine Steps.head hgo hw ?_
  have hst : (stepThrowing e ((s.setTop g).pushFrame (.throwing a)) a (.java g :: s.frames.tail)).Is ((((s.setTop g).pushFrame (.throwing a)).setVm vm').setFrames (.java { g with pc := pc, stack := [.ref a] } :: s.frames.tail)) [] := by
    simp only [stepThrowing, searchFrame, vmDo]
    generalize hr : Sem.go _ e false [] ((s.setTop g).pushFrame (.throwing a)) = res
    obtain ⟨as, rfl, ha⟩ := Sem.eq_ok_of hr (a := Handler.found pc) (s' := ((s.setTop g).pushFrame (.throwing a)).setVm vm') (acts' := []) (by simp [hfind _ _ _ _])
    exact ⟨rfl, ha⟩
  obtain ⟨g₀, hg⟩ := Option.isSome_iff_exists.mp h.top
  obtain ⟨r, hr⟩ := State.topJava?_eq_some.mp hg
  rw [hr, List.tail_cons] at hst
  rw [stepThread_throwing (frames_entered h.top _), hr, List.tail_cons, hst.1]
  have hr' : (s.setVm vm').frames = .java g₀ :: r := hr
  rw [State.setTop_of_frames _ hr'] at hrest
  have e1 : ∀ (F G : List Frame), ((s.setFrames F).setVm vm').setFrames G = (s.setVm vm').setFrames G := fun F G => by
    rw [show (s.setFrames F).setVm vm' = (s.setVm vm').setFrames F from rfl, State.setFrames_setFrames]
  rw [State.pushFrame, State.setTop_of_frames _ hr, State.setFrames_setFrames, e1]
  exact hrest
end
section
section Rows
variable {C : CT} {l : Launch} {K : KT} {R : RT} {Po : PoT} {pc pc' : Nat} {L L' : LT} {st : List Value} {S S' : ShT} {I I' : DI} {J J' : DJ} {u : Nat × Nat}
/-- the thrown object is caught by the row x of the method's table; the rows ahead of it name other classes -/
theorem v_catch {k ci : Nat} {pre post : List (Nat × Nat × Nat × Nat)} {x : Nat × Nat × Nat × Nat} (hh : K.2.2.2.1 = pre ++ x :: post) (hci : ci = 9 ∨ ci = 10 ∨ ci = 11) (hk : isO S k ci) (hyes : (x.1 ≤ pc ∧ pc < x.2.1) ∧ x.2.2.2 ≠ 0 ∧ Wd (.classLink K.2.1 x.2.2.2 (kN ci)))
    (hno : ∀ y ∈ pre, (y.1 ≤ pc ∧ pc < y.2.1) ∧ y.2.2.2 ≠ 0 ∧ ∃ cj, (cj = 9 ∨ cj = 10 ∨ cj = 11) ∧ ci ≠ cj ∧ Wd (.classLink K.2.1 y.2.2.2 (kN cj))) (hpc : x.2.2.1 = pc') (kk : V C l K R Po pc' L [.ref k] S I J u) : VT C l K R Po pc L st S I J u k := by
  intro p e s m args below meth c hI T ls locs hM hL hS h1 h2 X
  obtain ⟨hC, hx, hb, hr, hml, hown, hlk, htb, hG, ⟨S0, I0, J0, hM0⟩, hnm⟩ := id hI
  subst hpc
  have hpl : e.platform.magicAccessors = ({} : Platform).magicAccessors := by rw [X.admits.platform]
  have hGT : GG C T := hG.on hS hM0.z rfl X.warmed
  rw [hh] at htb
  obtain ⟨pre', tl, e1, e2, e3⟩ := List.map_eq_append_iff.mp htb
  obtain ⟨x', post', e4, e5, e6⟩ := List.map_eq_cons_iff.mp e3
  subst e4
  have hvm : ((T.setTop (F0 m pc ls (st.map (cv C)))).pushFrame (.throwing (c0 C + k))).vm = T.vm := Stand.throwing_vm _ _ _
  have hhp : ((T.setTop (F0 m pc ls (st.map (cv C)))).pushFrame (.throwing (c0 C + k))).heap = T.heap := Stand.throwing_heap _ _ _
  have hPv := hM.2 k hk.1
  rw [cel_o hk.2 (by omega)] at hPv
  obtain ⟨r', hr', cellV, g1, g2, g3, -⟩ := hPv
  obtain ⟨vm', w1, w2⟩ := find_to hC hpl (own := K.2.1) hci (f := F0 m pc ls (st.map (cv C))) (a := c0 C + k) x' post' (by
      rw [← e5] at hyes
      refine ⟨?_, hyes.2.1, hyes.2.2⟩
      simp only [covers, Bool.and_eq_true, decide_eq_true_eq]
      exact hyes.1) pre' ((T.setTop (F0 m pc ls (st.map (cv C)))).pushFrame (.throwing (c0 C + k))) (by rw [hvm]; exact hGT.1) (by rw [hvm, X.warmed.alike.findClass]; exact hown) ⟨cellV, by rw [hhp]; exact g1, g2, g3⟩ (fun y hy => by
      have h9 := hno _ (by rw [← e2]; exact List.mem_map_of_mem hy)
      refine ⟨?_, h9.2.1, h9.2.2⟩
      simp only [covers, Bool.and_eq_true, decide_eq_true_eq]
      exact h9.1)
  have hW' : T.WarmedH vm' := by
    have h9 := w1
    unfold State.WarmedH at h9 ⊢
    first | exact h9 | (rw [hvm] at h9; exact h9)
  have X' := X.noted (State.WarmedH.trans X.warmed hW')
  obtain ⟨t, a1, b1⟩ := kk p e s m args below meth c hI T.heap ls locs hM hL hS h1 h2 (T.setVm vm') rfl X'
  refine ⟨t, caught_to (g := F0 m pc ls (st.map (cv C))) X.here (pc := x'.handlerPc) (vm' := vm') ?_ ?_, b1⟩
  · intro Q E d acts
    rw [Jvm.W.findHandler_eq (meth := meth) (code := c) (by rw [hvm]; exact X.method') X.code, e1]
    exact w2 Q E d acts
  · rw [← e5] at a1
    exact a1
end Rows
end
section
theorem wi_Lw : Wd (.initialized "FileIndexerLaw") := Wd.t 0 (by decide +kernel) rfl
theorem wi_Fi : Wd (.initialized "FileIndexer") := Wd.t 1 (by decide +kernel) rfl
theorem wi_Tr : Wd (.initialized "FileIndexer$Tree") := Wd.t 2 (by decide +kernel) rfl
theorem wi_Qu : Wd (.initialized "FileIndexer$Queue") := Wd.t 3 (by decide +kernel) rfl
theorem wi_Ix : Wd (.initialized "FileIndexer$Index") := Wd.t 4 (by decide +kernel) rfl
theorem wi_En : Wd (.initialized "FileIndexer$Entry") := Wd.t 5 (by decide +kernel) rfl
theorem wi_Qy : Wd (.initialized "FileIndexer$Query") := Wd.t 6 (by decide +kernel) rfl
theorem wi_Tm : Wd (.initialized "FileIndexer$Term") := Wd.t 7 (by decide +kernel) rfl
theorem wi_Rk : Wd (.initialized "FileIndexer$Ranking") := Wd.t 8 (by decide +kernel) rfl
theorem wi_Md : Wd (.initialized "FileIndexerModel") := Wd.t 9 (by decide +kernel) rfl
theorem wi_Ea : Wd (.initialized "java/lang/IllegalArgumentException") := Wd.t 13 (by decide +kernel) rfl
theorem wi_Es : Wd (.initialized "java/lang/IllegalStateException") := Wd.t 14 (by decide +kernel) rfl
theorem wi_Ne : Wd (.initialized "java/util/NoSuchElementException") := Wd.t 15 (by decide +kernel) rfl
theorem wi_Mt : Wd (.initialized "java/lang/Math") := Wd.t 16 (by decide +kernel) rfl
theorem wn_Fi : Wd (.instantiable (kN 7) 6) := Wd.t 18 (by decide +kernel) rfl
theorem wn_Tr : Wd (.instantiable (kN 6) 4) := Wd.t 26 (by decide +kernel) rfl
theorem wn_Qu : Wd (.instantiable (kN 3) 4) := Wd.t 48 (by decide +kernel) rfl
theorem wn_Ix : Wd (.instantiable (kN 1) 3) := Wd.t 67 (by decide +kernel) rfl
theorem wn_En : Wd (.instantiable (kN 0) 3) := Wd.t 74 (by decide +kernel) rfl
theorem wn_Qy : Wd (.instantiable (kN 2) 7) := Wd.t 102 (by decide +kernel) rfl
theorem wn_Tm : Wd (.instantiable (kN 5) 5) := Wd.t 109 (by decide +kernel) rfl
theorem wn_Rk : Wd (.instantiable (kN 4) 3) := Wd.t 153 (by decide +kernel) rfl
theorem wn_Ea : Wd (.instantiable (kN 9) 6) := Wd.t 257 (by decide +kernel) rfl
theorem wn_Es : Wd (.instantiable (kN 10) 6) := Wd.t 328 (by decide +kernel) rfl
theorem wn_Ne : Wd (.instantiable (kN 11) 6) := Wd.t 371 (by decide +kernel) rfl
theorem wn_Md : Wd (.instantiable (kN 8) 34) := Wd.t 691 (by decide +kernel) rfl
theorem wc_Fi_init : Wd (cwd k_Fi_init y_Fi_init) := Wd.t 21 (by decide +kernel) (by decide +kernel)
theorem cd_Fi_init : Cd k_Fi_init y_Fi_init := ⟨rfl, rfl, by decide +kernel, ⟨by decide +kernel, by decide +kernel⟩, wc_Fi_init, wi_Fi, by decide⟩
theorem wc_Tr_init : Wd (cwd k_Tr_init y_Tr_init) := Wd.t 29 (by decide +kernel) (by decide +kernel)
theorem cd_Tr_init : Cd k_Tr_init y_Tr_init := ⟨rfl, rfl, by decide +kernel, ⟨by decide +kernel, by decide +kernel⟩, wc_Tr_init, wi_Tr, by decide⟩
theorem wc_Qu_init : Wd (cwd k_Qu_init y_Qu_init) := Wd.t 51 (by decide +kernel) (by decide +kernel)
theorem cd_Qu_init : Cd k_Qu_init y_Qu_init := ⟨rfl, rfl, by decide +kernel, ⟨by decide +kernel, by decide +kernel⟩, wc_Qu_init, wi_Qu, by decide⟩
theorem wc_Ix_init : Wd (cwd k_Ix_init y_Ix_init) := Wd.t 70 (by decide +kernel) (by decide +kernel)
theorem cd_Ix_init : Cd k_Ix_init y_Ix_init := ⟨rfl, rfl, by decide +kernel, ⟨by decide +kernel, by decide +kernel⟩, wc_Ix_init, wi_Ix, by decide⟩
theorem wc_En_init : Wd (cwd k_En_init y_En_init) := Wd.t 77 (by decide +kernel) (by decide +kernel)
theorem cd_En_init : Cd k_En_init y_En_init := ⟨rfl, rfl, by decide +kernel, ⟨by decide +kernel, by decide +kernel⟩, wc_En_init, wi_En, by decide⟩
theorem wc_Qy_init : Wd (cwd k_Qy_init y_Qy_init) := Wd.t 105 (by decide +kernel) (by decide +kernel)
theorem cd_Qy_init : Cd k_Qy_init y_Qy_init := ⟨rfl, rfl, by decide +kernel, ⟨by decide +kernel, by decide +kernel⟩, wc_Qy_init, wi_Qy, by decide⟩
theorem wc_Tm_init : Wd (cwd k_Tm_init y_Tm_init) := Wd.t 112 (by decide +kernel) (by decide +kernel)
theorem cd_Tm_init : Cd k_Tm_init y_Tm_init := ⟨rfl, rfl, by decide +kernel, ⟨by decide +kernel, by decide +kernel⟩, wc_Tm_init, wi_Tm, by decide⟩
theorem wc_Rk_init : Wd (cwd k_Rk_init y_Rk_init) := Wd.t 156 (by decide +kernel) (by decide +kernel)
theorem cd_Rk_init : Cd k_Rk_init y_Rk_init := ⟨rfl, rfl, by decide +kernel, ⟨by decide +kernel, by decide +kernel⟩, wc_Rk_init, wi_Rk, by decide⟩
theorem wc_Fi_rescan : Wd (cwd k_Fi_rescan y_Fi_rescan) := Wd.t 190 (by decide +kernel) (by decide +kernel)
theorem cd_Fi_rescan : Cd k_Fi_rescan y_Fi_rescan := ⟨rfl, rfl, by decide +kernel, ⟨by decide +kernel, by decide +kernel⟩, wc_Fi_rescan, wi_Fi, by decide⟩
theorem wc_Tr_isFile : Wd (cwd k_Tr_isFile y_Tr_isFile) := Wd.t 194 (by decide +kernel) (by decide +kernel)
theorem cd_Tr_isFile : Cd k_Tr_isFile y_Tr_isFile := ⟨rfl, rfl, by decide +kernel, ⟨by decide +kernel, by decide +kernel⟩, wc_Tr_isFile, wi_Tr, by decide⟩
theorem wc_Fi_isNode : Wd (cwd k_Fi_isNode y_Fi_isNode) := Wd.t 197 (by decide +kernel) (by decide +kernel)
theorem cd_Fi_isNode : Cd k_Fi_isNode y_Fi_isNode := ⟨rfl, rfl, by decide +kernel, ⟨by decide +kernel, by decide +kernel⟩, wc_Fi_isNode, wi_Fi, by decide⟩
theorem wc_Fi_readFile : Wd (cwd k_Fi_readFile y_Fi_readFile) := Wd.t 201 (by decide +kernel) (by decide +kernel)
theorem cd_Fi_readFile : Cd k_Fi_readFile y_Fi_readFile := ⟨rfl, rfl, by decide +kernel, ⟨by decide +kernel, by decide +kernel⟩, wc_Fi_readFile, wi_Fi, by decide⟩
theorem wc_Tr_contentOf : Wd (cwd k_Tr_contentOf y_Tr_contentOf) := Wd.t 205 (by decide +kernel) (by decide +kernel)
theorem cd_Tr_contentOf : Cd k_Tr_contentOf y_Tr_contentOf := ⟨rfl, rfl, by decide +kernel, ⟨by decide +kernel, by decide +kernel⟩, wc_Tr_contentOf, wi_Tr, by decide⟩
theorem wc_Tr_lengthOf : Wd (cwd k_Tr_lengthOf y_Tr_lengthOf) := Wd.t 209 (by decide +kernel) (by decide +kernel)
theorem cd_Tr_lengthOf : Cd k_Tr_lengthOf y_Tr_lengthOf := ⟨rfl, rfl, by decide +kernel, ⟨by decide +kernel, by decide +kernel⟩, wc_Tr_lengthOf, wi_Tr, by decide⟩
theorem wc_Ix_read : Wd (cwd k_Ix_read y_Ix_read) := Wd.t 213 (by decide +kernel) (by decide +kernel)
theorem cd_Ix_read : Cd k_Ix_read y_Ix_read := ⟨rfl, rfl, by decide +kernel, ⟨by decide +kernel, by decide +kernel⟩, wc_Ix_read, wi_Ix, by decide⟩
theorem wc_En_take : Wd (cwd k_En_take y_En_take) := Wd.t 217 (by decide +kernel) (by decide +kernel)
theorem cd_En_take : Cd k_En_take y_En_take := ⟨rfl, rfl, by decide +kernel, ⟨by decide +kernel, by decide +kernel⟩, wc_En_take, wi_En, by decide⟩
theorem wc_En_titleEndOf : Wd (cwd k_En_titleEndOf y_En_titleEndOf) := Wd.t 220 (by decide +kernel) (by decide +kernel)
theorem cd_En_titleEndOf : Cd k_En_titleEndOf y_En_titleEndOf := ⟨rfl, rfl, by decide +kernel, ⟨by decide +kernel, by decide +kernel⟩, wc_En_titleEndOf, wi_En, by decide⟩
theorem wc_Fi_isLetter : Wd (cwd k_Fi_isLetter y_Fi_isLetter) := Wd.t 223 (by decide +kernel) (by decide +kernel)
theorem cd_Fi_isLetter : Cd k_Fi_isLetter y_Fi_isLetter := ⟨rfl, rfl, by decide +kernel, ⟨by decide +kernel, by decide +kernel⟩, wc_Fi_isLetter, wi_Fi, by decide⟩
theorem wc_Fi_withLetter : Wd (cwd k_Fi_withLetter y_Fi_withLetter) := Wd.t 226 (by decide +kernel) (by decide +kernel)
theorem cd_Fi_withLetter : Cd k_Fi_withLetter y_Fi_withLetter := ⟨rfl, rfl, by decide +kernel, ⟨by decide +kernel, by decide +kernel⟩, wc_Fi_withLetter, wi_Fi, by decide⟩
theorem wc_En_add : Wd (cwd k_En_add y_En_add) := Wd.t 230 (by decide +kernel) (by decide +kernel)
theorem cd_En_add : Cd k_En_add y_En_add := ⟨rfl, rfl, by decide +kernel, ⟨by decide +kernel, by decide +kernel⟩, wc_En_add, wi_En, by decide⟩
theorem wc_Ix_forget : Wd (cwd k_Ix_forget y_Ix_forget) := Wd.t 234 (by decide +kernel) (by decide +kernel)
theorem cd_Ix_forget : Cd k_Ix_forget y_Ix_forget := ⟨rfl, rfl, by decide +kernel, ⟨by decide +kernel, by decide +kernel⟩, wc_Ix_forget, wi_Ix, by decide⟩
theorem wc_Qu_startAnew : Wd (cwd k_Qu_startAnew y_Qu_startAnew) := Wd.t 238 (by decide +kernel) (by decide +kernel)
theorem cd_Qu_startAnew : Cd k_Qu_startAnew y_Qu_startAnew := ⟨rfl, rfl, by decide +kernel, ⟨by decide +kernel, by decide +kernel⟩, wc_Qu_startAnew, wi_Qu, by decide⟩
theorem wc_Fi_fault : Wd (cwd k_Fi_fault y_Fi_fault) := Wd.t 242 (by decide +kernel) (by decide +kernel)
theorem cd_Fi_fault : Cd k_Fi_fault y_Fi_fault := ⟨rfl, rfl, by decide +kernel, ⟨by decide +kernel, by decide +kernel⟩, wc_Fi_fault, wi_Fi, by decide⟩
theorem wc_Fi_make : Wd (cwd k_Fi_make y_Fi_make) := Wd.t 251 (by decide +kernel) (by decide +kernel)
theorem cd_Fi_make : Cd k_Fi_make y_Fi_make := ⟨rfl, rfl, by decide +kernel, ⟨by decide +kernel, by decide +kernel⟩, wc_Fi_make, wi_Fi, by decide⟩
theorem wc_Fi_isNodeBelowRoot : Wd (cwd k_Fi_isNodeBelowRoot y_Fi_isNodeBelowRoot) := Wd.t 254 (by decide +kernel) (by decide +kernel)
theorem cd_Fi_isNodeBelowRoot : Cd k_Fi_isNodeBelowRoot y_Fi_isNodeBelowRoot := ⟨rfl, rfl, by decide +kernel, ⟨by decide +kernel, by decide +kernel⟩, wc_Fi_isNodeBelowRoot, wi_Fi, by decide⟩
theorem wc_Tr_isThere : Wd (cwd k_Tr_isThere y_Tr_isThere) := Wd.t 322 (by decide +kernel) (by decide +kernel)
theorem cd_Tr_isThere : Cd k_Tr_isThere y_Tr_isThere := ⟨rfl, rfl, by decide +kernel, ⟨by decide +kernel, by decide +kernel⟩, wc_Tr_isThere, wi_Tr, by decide⟩
theorem wc_Tr_isFolder : Wd (cwd k_Tr_isFolder y_Tr_isFolder) := Wd.t 326 (by decide +kernel) (by decide +kernel)
theorem cd_Tr_isFolder : Cd k_Tr_isFolder y_Tr_isFolder := ⟨rfl, rfl, by decide +kernel, ⟨by decide +kernel, by decide +kernel⟩, wc_Tr_isFolder, wi_Tr, by decide⟩
theorem wc_Tr_put : Wd (cwd k_Tr_put y_Tr_put) := Wd.t 345 (by decide +kernel) (by decide +kernel)
theorem cd_Tr_put : Cd k_Tr_put y_Tr_put := ⟨rfl, rfl, by decide +kernel, ⟨by decide +kernel, by decide +kernel⟩, wc_Tr_put, wi_Tr, by decide⟩
theorem wc_Qu_tell : Wd (cwd k_Qu_tell y_Qu_tell) := Wd.t 349 (by decide +kernel) (by decide +kernel)
theorem cd_Qu_tell : Cd k_Qu_tell y_Qu_tell := ⟨rfl, rfl, by decide +kernel, ⟨by decide +kernel, by decide +kernel⟩, wc_Qu_tell, wi_Qu, by decide⟩
theorem wc_Qu_placeOf : Wd (cwd k_Qu_placeOf y_Qu_placeOf) := Wd.t 353 (by decide +kernel) (by decide +kernel)
theorem cd_Qu_placeOf : Cd k_Qu_placeOf y_Qu_placeOf := ⟨rfl, rfl, by decide +kernel, ⟨by decide +kernel, by decide +kernel⟩, wc_Qu_placeOf, wi_Qu, by decide⟩
theorem wc_Qu_putTogether : Wd (cwd k_Qu_putTogether y_Qu_putTogether) := Wd.t 357 (by decide +kernel) (by decide +kernel)
theorem cd_Qu_putTogether : Cd k_Qu_putTogether y_Qu_putTogether := ⟨rfl, rfl, by decide +kernel, ⟨by decide +kernel, by decide +kernel⟩, wc_Qu_putTogether, wi_Qu, by decide⟩
theorem wc_Qu_drop : Wd (cwd k_Qu_drop y_Qu_drop) := Wd.t 361 (by decide +kernel) (by decide +kernel)
theorem cd_Qu_drop : Cd k_Qu_drop y_Qu_drop := ⟨rfl, rfl, by decide +kernel, ⟨by decide +kernel, by decide +kernel⟩, wc_Qu_drop, wi_Qu, by decide⟩
theorem wc_Fi_write : Wd (cwd k_Fi_write y_Fi_write) := Wd.t 369 (by decide +kernel) (by decide +kernel)
theorem cd_Fi_write : Cd k_Fi_write y_Fi_write := ⟨rfl, rfl, by decide +kernel, ⟨by decide +kernel, by decide +kernel⟩, wc_Fi_write, wi_Fi, by decide⟩
theorem wc_Fi_areCodes : Wd (cwd k_Fi_areCodes y_Fi_areCodes) := Wd.t 387 (by decide +kernel) (by decide +kernel)
theorem cd_Fi_areCodes : Cd k_Fi_areCodes y_Fi_areCodes := ⟨rfl, rfl, by decide +kernel, ⟨by decide +kernel, by decide +kernel⟩, wc_Fi_areCodes, wi_Fi, by decide⟩
theorem wc_Fi_byteOf : Wd (cwd k_Fi_byteOf y_Fi_byteOf) := Wd.t 390 (by decide +kernel) (by decide +kernel)
theorem cd_Fi_byteOf : Cd k_Fi_byteOf y_Fi_byteOf := ⟨rfl, rfl, by decide +kernel, ⟨by decide +kernel, by decide +kernel⟩, wc_Fi_byteOf, wi_Fi, by decide⟩
theorem wc_Fi_isCode : Wd (cwd k_Fi_isCode y_Fi_isCode) := Wd.t 393 (by decide +kernel) (by decide +kernel)
theorem cd_Fi_isCode : Cd k_Fi_isCode y_Fi_isCode := ⟨rfl, rfl, by decide +kernel, ⟨by decide +kernel, by decide +kernel⟩, wc_Fi_isCode, wi_Fi, by decide⟩
theorem wc_Tr_append : Wd (cwd k_Tr_append y_Tr_append) := Wd.t 397 (by decide +kernel) (by decide +kernel)
theorem cd_Tr_append : Cd k_Tr_append y_Tr_append := ⟨rfl, rfl, by decide +kernel, ⟨by decide +kernel, by decide +kernel⟩, wc_Tr_append, wi_Tr, by decide⟩
theorem wc_Fi_cut : Wd (cwd k_Fi_cut y_Fi_cut) := Wd.t 404 (by decide +kernel) (by decide +kernel)
theorem cd_Fi_cut : Cd k_Fi_cut y_Fi_cut := ⟨rfl, rfl, by decide +kernel, ⟨by decide +kernel, by decide +kernel⟩, wc_Fi_cut, wi_Fi, by decide⟩
theorem wc_Tr_shorten : Wd (cwd k_Tr_shorten y_Tr_shorten) := Wd.t 408 (by decide +kernel) (by decide +kernel)
theorem cd_Tr_shorten : Cd k_Tr_shorten y_Tr_shorten := ⟨rfl, rfl, by decide +kernel, ⟨by decide +kernel, by decide +kernel⟩, wc_Tr_shorten, wi_Tr, by decide⟩
theorem wc_Fi_remove : Wd (cwd k_Fi_remove y_Fi_remove) := Wd.t 415 (by decide +kernel) (by decide +kernel)
theorem cd_Fi_remove : Cd k_Fi_remove y_Fi_remove := ⟨rfl, rfl, by decide +kernel, ⟨by decide +kernel, by decide +kernel⟩, wc_Fi_remove, wi_Fi, by decide⟩
theorem wc_Tr_isWithin : Wd (cwd k_Tr_isWithin y_Tr_isWithin) := Wd.t 419 (by decide +kernel) (by decide +kernel)
theorem cd_Tr_isWithin : Cd k_Tr_isWithin y_Tr_isWithin := ⟨rfl, rfl, by decide +kernel, ⟨by decide +kernel, by decide +kernel⟩, wc_Tr_isWithin, wi_Tr, by decide⟩
theorem wc_Fi_removeOne : Wd (cwd k_Fi_removeOne y_Fi_removeOne) := Wd.t 424 (by decide +kernel) (by decide +kernel)
theorem cd_Fi_removeOne : Cd k_Fi_removeOne y_Fi_removeOne := ⟨rfl, rfl, by decide +kernel, ⟨by decide +kernel, by decide +kernel⟩, wc_Fi_removeOne, wi_Fi, by decide⟩
theorem wc_Tr_drop : Wd (cwd k_Tr_drop y_Tr_drop) := Wd.t 428 (by decide +kernel) (by decide +kernel)
theorem cd_Tr_drop : Cd k_Tr_drop y_Tr_drop := ⟨rfl, rfl, by decide +kernel, ⟨by decide +kernel, by decide +kernel⟩, wc_Tr_drop, wi_Tr, by decide⟩
theorem wc_Fi_move : Wd (cwd k_Fi_move y_Fi_move) := Wd.t 435 (by decide +kernel) (by decide +kernel)
theorem cd_Fi_move : Cd k_Fi_move y_Fi_move := ⟨rfl, rfl, by decide +kernel, ⟨by decide +kernel, by decide +kernel⟩, wc_Fi_move, wi_Fi, by decide⟩
theorem wc_Tr_parentOf : Wd (cwd k_Tr_parentOf y_Tr_parentOf) := Wd.t 439 (by decide +kernel) (by decide +kernel)
theorem cd_Tr_parentOf : Cd k_Tr_parentOf y_Tr_parentOf := ⟨rfl, rfl, by decide +kernel, ⟨by decide +kernel, by decide +kernel⟩, wc_Tr_parentOf, wi_Tr, by decide⟩
theorem wc_Tr_hang : Wd (cwd k_Tr_hang y_Tr_hang) := Wd.t 443 (by decide +kernel) (by decide +kernel)
theorem cd_Tr_hang : Cd k_Tr_hang y_Tr_hang := ⟨rfl, rfl, by decide +kernel, ⟨by decide +kernel, by decide +kernel⟩, wc_Tr_hang, wi_Tr, by decide⟩
theorem wc_Fi_work : Wd (cwd k_Fi_work y_Fi_work) := Wd.t 450 (by decide +kernel) (by decide +kernel)
theorem cd_Fi_work : Cd k_Fi_work y_Fi_work := ⟨rfl, rfl, by decide +kernel, ⟨by decide +kernel, by decide +kernel⟩, wc_Fi_work, wi_Fi, by decide⟩
theorem wc_Qu_isLost : Wd (cwd k_Qu_isLost y_Qu_isLost) := Wd.t 454 (by decide +kernel) (by decide +kernel)
theorem cd_Qu_isLost : Cd k_Qu_isLost y_Qu_isLost := ⟨rfl, rfl, by decide +kernel, ⟨by decide +kernel, by decide +kernel⟩, wc_Qu_isLost, wi_Qu, by decide⟩
theorem wc_Qu_size : Wd (cwd k_Qu_size y_Qu_size) := Wd.t 458 (by decide +kernel) (by decide +kernel)
theorem cd_Qu_size : Cd k_Qu_size y_Qu_size := ⟨rfl, rfl, by decide +kernel, ⟨by decide +kernel, by decide +kernel⟩, wc_Qu_size, wi_Qu, by decide⟩
theorem wc_Mt_min : Wd (cwd k_Mt_min y_Mt_min) := Wd.t 461 (by decide +kernel) (by decide +kernel)
theorem wc_Qu_kindAt : Wd (cwd k_Qu_kindAt y_Qu_kindAt) := Wd.t 465 (by decide +kernel) (by decide +kernel)
theorem cd_Qu_kindAt : Cd k_Qu_kindAt y_Qu_kindAt := ⟨rfl, rfl, by decide +kernel, ⟨by decide +kernel, by decide +kernel⟩, wc_Qu_kindAt, wi_Qu, by decide⟩
theorem wc_Qu_fileAt : Wd (cwd k_Qu_fileAt y_Qu_fileAt) := Wd.t 469 (by decide +kernel) (by decide +kernel)
theorem cd_Qu_fileAt : Cd k_Qu_fileAt y_Qu_fileAt := ⟨rfl, rfl, by decide +kernel, ⟨by decide +kernel, by decide +kernel⟩, wc_Qu_fileAt, wi_Qu, by decide⟩
theorem wc_Fi_follow : Wd (cwd k_Fi_follow y_Fi_follow) := Wd.t 473 (by decide +kernel) (by decide +kernel)
theorem cd_Fi_follow : Cd k_Fi_follow y_Fi_follow := ⟨rfl, rfl, by decide +kernel, ⟨by decide +kernel, by decide +kernel⟩, wc_Fi_follow, wi_Fi, by decide⟩
theorem wc_Fi_type : Wd (cwd k_Fi_type y_Fi_type) := Wd.t 481 (by decide +kernel) (by decide +kernel)
theorem cd_Fi_type : Cd k_Fi_type y_Fi_type := ⟨rfl, rfl, by decide +kernel, ⟨by decide +kernel, by decide +kernel⟩, wc_Fi_type, wi_Fi, by decide⟩
theorem wc_Qy_length : Wd (cwd k_Qy_length y_Qy_length) := Wd.t 485 (by decide +kernel) (by decide +kernel)
theorem cd_Qy_length : Cd k_Qy_length y_Qy_length := ⟨rfl, rfl, by decide +kernel, ⟨by decide +kernel, by decide +kernel⟩, wc_Qy_length, wi_Qy, by decide⟩
theorem wc_Qy_append : Wd (cwd k_Qy_append y_Qy_append) := Wd.t 489 (by decide +kernel) (by decide +kernel)
theorem cd_Qy_append : Cd k_Qy_append y_Qy_append := ⟨rfl, rfl, by decide +kernel, ⟨by decide +kernel, by decide +kernel⟩, wc_Qy_append, wi_Qy, by decide⟩
theorem wc_Fi_search : Wd (cwd k_Fi_search y_Fi_search) := Wd.t 496 (by decide +kernel) (by decide +kernel)
theorem cd_Fi_search : Cd k_Fi_search y_Fi_search := ⟨rfl, rfl, by decide +kernel, ⟨by decide +kernel, by decide +kernel⟩, wc_Fi_search, wi_Fi, by decide⟩
theorem wc_Rk_clear : Wd (cwd k_Rk_clear y_Rk_clear) := Wd.t 500 (by decide +kernel) (by decide +kernel)
theorem cd_Rk_clear : Cd k_Rk_clear y_Rk_clear := ⟨rfl, rfl, by decide +kernel, ⟨by decide +kernel, by decide +kernel⟩, wc_Rk_clear, wi_Rk, by decide⟩
theorem wc_Qy_parse : Wd (cwd k_Qy_parse y_Qy_parse) := Wd.t 504 (by decide +kernel) (by decide +kernel)
theorem cd_Qy_parse : Cd k_Qy_parse y_Qy_parse := ⟨rfl, rfl, by decide +kernel, ⟨by decide +kernel, by decide +kernel⟩, wc_Qy_parse, wi_Qy, by decide⟩
theorem wc_Qy_parseAlternative : Wd (cwd k_Qy_parseAlternative y_Qy_parseAlternative) := Wd.t 508 (by decide +kernel) (by decide +kernel)
theorem cd_Qy_parseAlternative : Cd k_Qy_parseAlternative y_Qy_parseAlternative := ⟨rfl, rfl, by decide +kernel, ⟨by decide +kernel, by decide +kernel⟩, wc_Qy_parseAlternative, wi_Qy, by decide⟩
theorem wc_Qy_skipBlanks : Wd (cwd k_Qy_skipBlanks y_Qy_skipBlanks) := Wd.t 512 (by decide +kernel) (by decide +kernel)
theorem cd_Qy_skipBlanks : Cd k_Qy_skipBlanks y_Qy_skipBlanks := ⟨rfl, rfl, by decide +kernel, ⟨by decide +kernel, by decide +kernel⟩, wc_Qy_skipBlanks, wi_Qy, by decide⟩
theorem wc_Qy_parseTerm : Wd (cwd k_Qy_parseTerm y_Qy_parseTerm) := Wd.t 516 (by decide +kernel) (by decide +kernel)
theorem cd_Qy_parseTerm : Cd k_Qy_parseTerm y_Qy_parseTerm := ⟨rfl, rfl, by decide +kernel, ⟨by decide +kernel, by decide +kernel⟩, wc_Qy_parseTerm, wi_Qy, by decide⟩
theorem wc_Tm_begin : Wd (cwd k_Tm_begin y_Tm_begin) := Wd.t 520 (by decide +kernel) (by decide +kernel)
theorem cd_Tm_begin : Cd k_Tm_begin y_Tm_begin := ⟨rfl, rfl, by decide +kernel, ⟨by decide +kernel, by decide +kernel⟩, wc_Tm_begin, wi_Tm, by decide⟩
theorem wc_Qy_next : Wd (cwd k_Qy_next y_Qy_next) := Wd.t 525 (by decide +kernel) (by decide +kernel)
theorem cd_Qy_next : Cd k_Qy_next y_Qy_next := ⟨rfl, rfl, by decide +kernel, ⟨by decide +kernel, by decide +kernel⟩, wc_Qy_next, wi_Qy, by decide⟩
theorem wc_Tm_forbid : Wd (cwd k_Tm_forbid y_Tm_forbid) := Wd.t 529 (by decide +kernel) (by decide +kernel)
theorem cd_Tm_forbid : Cd k_Tm_forbid y_Tm_forbid := ⟨rfl, rfl, by decide +kernel, ⟨by decide +kernel, by decide +kernel⟩, wc_Tm_forbid, wi_Tm, by decide⟩
theorem wc_Qy_parsePhrase : Wd (cwd k_Qy_parsePhrase y_Qy_parsePhrase) := Wd.t 533 (by decide +kernel) (by decide +kernel)
theorem cd_Qy_parsePhrase : Cd k_Qy_parsePhrase y_Qy_parsePhrase := ⟨rfl, rfl, by decide +kernel, ⟨by decide +kernel, by decide +kernel⟩, wc_Qy_parsePhrase, wi_Qy, by decide⟩
theorem wc_Qy_isFaulty : Wd (cwd k_Qy_isFaulty y_Qy_isFaulty) := Wd.t 537 (by decide +kernel) (by decide +kernel)
theorem cd_Qy_isFaulty : Cd k_Qy_isFaulty y_Qy_isFaulty := ⟨rfl, rfl, by decide +kernel, ⟨by decide +kernel, by decide +kernel⟩, wc_Qy_isFaulty, wi_Qy, by decide⟩
theorem wc_Qy_parseWord : Wd (cwd k_Qy_parseWord y_Qy_parseWord) := Wd.t 542 (by decide +kernel) (by decide +kernel)
theorem cd_Qy_parseWord : Cd k_Qy_parseWord y_Qy_parseWord := ⟨rfl, rfl, by decide +kernel, ⟨by decide +kernel, by decide +kernel⟩, wc_Qy_parseWord, wi_Qy, by decide⟩
theorem wc_Tm_add : Wd (cwd k_Tm_add y_Tm_add) := Wd.t 547 (by decide +kernel) (by decide +kernel)
theorem cd_Tm_add : Cd k_Tm_add y_Tm_add := ⟨rfl, rfl, by decide +kernel, ⟨by decide +kernel, by decide +kernel⟩, wc_Tm_add, wi_Tm, by decide⟩
theorem wc_Tm_isEmpty : Wd (cwd k_Tm_isEmpty y_Tm_isEmpty) := Wd.t 551 (by decide +kernel) (by decide +kernel)
theorem cd_Tm_isEmpty : Cd k_Tm_isEmpty y_Tm_isEmpty := ⟨rfl, rfl, by decide +kernel, ⟨by decide +kernel, by decide +kernel⟩, wc_Tm_isEmpty, wi_Tm, by decide⟩
theorem wc_Qy_parseWordOrBeginning : Wd (cwd k_Qy_parseWordOrBeginning y_Qy_parseWordOrBeginning) := Wd.t 555 (by decide +kernel) (by decide +kernel)
theorem cd_Qy_parseWordOrBeginning : Cd k_Qy_parseWordOrBeginning y_Qy_parseWordOrBeginning := ⟨rfl, rfl, by decide +kernel, ⟨by decide +kernel, by decide +kernel⟩, wc_Qy_parseWordOrBeginning, wi_Qy, by decide⟩
theorem wc_Tm_compareOnly : Wd (cwd k_Tm_compareOnly y_Tm_compareOnly) := Wd.t 559 (by decide +kernel) (by decide +kernel)
theorem cd_Tm_compareOnly : Cd k_Tm_compareOnly y_Tm_compareOnly := ⟨rfl, rfl, by decide +kernel, ⟨by decide +kernel, by decide +kernel⟩, wc_Tm_compareOnly, wi_Tm, by decide⟩
theorem wc_Qy_endTerm : Wd (cwd k_Qy_endTerm y_Qy_endTerm) := Wd.t 563 (by decide +kernel) (by decide +kernel)
theorem cd_Qy_endTerm : Cd k_Qy_endTerm y_Qy_endTerm := ⟨rfl, rfl, by decide +kernel, ⟨by decide +kernel, by decide +kernel⟩, wc_Qy_endTerm, wi_Qy, by decide⟩
theorem wc_Qy_atAlternativeEnd : Wd (cwd k_Qy_atAlternativeEnd y_Qy_atAlternativeEnd) := Wd.t 567 (by decide +kernel) (by decide +kernel)
theorem cd_Qy_atAlternativeEnd : Cd k_Qy_atAlternativeEnd y_Qy_atAlternativeEnd := ⟨rfl, rfl, by decide +kernel, ⟨by decide +kernel, by decide +kernel⟩, wc_Qy_atAlternativeEnd, wi_Qy, by decide⟩
theorem wc_Qy_clearText : Wd (cwd k_Qy_clearText y_Qy_clearText) := Wd.t 571 (by decide +kernel) (by decide +kernel)
theorem cd_Qy_clearText : Cd k_Qy_clearText y_Qy_clearText := ⟨rfl, rfl, by decide +kernel, ⟨by decide +kernel, by decide +kernel⟩, wc_Qy_clearText, wi_Qy, by decide⟩
theorem wc_Ix_has : Wd (cwd k_Ix_has y_Ix_has) := Wd.t 575 (by decide +kernel) (by decide +kernel)
theorem cd_Ix_has : Cd k_Ix_has y_Ix_has := ⟨rfl, rfl, by decide +kernel, ⟨by decide +kernel, by decide +kernel⟩, wc_Ix_has, wi_Ix, by decide⟩
theorem wc_Fi_isSearched : Wd (cwd k_Fi_isSearched y_Fi_isSearched) := Wd.t 580 (by decide +kernel) (by decide +kernel)
theorem cd_Fi_isSearched : Cd k_Fi_isSearched y_Fi_isSearched := ⟨rfl, rfl, by decide +kernel, ⟨by decide +kernel, by decide +kernel⟩, wc_Fi_isSearched, wi_Fi, by decide⟩
theorem wc_Fi_rank : Wd (cwd k_Fi_rank y_Fi_rank) := Wd.t 584 (by decide +kernel) (by decide +kernel)
theorem cd_Fi_rank : Cd k_Fi_rank y_Fi_rank := ⟨rfl, rfl, by decide +kernel, ⟨by decide +kernel, by decide +kernel⟩, wc_Fi_rank, wi_Fi, by decide⟩
theorem wc_Ix_entryOf : Wd (cwd k_Ix_entryOf y_Ix_entryOf) := Wd.t 588 (by decide +kernel) (by decide +kernel)
theorem cd_Ix_entryOf : Cd k_Ix_entryOf y_Ix_entryOf := ⟨rfl, rfl, by decide +kernel, ⟨by decide +kernel, by decide +kernel⟩, wc_Ix_entryOf, wi_Ix, by decide⟩
theorem wc_Qy_scoreOf : Wd (cwd k_Qy_scoreOf y_Qy_scoreOf) := Wd.t 592 (by decide +kernel) (by decide +kernel)
theorem cd_Qy_scoreOf : Cd k_Qy_scoreOf y_Qy_scoreOf := ⟨rfl, rfl, by decide +kernel, ⟨by decide +kernel, by decide +kernel⟩, wc_Qy_scoreOf, wi_Qy, by decide⟩
theorem wc_Qy_partOf : Wd (cwd k_Qy_partOf y_Qy_partOf) := Wd.t 596 (by decide +kernel) (by decide +kernel)
theorem cd_Qy_partOf : Cd k_Qy_partOf y_Qy_partOf := ⟨rfl, rfl, by decide +kernel, ⟨by decide +kernel, by decide +kernel⟩, wc_Qy_partOf, wi_Qy, by decide⟩
theorem wc_Tm_isOf : Wd (cwd k_Tm_isOf y_Tm_isOf) := Wd.t 600 (by decide +kernel) (by decide +kernel)
theorem cd_Tm_isOf : Cd k_Tm_isOf y_Tm_isOf := ⟨rfl, rfl, by decide +kernel, ⟨by decide +kernel, by decide +kernel⟩, wc_Tm_isOf, wi_Tm, by decide⟩
theorem wc_Tm_weightIn : Wd (cwd k_Tm_weightIn y_Tm_weightIn) := Wd.t 604 (by decide +kernel) (by decide +kernel)
theorem cd_Tm_weightIn : Cd k_Tm_weightIn y_Tm_weightIn := ⟨rfl, rfl, by decide +kernel, ⟨by decide +kernel, by decide +kernel⟩, wc_Tm_weightIn, wi_Tm, by decide⟩
theorem wc_En_size : Wd (cwd k_En_size y_En_size) := Wd.t 608 (by decide +kernel) (by decide +kernel)
theorem cd_En_size : Cd k_En_size y_En_size := ⟨rfl, rfl, by decide +kernel, ⟨by decide +kernel, by decide +kernel⟩, wc_En_size, wi_En, by decide⟩
theorem wc_Tm_hits : Wd (cwd k_Tm_hits y_Tm_hits) := Wd.t 612 (by decide +kernel) (by decide +kernel)
theorem cd_Tm_hits : Cd k_Tm_hits y_Tm_hits := ⟨rfl, rfl, by decide +kernel, ⟨by decide +kernel, by decide +kernel⟩, wc_Tm_hits, wi_Tm, by decide⟩
theorem wc_En_wordAt : Wd (cwd k_En_wordAt y_En_wordAt) := Wd.t 616 (by decide +kernel) (by decide +kernel)
theorem cd_En_wordAt : Cd k_En_wordAt y_En_wordAt := ⟨rfl, rfl, by decide +kernel, ⟨by decide +kernel, by decide +kernel⟩, wc_En_wordAt, wi_En, by decide⟩
theorem wc_En_weightAt : Wd (cwd k_En_weightAt y_En_weightAt) := Wd.t 620 (by decide +kernel) (by decide +kernel)
theorem cd_En_weightAt : Cd k_En_weightAt y_En_weightAt := ⟨rfl, rfl, by decide +kernel, ⟨by decide +kernel, by decide +kernel⟩, wc_En_weightAt, wi_En, by decide⟩
theorem wc_Tm_isUnwanted : Wd (cwd k_Tm_isUnwanted y_Tm_isUnwanted) := Wd.t 624 (by decide +kernel) (by decide +kernel)
theorem cd_Tm_isUnwanted : Cd k_Tm_isUnwanted y_Tm_isUnwanted := ⟨rfl, rfl, by decide +kernel, ⟨by decide +kernel, by decide +kernel⟩, wc_Tm_isUnwanted, wi_Tm, by decide⟩
theorem wc_Mt_max : Wd (cwd k_Mt_max y_Mt_max) := Wd.t 627 (by decide +kernel) (by decide +kernel)
theorem wc_Rk_add : Wd (cwd k_Rk_add y_Rk_add) := Wd.t 631 (by decide +kernel) (by decide +kernel)
theorem cd_Rk_add : Cd k_Rk_add y_Rk_add := ⟨rfl, rfl, by decide +kernel, ⟨by decide +kernel, by decide +kernel⟩, wc_Rk_add, wi_Rk, by decide⟩
theorem wc_Rk_size : Wd (cwd k_Rk_size y_Rk_size) := Wd.t 635 (by decide +kernel) (by decide +kernel)
theorem cd_Rk_size : Cd k_Rk_size y_Rk_size := ⟨rfl, rfl, by decide +kernel, ⟨by decide +kernel, by decide +kernel⟩, wc_Rk_size, wi_Rk, by decide⟩
theorem wc_Fi_result : Wd (cwd k_Fi_result y_Fi_result) := Wd.t 642 (by decide +kernel) (by decide +kernel)
theorem cd_Fi_result : Cd k_Fi_result y_Fi_result := ⟨rfl, rfl, by decide +kernel, ⟨by decide +kernel, by decide +kernel⟩, wc_Fi_result, wi_Fi, by decide⟩
theorem wc_Rk_fileAt : Wd (cwd k_Rk_fileAt y_Rk_fileAt) := Wd.t 646 (by decide +kernel) (by decide +kernel)
theorem cd_Rk_fileAt : Cd k_Rk_fileAt y_Rk_fileAt := ⟨rfl, rfl, by decide +kernel, ⟨by decide +kernel, by decide +kernel⟩, wc_Rk_fileAt, wi_Rk, by decide⟩
theorem wc_Rk_scoreAt : Wd (cwd k_Rk_scoreAt y_Rk_scoreAt) := Wd.t 650 (by decide +kernel) (by decide +kernel)
theorem cd_Rk_scoreAt : Cd k_Rk_scoreAt y_Rk_scoreAt := ⟨rfl, rfl, by decide +kernel, ⟨by decide +kernel, by decide +kernel⟩, wc_Rk_scoreAt, wi_Rk, by decide⟩
theorem wc_Fi_words : Wd (cwd k_Fi_words y_Fi_words) := Wd.t 657 (by decide +kernel) (by decide +kernel)
theorem cd_Fi_words : Cd k_Fi_words y_Fi_words := ⟨rfl, rfl, by decide +kernel, ⟨by decide +kernel, by decide +kernel⟩, wc_Fi_words, wi_Fi, by decide⟩
theorem wc_Fi_event : Wd (cwd k_Fi_event y_Fi_event) := Wd.t 665 (by decide +kernel) (by decide +kernel)
theorem cd_Fi_event : Cd k_Fi_event y_Fi_event := ⟨rfl, rfl, by decide +kernel, ⟨by decide +kernel, by decide +kernel⟩, wc_Fi_event, wi_Fi, by decide⟩
theorem wc_Fi_count : Wd (cwd k_Fi_count y_Fi_count) := Wd.t 672 (by decide +kernel) (by decide +kernel)
theorem cd_Fi_count : Cd k_Fi_count y_Fi_count := ⟨rfl, rfl, by decide +kernel, ⟨by decide +kernel, by decide +kernel⟩, wc_Fi_count, wi_Fi, by decide⟩
theorem wc_Tr_nodesThere : Wd (cwd k_Tr_nodesThere y_Tr_nodesThere) := Wd.t 676 (by decide +kernel) (by decide +kernel)
theorem cd_Tr_nodesThere : Cd k_Tr_nodesThere y_Tr_nodesThere := ⟨rfl, rfl, by decide +kernel, ⟨by decide +kernel, by decide +kernel⟩, wc_Tr_nodesThere, wi_Tr, by decide⟩
theorem wc_Tr_filesThere : Wd (cwd k_Tr_filesThere y_Tr_filesThere) := Wd.t 680 (by decide +kernel) (by decide +kernel)
theorem cd_Tr_filesThere : Cd k_Tr_filesThere y_Tr_filesThere := ⟨rfl, rfl, by decide +kernel, ⟨by decide +kernel, by decide +kernel⟩, wc_Tr_filesThere, wi_Tr, by decide⟩
theorem wc_Ix_size : Wd (cwd k_Ix_size y_Ix_size) := Wd.t 685 (by decide +kernel) (by decide +kernel)
theorem cd_Ix_size : Cd k_Ix_size y_Ix_size := ⟨rfl, rfl, by decide +kernel, ⟨by decide +kernel, by decide +kernel⟩, wc_Ix_size, wi_Ix, by decide⟩
theorem wc_Ix_timesRead : Wd (cwd k_Ix_timesRead y_Ix_timesRead) := Wd.t 689 (by decide +kernel) (by decide +kernel)
theorem cd_Ix_timesRead : Cd k_Ix_timesRead y_Ix_timesRead := ⟨rfl, rfl, by decide +kernel, ⟨by decide +kernel, by decide +kernel⟩, wc_Ix_timesRead, wi_Ix, by decide⟩
theorem wc_Md_init : Wd (cwd k_Md_init y_Md_init) := Wd.t 694 (by decide +kernel) (by decide +kernel)
theorem cd_Md_init : Cd k_Md_init y_Md_init := ⟨rfl, rfl, by decide +kernel, ⟨by decide +kernel, by decide +kernel⟩, wc_Md_init, wi_Md, by decide⟩
theorem wc_Md_thrown : Wd (cwd k_Md_thrown y_Md_thrown) := Wd.t 802 (by decide +kernel) (by decide +kernel)
theorem cd_Md_thrown : Cd k_Md_thrown y_Md_thrown := ⟨rfl, rfl, by decide +kernel, ⟨by decide +kernel, by decide +kernel⟩, wc_Md_thrown, wi_Md, by decide⟩
theorem wc_Md_make : Wd (cwd k_Md_make y_Md_make) := Wd.t 806 (by decide +kernel) (by decide +kernel)
theorem cd_Md_make : Cd k_Md_make y_Md_make := ⟨rfl, rfl, by decide +kernel, ⟨by decide +kernel, by decide +kernel⟩, wc_Md_make, wi_Md, by decide⟩
theorem wc_Md_in : Wd (cwd k_Md_in y_Md_in) := Wd.t 809 (by decide +kernel) (by decide +kernel)
theorem cd_Md_in : Cd k_Md_in y_Md_in := ⟨rfl, rfl, by decide +kernel, ⟨by decide +kernel, by decide +kernel⟩, wc_Md_in, wi_Md, by decide⟩
theorem wc_Md_raise : Wd (cwd k_Md_raise y_Md_raise) := Wd.t 813 (by decide +kernel) (by decide +kernel)
theorem cd_Md_raise : Cd k_Md_raise y_Md_raise := ⟨rfl, rfl, by decide +kernel, ⟨by decide +kernel, by decide +kernel⟩, wc_Md_raise, wi_Md, by decide⟩
theorem wc_Md_isFolder : Wd (cwd k_Md_isFolder y_Md_isFolder) := Wd.t 817 (by decide +kernel) (by decide +kernel)
theorem cd_Md_isFolder : Cd k_Md_isFolder y_Md_isFolder := ⟨rfl, rfl, by decide +kernel, ⟨by decide +kernel, by decide +kernel⟩, wc_Md_isFolder, wi_Md, by decide⟩
theorem wc_Md_tell : Wd (cwd k_Md_tell y_Md_tell) := Wd.t 821 (by decide +kernel) (by decide +kernel)
theorem cd_Md_tell : Cd k_Md_tell y_Md_tell := ⟨rfl, rfl, by decide +kernel, ⟨by decide +kernel, by decide +kernel⟩, wc_Md_tell, wi_Md, by decide⟩
theorem wc_Md_together : Wd (cwd k_Md_together y_Md_together) := Wd.t 824 (by decide +kernel) (by decide +kernel)
theorem cd_Md_together : Cd k_Md_together y_Md_together := ⟨rfl, rfl, by decide +kernel, ⟨by decide +kernel, by decide +kernel⟩, wc_Md_together, wi_Md, by decide⟩
theorem wc_Md_drop : Wd (cwd k_Md_drop y_Md_drop) := Wd.t 828 (by decide +kernel) (by decide +kernel)
theorem cd_Md_drop : Cd k_Md_drop y_Md_drop := ⟨rfl, rfl, by decide +kernel, ⟨by decide +kernel, by decide +kernel⟩, wc_Md_drop, wi_Md, by decide⟩
theorem wc_Md_write : Wd (cwd k_Md_write y_Md_write) := Wd.t 832 (by decide +kernel) (by decide +kernel)
theorem cd_Md_write : Cd k_Md_write y_Md_write := ⟨rfl, rfl, by decide +kernel, ⟨by decide +kernel, by decide +kernel⟩, wc_Md_write, wi_Md, by decide⟩
theorem wc_Md_isFile : Wd (cwd k_Md_isFile y_Md_isFile) := Wd.t 836 (by decide +kernel) (by decide +kernel)
theorem cd_Md_isFile : Cd k_Md_isFile y_Md_isFile := ⟨rfl, rfl, by decide +kernel, ⟨by decide +kernel, by decide +kernel⟩, wc_Md_isFile, wi_Md, by decide⟩
theorem wc_Md_cut : Wd (cwd k_Md_cut y_Md_cut) := Wd.t 840 (by decide +kernel) (by decide +kernel)
theorem cd_Md_cut : Cd k_Md_cut y_Md_cut := ⟨rfl, rfl, by decide +kernel, ⟨by decide +kernel, by decide +kernel⟩, wc_Md_cut, wi_Md, by decide⟩
theorem wc_Md_remove : Wd (cwd k_Md_remove y_Md_remove) := Wd.t 844 (by decide +kernel) (by decide +kernel)
theorem cd_Md_remove : Cd k_Md_remove y_Md_remove := ⟨rfl, rfl, by decide +kernel, ⟨by decide +kernel, by decide +kernel⟩, wc_Md_remove, wi_Md, by decide⟩
theorem wc_Md_mark : Wd (cwd k_Md_mark y_Md_mark) := Wd.t 848 (by decide +kernel) (by decide +kernel)
theorem cd_Md_mark : Cd k_Md_mark y_Md_mark := ⟨rfl, rfl, by decide +kernel, ⟨by decide +kernel, by decide +kernel⟩, wc_Md_mark, wi_Md, by decide⟩
theorem wc_Md_within : Wd (cwd k_Md_within y_Md_within) := Wd.t 852 (by decide +kernel) (by decide +kernel)
theorem cd_Md_within : Cd k_Md_within y_Md_within := ⟨rfl, rfl, by decide +kernel, ⟨by decide +kernel, by decide +kernel⟩, wc_Md_within, wi_Md, by decide⟩
theorem wc_Md_move : Wd (cwd k_Md_move y_Md_move) := Wd.t 856 (by decide +kernel) (by decide +kernel)
theorem cd_Md_move : Cd k_Md_move y_Md_move := ⟨rfl, rfl, by decide +kernel, ⟨by decide +kernel, by decide +kernel⟩, wc_Md_move, wi_Md, by decide⟩
theorem wc_Md_work : Wd (cwd k_Md_work y_Md_work) := Wd.t 860 (by decide +kernel) (by decide +kernel)
theorem cd_Md_work : Cd k_Md_work y_Md_work := ⟨rfl, rfl, by decide +kernel, ⟨by decide +kernel, by decide +kernel⟩, wc_Md_work, wi_Md, by decide⟩
theorem wc_Md_read : Wd (cwd k_Md_read y_Md_read) := Wd.t 864 (by decide +kernel) (by decide +kernel)
theorem cd_Md_read : Cd k_Md_read y_Md_read := ⟨rfl, rfl, by decide +kernel, ⟨by decide +kernel, by decide +kernel⟩, wc_Md_read, wi_Md, by decide⟩
theorem wc_Md_letter : Wd (cwd k_Md_letter y_Md_letter) := Wd.t 867 (by decide +kernel) (by decide +kernel)
theorem cd_Md_letter : Cd k_Md_letter y_Md_letter := ⟨rfl, rfl, by decide +kernel, ⟨by decide +kernel, by decide +kernel⟩, wc_Md_letter, wi_Md, by decide⟩
theorem wc_Md_rescan : Wd (cwd k_Md_rescan y_Md_rescan) := Wd.t 871 (by decide +kernel) (by decide +kernel)
theorem cd_Md_rescan : Cd k_Md_rescan y_Md_rescan := ⟨rfl, rfl, by decide +kernel, ⟨by decide +kernel, by decide +kernel⟩, wc_Md_rescan, wi_Md, by decide⟩
theorem wc_Md_type : Wd (cwd k_Md_type y_Md_type) := Wd.t 875 (by decide +kernel) (by decide +kernel)
theorem cd_Md_type : Cd k_Md_type y_Md_type := ⟨rfl, rfl, by decide +kernel, ⟨by decide +kernel, by decide +kernel⟩, wc_Md_type, wi_Md, by decide⟩
theorem wc_Md_search : Wd (cwd k_Md_search y_Md_search) := Wd.t 879 (by decide +kernel) (by decide +kernel)
theorem cd_Md_search : Cd k_Md_search y_Md_search := ⟨rfl, rfl, by decide +kernel, ⟨by decide +kernel, by decide +kernel⟩, wc_Md_search, wi_Md, by decide⟩
theorem wc_Md_parse : Wd (cwd k_Md_parse y_Md_parse) := Wd.t 883 (by decide +kernel) (by decide +kernel)
theorem cd_Md_parse : Cd k_Md_parse y_Md_parse := ⟨rfl, rfl, by decide +kernel, ⟨by decide +kernel, by decide +kernel⟩, wc_Md_parse, wi_Md, by decide⟩
theorem wc_Md_blanks : Wd (cwd k_Md_blanks y_Md_blanks) := Wd.t 887 (by decide +kernel) (by decide +kernel)
theorem cd_Md_blanks : Cd k_Md_blanks y_Md_blanks := ⟨rfl, rfl, by decide +kernel, ⟨by decide +kernel, by decide +kernel⟩, wc_Md_blanks, wi_Md, by decide⟩
theorem wc_Md_now : Wd (cwd k_Md_now y_Md_now) := Wd.t 891 (by decide +kernel) (by decide +kernel)
theorem cd_Md_now : Cd k_Md_now y_Md_now := ⟨rfl, rfl, by decide +kernel, ⟨by decide +kernel, by decide +kernel⟩, wc_Md_now, wi_Md, by decide⟩
theorem wc_Md_takeTerm : Wd (cwd k_Md_takeTerm y_Md_takeTerm) := Wd.t 895 (by decide +kernel) (by decide +kernel)
theorem cd_Md_takeTerm : Cd k_Md_takeTerm y_Md_takeTerm := ⟨rfl, rfl, by decide +kernel, ⟨by decide +kernel, by decide +kernel⟩, wc_Md_takeTerm, wi_Md, by decide⟩
theorem wc_Md_takePhrase : Wd (cwd k_Md_takePhrase y_Md_takePhrase) := Wd.t 899 (by decide +kernel) (by decide +kernel)
theorem cd_Md_takePhrase : Cd k_Md_takePhrase y_Md_takePhrase := ⟨rfl, rfl, by decide +kernel, ⟨by decide +kernel, by decide +kernel⟩, wc_Md_takePhrase, wi_Md, by decide⟩
theorem wc_Md_blame : Wd (cwd k_Md_blame y_Md_blame) := Wd.t 903 (by decide +kernel) (by decide +kernel)
theorem cd_Md_blame : Cd k_Md_blame y_Md_blame := ⟨rfl, rfl, by decide +kernel, ⟨by decide +kernel, by decide +kernel⟩, wc_Md_blame, wi_Md, by decide⟩
theorem wc_Md_takeWord : Wd (cwd k_Md_takeWord y_Md_takeWord) := Wd.t 907 (by decide +kernel) (by decide +kernel)
theorem cd_Md_takeWord : Cd k_Md_takeWord y_Md_takeWord := ⟨rfl, rfl, by decide +kernel, ⟨by decide +kernel, by decide +kernel⟩, wc_Md_takeWord, wi_Md, by decide⟩
theorem wc_Md_score : Wd (cwd k_Md_score y_Md_score) := Wd.t 911 (by decide +kernel) (by decide +kernel)
theorem cd_Md_score : Cd k_Md_score y_Md_score := ⟨rfl, rfl, by decide +kernel, ⟨by decide +kernel, by decide +kernel⟩, wc_Md_score, wi_Md, by decide⟩
theorem wc_Md_hits : Wd (cwd k_Md_hits y_Md_hits) := Wd.t 915 (by decide +kernel) (by decide +kernel)
theorem cd_Md_hits : Cd k_Md_hits y_Md_hits := ⟨rfl, rfl, by decide +kernel, ⟨by decide +kernel, by decide +kernel⟩, wc_Md_hits, wi_Md, by decide⟩
theorem wc_Md_hit : Wd (cwd k_Md_hit y_Md_hit) := Wd.t 919 (by decide +kernel) (by decide +kernel)
theorem cd_Md_hit : Cd k_Md_hit y_Md_hit := ⟨rfl, rfl, by decide +kernel, ⟨by decide +kernel, by decide +kernel⟩, wc_Md_hit, wi_Md, by decide⟩
theorem wc_Md_place : Wd (cwd k_Md_place y_Md_place) := Wd.t 923 (by decide +kernel) (by decide +kernel)
theorem cd_Md_place : Cd k_Md_place y_Md_place := ⟨rfl, rfl, by decide +kernel, ⟨by decide +kernel, by decide +kernel⟩, wc_Md_place, wi_Md, by decide⟩
theorem wc_Md_fault : Wd (cwd k_Md_fault y_Md_fault) := Wd.t 927 (by decide +kernel) (by decide +kernel)
theorem cd_Md_fault : Cd k_Md_fault y_Md_fault := ⟨rfl, rfl, by decide +kernel, ⟨by decide +kernel, by decide +kernel⟩, wc_Md_fault, wi_Md, by decide⟩
theorem wc_Md_result : Wd (cwd k_Md_result y_Md_result) := Wd.t 931 (by decide +kernel) (by decide +kernel)
theorem cd_Md_result : Cd k_Md_result y_Md_result := ⟨rfl, rfl, by decide +kernel, ⟨by decide +kernel, by decide +kernel⟩, wc_Md_result, wi_Md, by decide⟩
theorem wc_Md_words : Wd (cwd k_Md_words y_Md_words) := Wd.t 935 (by decide +kernel) (by decide +kernel)
theorem cd_Md_words : Cd k_Md_words y_Md_words := ⟨rfl, rfl, by decide +kernel, ⟨by decide +kernel, by decide +kernel⟩, wc_Md_words, wi_Md, by decide⟩
theorem wc_Md_event : Wd (cwd k_Md_event y_Md_event) := Wd.t 939 (by decide +kernel) (by decide +kernel)
theorem cd_Md_event : Cd k_Md_event y_Md_event := ⟨rfl, rfl, by decide +kernel, ⟨by decide +kernel, by decide +kernel⟩, wc_Md_event, wi_Md, by decide⟩
theorem wc_Md_count : Wd (cwd k_Md_count y_Md_count) := Wd.t 943 (by decide +kernel) (by decide +kernel)
theorem cd_Md_count : Cd k_Md_count y_Md_count := ⟨rfl, rfl, by decide +kernel, ⟨by decide +kernel, by decide +kernel⟩, wc_Md_count, wi_Md, by decide⟩
theorem wc_Lw_make : Wd (cwd k_Lw_make y_Lw_make) := Wd.t 245 (by decide +kernel) (by decide +kernel)
theorem cd_Lw_make : Cd k_Lw_make y_Lw_make := ⟨rfl, rfl, by decide +kernel, ⟨by decide +kernel, by decide +kernel⟩, wc_Lw_make, wi_Lw, by decide⟩
theorem wc_Lw_write : Wd (cwd k_Lw_write y_Lw_write) := Wd.t 364 (by decide +kernel) (by decide +kernel)
theorem cd_Lw_write : Cd k_Lw_write y_Lw_write := ⟨rfl, rfl, by decide +kernel, ⟨by decide +kernel, by decide +kernel⟩, wc_Lw_write, wi_Lw, by decide⟩
theorem wc_Lw_cut : Wd (cwd k_Lw_cut y_Lw_cut) := Wd.t 400 (by decide +kernel) (by decide +kernel)
theorem cd_Lw_cut : Cd k_Lw_cut y_Lw_cut := ⟨rfl, rfl, by decide +kernel, ⟨by decide +kernel, by decide +kernel⟩, wc_Lw_cut, wi_Lw, by decide⟩
theorem wc_Lw_remove : Wd (cwd k_Lw_remove y_Lw_remove) := Wd.t 411 (by decide +kernel) (by decide +kernel)
theorem cd_Lw_remove : Cd k_Lw_remove y_Lw_remove := ⟨rfl, rfl, by decide +kernel, ⟨by decide +kernel, by decide +kernel⟩, wc_Lw_remove, wi_Lw, by decide⟩
theorem wc_Lw_move : Wd (cwd k_Lw_move y_Lw_move) := Wd.t 431 (by decide +kernel) (by decide +kernel)
theorem cd_Lw_move : Cd k_Lw_move y_Lw_move := ⟨rfl, rfl, by decide +kernel, ⟨by decide +kernel, by decide +kernel⟩, wc_Lw_move, wi_Lw, by decide⟩
theorem wc_Lw_work : Wd (cwd k_Lw_work y_Lw_work) := Wd.t 446 (by decide +kernel) (by decide +kernel)
theorem cd_Lw_work : Cd k_Lw_work y_Lw_work := ⟨rfl, rfl, by decide +kernel, ⟨by decide +kernel, by decide +kernel⟩, wc_Lw_work, wi_Lw, by decide⟩
theorem wc_Lw_type : Wd (cwd k_Lw_type y_Lw_type) := Wd.t 477 (by decide +kernel) (by decide +kernel)
theorem cd_Lw_type : Cd k_Lw_type y_Lw_type := ⟨rfl, rfl, by decide +kernel, ⟨by decide +kernel, by decide +kernel⟩, wc_Lw_type, wi_Lw, by decide⟩
theorem wc_Lw_search : Wd (cwd k_Lw_search y_Lw_search) := Wd.t 492 (by decide +kernel) (by decide +kernel)
theorem cd_Lw_search : Cd k_Lw_search y_Lw_search := ⟨rfl, rfl, by decide +kernel, ⟨by decide +kernel, by decide +kernel⟩, wc_Lw_search, wi_Lw, by decide⟩
theorem wc_Lw_result : Wd (cwd k_Lw_result y_Lw_result) := Wd.t 638 (by decide +kernel) (by decide +kernel)
theorem cd_Lw_result : Cd k_Lw_result y_Lw_result := ⟨rfl, rfl, by decide +kernel, ⟨by decide +kernel, by decide +kernel⟩, wc_Lw_result, wi_Lw, by decide⟩
theorem wc_Lw_words : Wd (cwd k_Lw_words y_Lw_words) := Wd.t 653 (by decide +kernel) (by decide +kernel)
theorem cd_Lw_words : Cd k_Lw_words y_Lw_words := ⟨rfl, rfl, by decide +kernel, ⟨by decide +kernel, by decide +kernel⟩, wc_Lw_words, wi_Lw, by decide⟩
theorem wc_Lw_event : Wd (cwd k_Lw_event y_Lw_event) := Wd.t 661 (by decide +kernel) (by decide +kernel)
theorem cd_Lw_event : Cd k_Lw_event y_Lw_event := ⟨rfl, rfl, by decide +kernel, ⟨by decide +kernel, by decide +kernel⟩, wc_Lw_event, wi_Lw, by decide⟩
theorem wc_Lw_count : Wd (cwd k_Lw_count y_Lw_count) := Wd.t 668 (by decide +kernel) (by decide +kernel)
theorem cd_Lw_count : Cd k_Lw_count y_Lw_count := ⟨rfl, rfl, by decide +kernel, ⟨by decide +kernel, by decide +kernel⟩, wc_Lw_count, wi_Lw, by decide⟩
theorem fl_Tr_9 : FL "FileIndexer$Tree" 9 6 0 := ⟨by decide, by decide, rfl, Wd.t 33 (by decide +kernel) rfl⟩
theorem fl_Tr_15 : FL "FileIndexer$Tree" 15 6 1 := ⟨by decide, by decide, rfl, Wd.t 34 (by decide +kernel) rfl⟩
theorem fl_Tr_20 : FL "FileIndexer$Tree" 20 6 2 := ⟨by decide, by decide, rfl, Wd.t 35 (by decide +kernel) rfl⟩
theorem fl_Tr_23 : FL "FileIndexer$Tree" 23 6 3 := ⟨by decide, by decide, rfl, Wd.t 36 (by decide +kernel) rfl⟩
theorem fl_Qu_9 : FL "FileIndexer$Queue" 9 3 0 := ⟨by decide, by decide, rfl, Wd.t 53 (by decide +kernel) rfl⟩
theorem fl_Qu_15 : FL "FileIndexer$Queue" 15 3 1 := ⟨by decide, by decide, rfl, Wd.t 54 (by decide +kernel) rfl⟩
theorem fl_Qu_18 : FL "FileIndexer$Queue" 18 3 2 := ⟨by decide, by decide, rfl, Wd.t 55 (by decide +kernel) rfl⟩
theorem fl_Qu_22 : FL "FileIndexer$Queue" 22 3 3 := ⟨by decide, by decide, rfl, Wd.t 56 (by decide +kernel) rfl⟩
theorem fl_En_11 : FL "FileIndexer$Entry" 11 0 0 := ⟨by decide, by decide, rfl, Wd.t 79 (by decide +kernel) rfl⟩
theorem fl_En_15 : FL "FileIndexer$Entry" 15 0 1 := ⟨by decide, by decide, rfl, Wd.t 80 (by decide +kernel) rfl⟩
theorem fl_En_19 : FL "FileIndexer$Entry" 19 0 2 := ⟨by decide, by decide, rfl, Wd.t 81 (by decide +kernel) rfl⟩
theorem fl_Ix_11 : FL "FileIndexer$Index" 11 1 0 := ⟨by decide, by decide, rfl, Wd.t 91 (by decide +kernel) rfl⟩
theorem fl_Ix_17 : FL "FileIndexer$Index" 17 1 1 := ⟨by decide, by decide, rfl, Wd.t 92 (by decide +kernel) rfl⟩
theorem fl_Ix_30 : FL "FileIndexer$Index" 30 1 2 := ⟨by decide, by decide, rfl, Wd.t 93 (by decide +kernel) rfl⟩
theorem fl_Tm_9 : FL "FileIndexer$Term" 9 5 0 := ⟨by decide, by decide, rfl, Wd.t 114 (by decide +kernel) rfl⟩
theorem fl_Tm_15 : FL "FileIndexer$Term" 15 5 1 := ⟨by decide, by decide, rfl, Wd.t 115 (by decide +kernel) rfl⟩
theorem fl_Tm_19 : FL "FileIndexer$Term" 19 5 2 := ⟨by decide, by decide, rfl, Wd.t 116 (by decide +kernel) rfl⟩
theorem fl_Tm_22 : FL "FileIndexer$Term" 22 5 3 := ⟨by decide, by decide, rfl, Wd.t 117 (by decide +kernel) rfl⟩
theorem fl_Tm_28 : FL "FileIndexer$Term" 28 5 4 := ⟨by decide, by decide, rfl, Wd.t 118 (by decide +kernel) rfl⟩
theorem fl_Qy_9 : FL "FileIndexer$Query" 9 2 0 := ⟨by decide, by decide, rfl, Wd.t 130 (by decide +kernel) rfl⟩
theorem fl_Qy_22 : FL "FileIndexer$Query" 22 2 1 := ⟨by decide, by decide, rfl, Wd.t 131 (by decide +kernel) rfl⟩
theorem fl_Qy_17 : FL "FileIndexer$Query" 17 2 2 := ⟨by decide, by decide, rfl, Wd.t 132 (by decide +kernel) rfl⟩
theorem fl_Qy_32 : FL "FileIndexer$Query" 32 2 3 := ⟨by decide, by decide, rfl, Wd.t 133 (by decide +kernel) rfl⟩
theorem fl_Qy_35 : FL "FileIndexer$Query" 35 2 4 := ⟨by decide, by decide, rfl, Wd.t 134 (by decide +kernel) rfl⟩
theorem fl_Qy_26 : FL "FileIndexer$Query" 26 2 5 := ⟨by decide, by decide, rfl, Wd.t 135 (by decide +kernel) rfl⟩
theorem fl_Qy_29 : FL "FileIndexer$Query" 29 2 6 := ⟨by decide, by decide, rfl, Wd.t 136 (by decide +kernel) rfl⟩
theorem fl_Rk_9 : FL "FileIndexer$Ranking" 9 4 0 := ⟨by decide, by decide, rfl, Wd.t 158 (by decide +kernel) rfl⟩
theorem fl_Rk_15 : FL "FileIndexer$Ranking" 15 4 1 := ⟨by decide, by decide, rfl, Wd.t 159 (by decide +kernel) rfl⟩
theorem fl_Rk_18 : FL "FileIndexer$Ranking" 18 4 2 := ⟨by decide, by decide, rfl, Wd.t 160 (by decide +kernel) rfl⟩
theorem fl_Fi_10 : FL "FileIndexer" 10 7 0 := ⟨by decide, by decide, rfl, Wd.t 168 (by decide +kernel) rfl⟩
theorem fl_Fi_19 : FL "FileIndexer" 19 7 1 := ⟨by decide, by decide, rfl, Wd.t 169 (by decide +kernel) rfl⟩
theorem fl_Fi_26 : FL "FileIndexer" 26 7 2 := ⟨by decide, by decide, rfl, Wd.t 170 (by decide +kernel) rfl⟩
theorem fl_Fi_33 : FL "FileIndexer" 33 7 3 := ⟨by decide, by decide, rfl, Wd.t 171 (by decide +kernel) rfl⟩
theorem fl_Fi_40 : FL "FileIndexer" 40 7 4 := ⟨by decide, by decide, rfl, Wd.t 172 (by decide +kernel) rfl⟩
theorem fl_Fi_44 : FL "FileIndexer" 44 7 5 := ⟨by decide, by decide, rfl, Wd.t 173 (by decide +kernel) rfl⟩
theorem fl_Md_85 : FL "FileIndexerModel" 85 8 0 := ⟨by decide, by decide, rfl, Wd.t 696 (by decide +kernel) rfl⟩
theorem fl_Md_7 : FL "FileIndexerModel" 7 8 1 := ⟨by decide, by decide, rfl, Wd.t 697 (by decide +kernel) rfl⟩
theorem fl_Md_13 : FL "FileIndexerModel" 13 8 2 := ⟨by decide, by decide, rfl, Wd.t 698 (by decide +kernel) rfl⟩
theorem fl_Md_16 : FL "FileIndexerModel" 16 8 3 := ⟨by decide, by decide, rfl, Wd.t 699 (by decide +kernel) rfl⟩
theorem fl_Md_20 : FL "FileIndexerModel" 20 8 4 := ⟨by decide, by decide, rfl, Wd.t 700 (by decide +kernel) rfl⟩
theorem fl_Md_23 : FL "FileIndexerModel" 23 8 5 := ⟨by decide, by decide, rfl, Wd.t 701 (by decide +kernel) rfl⟩
theorem fl_Md_26 : FL "FileIndexerModel" 26 8 6 := ⟨by decide, by decide, rfl, Wd.t 702 (by decide +kernel) rfl⟩
theorem fl_Md_29 : FL "FileIndexerModel" 29 8 7 := ⟨by decide, by decide, rfl, Wd.t 703 (by decide +kernel) rfl⟩
theorem fl_Md_32 : FL "FileIndexerModel" 32 8 8 := ⟨by decide, by decide, rfl, Wd.t 704 (by decide +kernel) rfl⟩
theorem fl_Md_92 : FL "FileIndexerModel" 92 8 9 := ⟨by decide, by decide, rfl, Wd.t 705 (by decide +kernel) rfl⟩
theorem fl_Md_95 : FL "FileIndexerModel" 95 8 10 := ⟨by decide, by decide, rfl, Wd.t 706 (by decide +kernel) rfl⟩
theorem fl_Md_132 : FL "FileIndexerModel" 132 8 11 := ⟨by decide, by decide, rfl, Wd.t 707 (by decide +kernel) rfl⟩
theorem fl_Md_35 : FL "FileIndexerModel" 35 8 12 := ⟨by decide, by decide, rfl, Wd.t 708 (by decide +kernel) rfl⟩
theorem fl_Md_38 : FL "FileIndexerModel" 38 8 13 := ⟨by decide, by decide, rfl, Wd.t 709 (by decide +kernel) rfl⟩
theorem fl_Md_41 : FL "FileIndexerModel" 41 8 14 := ⟨by decide, by decide, rfl, Wd.t 710 (by decide +kernel) rfl⟩
theorem fl_Md_45 : FL "FileIndexerModel" 45 8 15 := ⟨by decide, by decide, rfl, Wd.t 711 (by decide +kernel) rfl⟩
theorem fl_Md_48 : FL "FileIndexerModel" 48 8 16 := ⟨by decide, by decide, rfl, Wd.t 712 (by decide +kernel) rfl⟩
theorem fl_Md_51 : FL "FileIndexerModel" 51 8 17 := ⟨by decide, by decide, rfl, Wd.t 713 (by decide +kernel) rfl⟩
theorem fl_Md_138 : FL "FileIndexerModel" 138 8 18 := ⟨by decide, by decide, rfl, Wd.t 714 (by decide +kernel) rfl⟩
theorem fl_Md_54 : FL "FileIndexerModel" 54 8 19 := ⟨by decide, by decide, rfl, Wd.t 715 (by decide +kernel) rfl⟩
theorem fl_Md_57 : FL "FileIndexerModel" 57 8 20 := ⟨by decide, by decide, rfl, Wd.t 716 (by decide +kernel) rfl⟩
theorem fl_Md_60 : FL "FileIndexerModel" 60 8 21 := ⟨by decide, by decide, rfl, Wd.t 717 (by decide +kernel) rfl⟩
theorem fl_Md_63 : FL "FileIndexerModel" 63 8 22 := ⟨by decide, by decide, rfl, Wd.t 718 (by decide +kernel) rfl⟩
theorem fl_Md_66 : FL "FileIndexerModel" 66 8 23 := ⟨by decide, by decide, rfl, Wd.t 719 (by decide +kernel) rfl⟩
theorem fl_Md_163 : FL "FileIndexerModel" 163 8 24 := ⟨by decide, by decide, rfl, Wd.t 720 (by decide +kernel) rfl⟩
theorem fl_Md_69 : FL "FileIndexerModel" 69 8 25 := ⟨by decide, by decide, rfl, Wd.t 721 (by decide +kernel) rfl⟩
theorem fl_Md_72 : FL "FileIndexerModel" 72 8 26 := ⟨by decide, by decide, rfl, Wd.t 722 (by decide +kernel) rfl⟩
theorem fl_Md_154 : FL "FileIndexerModel" 154 8 27 := ⟨by decide, by decide, rfl, Wd.t 723 (by decide +kernel) rfl⟩
theorem fl_Md_141 : FL "FileIndexerModel" 141 8 28 := ⟨by decide, by decide, rfl, Wd.t 724 (by decide +kernel) rfl⟩
theorem fl_Md_148 : FL "FileIndexerModel" 148 8 29 := ⟨by decide, by decide, rfl, Wd.t 725 (by decide +kernel) rfl⟩
theorem fl_Md_75 : FL "FileIndexerModel" 75 8 30 := ⟨by decide, by decide, rfl, Wd.t 726 (by decide +kernel) rfl⟩
theorem fl_Md_79 : FL "FileIndexerModel" 79 8 31 := ⟨by decide, by decide, rfl, Wd.t 727 (by decide +kernel) rfl⟩
theorem fl_Md_82 : FL "FileIndexerModel" 82 8 32 := ⟨by decide, by decide, rfl, Wd.t 728 (by decide +kernel) rfl⟩
theorem fl_Md_178 : FL "FileIndexerModel" 178 8 33 := ⟨by decide, by decide, rfl, Wd.t 729 (by decide +kernel) rfl⟩
theorem cs_Lw_55 : CsI "FileIndexerLaw" 55 k_Fi_init y_Fi_init 0 := ⟨cd_Fi_init, Or.inl (Wd.t 19 (by decide +kernel) rfl), Wd.t 20 (by decide +kernel) rfl, rfl, rfl, rfl, by decide +kernel⟩
theorem cs_Fi_9 : CsI "FileIndexer" 9 k_Tr_init y_Tr_init 0 := ⟨cd_Tr_init, Or.inl (Wd.t 27 (by decide +kernel) rfl), Wd.t 28 (by decide +kernel) rfl, rfl, rfl, rfl, by decide +kernel⟩
theorem cs_Fi_25 : CsI "FileIndexer" 25 k_Ix_init y_Ix_init 0 := ⟨cd_Ix_init, Or.inl (Wd.t 68 (by decide +kernel) rfl), Wd.t 69 (by decide +kernel) rfl, rfl, rfl, rfl, by decide +kernel⟩
theorem cs_Fi_32 : CsI "FileIndexer" 32 k_Qy_init y_Qy_init 0 := ⟨cd_Qy_init, Or.inl (Wd.t 103 (by decide +kernel) rfl), Wd.t 104 (by decide +kernel) rfl, rfl, rfl, rfl, by decide +kernel⟩
theorem cs_Lw_89 : CsV "FileIndexerLaw" 89 k_Fi_rescan y_Fi_rescan 0 := ⟨cd_Fi_rescan, Wd.t 187 (by decide +kernel) rfl, Wd.t 188 (by decide +kernel) rfl, Wd.t 189 (by decide +kernel) rfl, by decide +kernel⟩
theorem cs_Fi_75 : CsV "FileIndexer" 75 k_Tr_isFile y_Tr_isFile 1 := ⟨cd_Tr_isFile, Wd.t 191 (by decide +kernel) rfl, Wd.t 192 (by decide +kernel) rfl, Wd.t 193 (by decide +kernel) rfl, by decide +kernel⟩
theorem cs_Fi_139 : CsV "FileIndexer" 139 k_Fi_readFile y_Fi_readFile 1 := ⟨cd_Fi_readFile, Wd.t 198 (by decide +kernel) rfl, Wd.t 200 (by decide +kernel) rfl, ⟨by decide +kernel, rfl⟩, by decide +kernel⟩
theorem cs_Fi_197 : CsV "FileIndexer" 197 k_Tr_contentOf y_Tr_contentOf 1 := ⟨cd_Tr_contentOf, Wd.t 202 (by decide +kernel) rfl, Wd.t 203 (by decide +kernel) rfl, Wd.t 204 (by decide +kernel) rfl, by decide +kernel⟩
theorem cs_Fi_85 : CsV "FileIndexer" 85 k_Tr_lengthOf y_Tr_lengthOf 1 := ⟨cd_Tr_lengthOf, Wd.t 206 (by decide +kernel) rfl, Wd.t 207 (by decide +kernel) rfl, Wd.t 208 (by decide +kernel) rfl, by decide +kernel⟩
theorem cs_Fi_201 : CsV "FileIndexer" 201 k_Ix_read y_Ix_read 3 := ⟨cd_Ix_read, Wd.t 210 (by decide +kernel) rfl, Wd.t 211 (by decide +kernel) rfl, Wd.t 212 (by decide +kernel) rfl, by decide +kernel⟩
theorem cs_Ix_26 : CsV "FileIndexer$Index" 26 k_En_take y_En_take 2 := ⟨cd_En_take, Wd.t 214 (by decide +kernel) rfl, Wd.t 215 (by decide +kernel) rfl, Wd.t 216 (by decide +kernel) rfl, by decide +kernel⟩
theorem cs_En_23 : CsS "FileIndexer$Entry" 23 k_En_titleEndOf y_En_titleEndOf 2 := ⟨cd_En_titleEndOf, Wd.t 218 (by decide +kernel) rfl, Wd.t 219 (by decide +kernel) rfl, by decide +kernel⟩
theorem cs_En_35 : CsV "FileIndexer$Entry" 35 k_En_add y_En_add 2 := ⟨cd_En_add, Wd.t 227 (by decide +kernel) rfl, Wd.t 229 (by decide +kernel) rfl, ⟨by decide +kernel, rfl⟩, by decide +kernel⟩
theorem cs_Fi_142 : CsV "FileIndexer" 142 k_Ix_forget y_Ix_forget 1 := ⟨cd_Ix_forget, Wd.t 231 (by decide +kernel) rfl, Wd.t 232 (by decide +kernel) rfl, Wd.t 233 (by decide +kernel) rfl, by decide +kernel⟩
theorem cs_Fi_145 : CsV "FileIndexer" 145 k_Qu_startAnew y_Qu_startAnew 0 := ⟨cd_Qu_startAnew, Wd.t 235 (by decide +kernel) rfl, Wd.t 236 (by decide +kernel) rfl, Wd.t 237 (by decide +kernel) rfl, by decide +kernel⟩
theorem cs_Lw_99 : CsV "FileIndexerLaw" 99 k_Fi_fault y_Fi_fault 0 := ⟨cd_Fi_fault, Wd.t 239 (by decide +kernel) rfl, Wd.t 240 (by decide +kernel) rfl, Wd.t 241 (by decide +kernel) rfl, by decide +kernel⟩
theorem cs_Lw_59 : CsS "FileIndexerLaw" 59 k_Lw_make y_Lw_make 5 := ⟨cd_Lw_make, Wd.t 243 (by decide +kernel) rfl, Wd.t 244 (by decide +kernel) rfl, by decide +kernel⟩
theorem cs_Lw_7 : CsV "FileIndexerLaw" 7 k_Fi_make y_Fi_make 3 := ⟨cd_Fi_make, Wd.t 248 (by decide +kernel) rfl, Wd.t 249 (by decide +kernel) rfl, Wd.t 250 (by decide +kernel) rfl, by decide +kernel⟩
theorem cs_Fi_48 : CsS "FileIndexer" 48 k_Fi_isNodeBelowRoot y_Fi_isNodeBelowRoot 1 := ⟨cd_Fi_isNodeBelowRoot, Wd.t 252 (by decide +kernel) rfl, Wd.t 253 (by decide +kernel) rfl, by decide +kernel⟩
theorem cs_Fi_52 : CsS "FileIndexer" 52 k_Fi_isNode y_Fi_isNode 1 := ⟨cd_Fi_isNode, Wd.t 255 (by decide +kernel) rfl, Wd.t 196 (by decide +kernel) rfl, by decide +kernel⟩
theorem cs_Fi_58 : CsV "FileIndexer" 58 k_Tr_isThere y_Tr_isThere 1 := ⟨cd_Tr_isThere, Wd.t 319 (by decide +kernel) rfl, Wd.t 320 (by decide +kernel) rfl, Wd.t 321 (by decide +kernel) rfl, by decide +kernel⟩
theorem cs_Fi_61 : CsV "FileIndexer" 61 k_Tr_isFolder y_Tr_isFolder 1 := ⟨cd_Tr_isFolder, Wd.t 323 (by decide +kernel) rfl, Wd.t 324 (by decide +kernel) rfl, Wd.t 325 (by decide +kernel) rfl, by decide +kernel⟩
theorem cs_Fi_67 : CsV "FileIndexer" 67 k_Tr_put y_Tr_put 3 := ⟨cd_Tr_put, Wd.t 342 (by decide +kernel) rfl, Wd.t 343 (by decide +kernel) rfl, Wd.t 344 (by decide +kernel) rfl, by decide +kernel⟩
theorem cs_Fi_71 : CsV "FileIndexer" 71 k_Qu_tell y_Qu_tell 2 := ⟨cd_Qu_tell, Wd.t 346 (by decide +kernel) rfl, Wd.t 347 (by decide +kernel) rfl, Wd.t 348 (by decide +kernel) rfl, by decide +kernel⟩
theorem cs_Qu_26 : CsV "FileIndexer$Queue" 26 k_Qu_placeOf y_Qu_placeOf 1 := ⟨cd_Qu_placeOf, Wd.t 350 (by decide +kernel) rfl, Wd.t 352 (by decide +kernel) rfl, ⟨by decide +kernel, rfl⟩, by decide +kernel⟩
theorem cs_Qu_30 : CsV "FileIndexer$Queue" 30 k_Qu_putTogether y_Qu_putTogether 2 := ⟨cd_Qu_putTogether, Wd.t 354 (by decide +kernel) rfl, Wd.t 356 (by decide +kernel) rfl, ⟨by decide +kernel, rfl⟩, by decide +kernel⟩
theorem cs_Qu_34 : CsV "FileIndexer$Queue" 34 k_Qu_drop y_Qu_drop 1 := ⟨cd_Qu_drop, Wd.t 358 (by decide +kernel) rfl, Wd.t 359 (by decide +kernel) rfl, Wd.t 360 (by decide +kernel) rfl, by decide +kernel⟩
theorem cs_Lw_71 : CsS "FileIndexerLaw" 71 k_Lw_write y_Lw_write 5 := ⟨cd_Lw_write, Wd.t 362 (by decide +kernel) rfl, Wd.t 363 (by decide +kernel) rfl, by decide +kernel⟩
theorem cs_Lw_17 : CsV "FileIndexerLaw" 17 k_Fi_write y_Fi_write 3 := ⟨cd_Fi_write, Wd.t 366 (by decide +kernel) rfl, Wd.t 367 (by decide +kernel) rfl, Wd.t 368 (by decide +kernel) rfl, by decide +kernel⟩
theorem cs_Fi_81 : CsS "FileIndexer" 81 k_Fi_areCodes y_Fi_areCodes 2 := ⟨cd_Fi_areCodes, Wd.t 385 (by decide +kernel) rfl, Wd.t 386 (by decide +kernel) rfl, by decide +kernel⟩
theorem cs_Fi_89 : CsS "FileIndexer" 89 k_Fi_byteOf y_Fi_byteOf 2 := ⟨cd_Fi_byteOf, Wd.t 388 (by decide +kernel) rfl, Wd.t 389 (by decide +kernel) rfl, by decide +kernel⟩
theorem cs_Fi_148 : CsS "FileIndexer" 148 k_Fi_isCode y_Fi_isCode 1 := ⟨cd_Fi_isCode, Wd.t 391 (by decide +kernel) rfl, Wd.t 392 (by decide +kernel) rfl, by decide +kernel⟩
theorem cs_Fi_93 : CsV "FileIndexer" 93 k_Tr_append y_Tr_append 2 := ⟨cd_Tr_append, Wd.t 394 (by decide +kernel) rfl, Wd.t 395 (by decide +kernel) rfl, Wd.t 396 (by decide +kernel) rfl, by decide +kernel⟩
theorem cs_Lw_75 : CsS "FileIndexerLaw" 75 k_Lw_cut y_Lw_cut 4 := ⟨cd_Lw_cut, Wd.t 398 (by decide +kernel) rfl, Wd.t 399 (by decide +kernel) rfl, by decide +kernel⟩
theorem cs_Lw_23 : CsV "FileIndexerLaw" 23 k_Fi_cut y_Fi_cut 2 := ⟨cd_Fi_cut, Wd.t 401 (by decide +kernel) rfl, Wd.t 402 (by decide +kernel) rfl, Wd.t 403 (by decide +kernel) rfl, by decide +kernel⟩
theorem cs_Fi_96 : CsV "FileIndexer" 96 k_Tr_shorten y_Tr_shorten 2 := ⟨cd_Tr_shorten, Wd.t 405 (by decide +kernel) rfl, Wd.t 406 (by decide +kernel) rfl, Wd.t 407 (by decide +kernel) rfl, by decide +kernel⟩
theorem cs_Lw_79 : CsS "FileIndexerLaw" 79 k_Lw_remove y_Lw_remove 3 := ⟨cd_Lw_remove, Wd.t 409 (by decide +kernel) rfl, Wd.t 410 (by decide +kernel) rfl, by decide +kernel⟩
theorem cs_Lw_27 : CsV "FileIndexerLaw" 27 k_Fi_remove y_Fi_remove 1 := ⟨cd_Fi_remove, Wd.t 412 (by decide +kernel) rfl, Wd.t 413 (by decide +kernel) rfl, Wd.t 414 (by decide +kernel) rfl, by decide +kernel⟩
theorem cs_Fi_99 : CsV "FileIndexer" 99 k_Tr_isWithin y_Tr_isWithin 2 := ⟨cd_Tr_isWithin, Wd.t 416 (by decide +kernel) rfl, Wd.t 417 (by decide +kernel) rfl, Wd.t 418 (by decide +kernel) rfl, by decide +kernel⟩
theorem cs_Tr_30 : CsV "FileIndexer$Tree" 30 k_Tr_isThere y_Tr_isThere 1 := ⟨cd_Tr_isThere, Wd.t 420 (by decide +kernel) rfl, Wd.t 320 (by decide +kernel) rfl, Wd.t 321 (by decide +kernel) rfl, by decide +kernel⟩
theorem cs_Fi_103 : CsV "FileIndexer" 103 k_Fi_removeOne y_Fi_removeOne 1 := ⟨cd_Fi_removeOne, Wd.t 421 (by decide +kernel) rfl, Wd.t 423 (by decide +kernel) rfl, ⟨by decide +kernel, rfl⟩, by decide +kernel⟩
theorem cs_Fi_196 : CsV "FileIndexer" 196 k_Tr_drop y_Tr_drop 1 := ⟨cd_Tr_drop, Wd.t 425 (by decide +kernel) rfl, Wd.t 426 (by decide +kernel) rfl, Wd.t 427 (by decide +kernel) rfl, by decide +kernel⟩
theorem cs_Lw_83 : CsS "FileIndexerLaw" 83 k_Lw_move y_Lw_move 4 := ⟨cd_Lw_move, Wd.t 429 (by decide +kernel) rfl, Wd.t 430 (by decide +kernel) rfl, by decide +kernel⟩
theorem cs_Lw_31 : CsV "FileIndexerLaw" 31 k_Fi_move y_Fi_move 2 := ⟨cd_Fi_move, Wd.t 432 (by decide +kernel) rfl, Wd.t 433 (by decide +kernel) rfl, Wd.t 434 (by decide +kernel) rfl, by decide +kernel⟩
theorem cs_Fi_107 : CsV "FileIndexer" 107 k_Tr_parentOf y_Tr_parentOf 1 := ⟨cd_Tr_parentOf, Wd.t 436 (by decide +kernel) rfl, Wd.t 437 (by decide +kernel) rfl, Wd.t 438 (by decide +kernel) rfl, by decide +kernel⟩
theorem cs_Fi_110 : CsV "FileIndexer" 110 k_Tr_hang y_Tr_hang 2 := ⟨cd_Tr_hang, Wd.t 440 (by decide +kernel) rfl, Wd.t 441 (by decide +kernel) rfl, Wd.t 442 (by decide +kernel) rfl, by decide +kernel⟩
theorem cs_Lw_86 : CsS "FileIndexerLaw" 86 k_Lw_work y_Lw_work 3 := ⟨cd_Lw_work, Wd.t 444 (by decide +kernel) rfl, Wd.t 445 (by decide +kernel) rfl, by decide +kernel⟩
theorem cs_Lw_34 : CsV "FileIndexerLaw" 34 k_Fi_work y_Fi_work 1 := ⟨cd_Fi_work, Wd.t 447 (by decide +kernel) rfl, Wd.t 448 (by decide +kernel) rfl, Wd.t 449 (by decide +kernel) rfl, by decide +kernel⟩
theorem cs_Fi_113 : CsV "FileIndexer" 113 k_Qu_isLost y_Qu_isLost 0 := ⟨cd_Qu_isLost, Wd.t 451 (by decide +kernel) rfl, Wd.t 452 (by decide +kernel) rfl, Wd.t 453 (by decide +kernel) rfl, by decide +kernel⟩
theorem cs_Fi_117 : CsV "FileIndexer" 117 k_Qu_size y_Qu_size 0 := ⟨cd_Qu_size, Wd.t 455 (by decide +kernel) rfl, Wd.t 456 (by decide +kernel) rfl, Wd.t 457 (by decide +kernel) rfl, by decide +kernel⟩
theorem wm_Fi_121 : Wd (.methodLink "FileIndexer" 121 y_Mt_min) := Wd.t 459 (by decide +kernel) rfl
theorem ws_Mt_min : Wd (.static y_Mt_min) := Wd.t 460 (by decide +kernel) rfl
theorem cs_Fi_127 : CsV "FileIndexer" 127 k_Qu_kindAt y_Qu_kindAt 1 := ⟨cd_Qu_kindAt, Wd.t 462 (by decide +kernel) rfl, Wd.t 463 (by decide +kernel) rfl, Wd.t 464 (by decide +kernel) rfl, by decide +kernel⟩
theorem cs_Fi_130 : CsV "FileIndexer" 130 k_Qu_fileAt y_Qu_fileAt 1 := ⟨cd_Qu_fileAt, Wd.t 466 (by decide +kernel) rfl, Wd.t 467 (by decide +kernel) rfl, Wd.t 468 (by decide +kernel) rfl, by decide +kernel⟩
theorem cs_Fi_133 : CsV "FileIndexer" 133 k_Fi_follow y_Fi_follow 2 := ⟨cd_Fi_follow, Wd.t 470 (by decide +kernel) rfl, Wd.t 472 (by decide +kernel) rfl, ⟨by decide +kernel, rfl⟩, by decide +kernel⟩
theorem cs_Fi_136 : CsV "FileIndexer" 136 k_Qu_drop y_Qu_drop 1 := ⟨cd_Qu_drop, Wd.t 474 (by decide +kernel) rfl, Wd.t 359 (by decide +kernel) rfl, Wd.t 360 (by decide +kernel) rfl, by decide +kernel⟩
theorem cs_Lw_93 : CsS "FileIndexerLaw" 93 k_Lw_type y_Lw_type 3 := ⟨cd_Lw_type, Wd.t 475 (by decide +kernel) rfl, Wd.t 476 (by decide +kernel) rfl, by decide +kernel⟩
theorem cs_Lw_37 : CsV "FileIndexerLaw" 37 k_Fi_type y_Fi_type 1 := ⟨cd_Fi_type, Wd.t 478 (by decide +kernel) rfl, Wd.t 479 (by decide +kernel) rfl, Wd.t 480 (by decide +kernel) rfl, by decide +kernel⟩
theorem cs_Fi_151 : CsV "FileIndexer" 151 k_Qy_length y_Qy_length 0 := ⟨cd_Qy_length, Wd.t 482 (by decide +kernel) rfl, Wd.t 483 (by decide +kernel) rfl, Wd.t 484 (by decide +kernel) rfl, by decide +kernel⟩
theorem cs_Fi_154 : CsV "FileIndexer" 154 k_Qy_append y_Qy_append 1 := ⟨cd_Qy_append, Wd.t 486 (by decide +kernel) rfl, Wd.t 487 (by decide +kernel) rfl, Wd.t 488 (by decide +kernel) rfl, by decide +kernel⟩
theorem cs_Lw_96 : CsS "FileIndexerLaw" 96 k_Lw_search y_Lw_search 3 := ⟨cd_Lw_search, Wd.t 490 (by decide +kernel) rfl, Wd.t 491 (by decide +kernel) rfl, by decide +kernel⟩
theorem cs_Lw_40 : CsV "FileIndexerLaw" 40 k_Fi_search y_Fi_search 1 := ⟨cd_Fi_search, Wd.t 493 (by decide +kernel) rfl, Wd.t 494 (by decide +kernel) rfl, Wd.t 495 (by decide +kernel) rfl, by decide +kernel⟩
theorem cs_Fi_156 : CsV "FileIndexer" 156 k_Rk_clear y_Rk_clear 0 := ⟨cd_Rk_clear, Wd.t 497 (by decide +kernel) rfl, Wd.t 498 (by decide +kernel) rfl, Wd.t 499 (by decide +kernel) rfl, by decide +kernel⟩
theorem cs_Fi_159 : CsV "FileIndexer" 159 k_Qy_parse y_Qy_parse 0 := ⟨cd_Qy_parse, Wd.t 501 (by decide +kernel) rfl, Wd.t 502 (by decide +kernel) rfl, Wd.t 503 (by decide +kernel) rfl, by decide +kernel⟩
theorem cs_Qy_38 : CsV "FileIndexer$Query" 38 k_Qy_parseAlternative y_Qy_parseAlternative 0 := ⟨cd_Qy_parseAlternative, Wd.t 505 (by decide +kernel) rfl, Wd.t 507 (by decide +kernel) rfl, ⟨by decide +kernel, rfl⟩, by decide +kernel⟩
theorem cs_Qy_70 : CsV "FileIndexer$Query" 70 k_Qy_skipBlanks y_Qy_skipBlanks 0 := ⟨cd_Qy_skipBlanks, Wd.t 509 (by decide +kernel) rfl, Wd.t 511 (by decide +kernel) rfl, ⟨by decide +kernel, rfl⟩, by decide +kernel⟩
theorem cs_Qy_73 : CsV "FileIndexer$Query" 73 k_Qy_parseTerm y_Qy_parseTerm 0 := ⟨cd_Qy_parseTerm, Wd.t 513 (by decide +kernel) rfl, Wd.t 515 (by decide +kernel) rfl, ⟨by decide +kernel, rfl⟩, by decide +kernel⟩
theorem cs_Qy_79 : CsV "FileIndexer$Query" 79 k_Tm_begin y_Tm_begin 1 := ⟨cd_Tm_begin, Wd.t 517 (by decide +kernel) rfl, Wd.t 518 (by decide +kernel) rfl, Wd.t 519 (by decide +kernel) rfl, by decide +kernel⟩
theorem cs_Qy_45 : CsV "FileIndexer$Query" 45 k_Qy_next y_Qy_next 0 := ⟨cd_Qy_next, Wd.t 522 (by decide +kernel) rfl, Wd.t 524 (by decide +kernel) rfl, ⟨by decide +kernel, rfl⟩, by decide +kernel⟩
theorem cs_Qy_83 : CsV "FileIndexer$Query" 83 k_Tm_forbid y_Tm_forbid 0 := ⟨cd_Tm_forbid, Wd.t 526 (by decide +kernel) rfl, Wd.t 527 (by decide +kernel) rfl, Wd.t 528 (by decide +kernel) rfl, by decide +kernel⟩
theorem cs_Qy_86 : CsV "FileIndexer$Query" 86 k_Qy_parsePhrase y_Qy_parsePhrase 1 := ⟨cd_Qy_parsePhrase, Wd.t 530 (by decide +kernel) rfl, Wd.t 532 (by decide +kernel) rfl, ⟨by decide +kernel, rfl⟩, by decide +kernel⟩
theorem cs_Qy_41 : CsV "FileIndexer$Query" 41 k_Qy_isFaulty y_Qy_isFaulty 0 := ⟨cd_Qy_isFaulty, Wd.t 534 (by decide +kernel) rfl, Wd.t 536 (by decide +kernel) rfl, ⟨by decide +kernel, rfl⟩, by decide +kernel⟩
theorem cs_Qy_96 : CsV "FileIndexer$Query" 96 k_Qy_parseWord y_Qy_parseWord 1 := ⟨cd_Qy_parseWord, Wd.t 539 (by decide +kernel) rfl, Wd.t 541 (by decide +kernel) rfl, ⟨by decide +kernel, rfl⟩, by decide +kernel⟩
theorem cs_Qy_112 : CsV "FileIndexer$Query" 112 k_Tm_add y_Tm_add 1 := ⟨cd_Tm_add, Wd.t 544 (by decide +kernel) rfl, Wd.t 545 (by decide +kernel) rfl, Wd.t 546 (by decide +kernel) rfl, by decide +kernel⟩
theorem cs_Qy_105 : CsV "FileIndexer$Query" 105 k_Tm_isEmpty y_Tm_isEmpty 0 := ⟨cd_Tm_isEmpty, Wd.t 548 (by decide +kernel) rfl, Wd.t 549 (by decide +kernel) rfl, Wd.t 550 (by decide +kernel) rfl, by decide +kernel⟩
theorem cs_Qy_90 : CsV "FileIndexer$Query" 90 k_Qy_parseWordOrBeginning y_Qy_parseWordOrBeginning 1 := ⟨cd_Qy_parseWordOrBeginning, Wd.t 552 (by decide +kernel) rfl, Wd.t 554 (by decide +kernel) rfl, ⟨by decide +kernel, rfl⟩, by decide +kernel⟩
theorem cs_Qy_99 : CsV "FileIndexer$Query" 99 k_Tm_compareOnly y_Tm_compareOnly 1 := ⟨cd_Tm_compareOnly, Wd.t 556 (by decide +kernel) rfl, Wd.t 557 (by decide +kernel) rfl, Wd.t 558 (by decide +kernel) rfl, by decide +kernel⟩
theorem cs_Qy_93 : CsV "FileIndexer$Query" 93 k_Qy_endTerm y_Qy_endTerm 0 := ⟨cd_Qy_endTerm, Wd.t 560 (by decide +kernel) rfl, Wd.t 562 (by decide +kernel) rfl, ⟨by decide +kernel, rfl⟩, by decide +kernel⟩
theorem cs_Qy_76 : CsV "FileIndexer$Query" 76 k_Qy_atAlternativeEnd y_Qy_atAlternativeEnd 0 := ⟨cd_Qy_atAlternativeEnd, Wd.t 564 (by decide +kernel) rfl, Wd.t 566 (by decide +kernel) rfl, ⟨by decide +kernel, rfl⟩, by decide +kernel⟩
theorem cs_Fi_162 : CsV "FileIndexer" 162 k_Qy_clearText y_Qy_clearText 0 := ⟨cd_Qy_clearText, Wd.t 568 (by decide +kernel) rfl, Wd.t 569 (by decide +kernel) rfl, Wd.t 570 (by decide +kernel) rfl, by decide +kernel⟩
theorem cs_Fi_165 : CsV "FileIndexer" 165 k_Ix_has y_Ix_has 1 := ⟨cd_Ix_has, Wd.t 572 (by decide +kernel) rfl, Wd.t 573 (by decide +kernel) rfl, Wd.t 574 (by decide +kernel) rfl, by decide +kernel⟩
theorem cs_Fi_168 : CsV "FileIndexer" 168 k_Fi_isSearched y_Fi_isSearched 2 := ⟨cd_Fi_isSearched, Wd.t 577 (by decide +kernel) rfl, Wd.t 579 (by decide +kernel) rfl, ⟨by decide +kernel, rfl⟩, by decide +kernel⟩
theorem cs_Fi_171 : CsV "FileIndexer" 171 k_Fi_rank y_Fi_rank 1 := ⟨cd_Fi_rank, Wd.t 581 (by decide +kernel) rfl, Wd.t 583 (by decide +kernel) rfl, ⟨by decide +kernel, rfl⟩, by decide +kernel⟩
theorem cs_Fi_179 : CsV "FileIndexer" 179 k_Ix_entryOf y_Ix_entryOf 1 := ⟨cd_Ix_entryOf, Wd.t 585 (by decide +kernel) rfl, Wd.t 586 (by decide +kernel) rfl, Wd.t 587 (by decide +kernel) rfl, by decide +kernel⟩
theorem cs_Fi_205 : CsV "FileIndexer" 205 k_Qy_scoreOf y_Qy_scoreOf 1 := ⟨cd_Qy_scoreOf, Wd.t 589 (by decide +kernel) rfl, Wd.t 590 (by decide +kernel) rfl, Wd.t 591 (by decide +kernel) rfl, by decide +kernel⟩
theorem cs_Qy_49 : CsV "FileIndexer$Query" 49 k_Qy_partOf y_Qy_partOf 2 := ⟨cd_Qy_partOf, Wd.t 593 (by decide +kernel) rfl, Wd.t 595 (by decide +kernel) rfl, ⟨by decide +kernel, rfl⟩, by decide +kernel⟩
theorem cs_Qy_59 : CsV "FileIndexer$Query" 59 k_Tm_isOf y_Tm_isOf 1 := ⟨cd_Tm_isOf, Wd.t 597 (by decide +kernel) rfl, Wd.t 598 (by decide +kernel) rfl, Wd.t 599 (by decide +kernel) rfl, by decide +kernel⟩
theorem cs_Qy_63 : CsV "FileIndexer$Query" 63 k_Tm_weightIn y_Tm_weightIn 1 := ⟨cd_Tm_weightIn, Wd.t 601 (by decide +kernel) rfl, Wd.t 602 (by decide +kernel) rfl, Wd.t 603 (by decide +kernel) rfl, by decide +kernel⟩
theorem cs_Tm_32 : CsV "FileIndexer$Term" 32 k_En_size y_En_size 0 := ⟨cd_En_size, Wd.t 605 (by decide +kernel) rfl, Wd.t 606 (by decide +kernel) rfl, Wd.t 607 (by decide +kernel) rfl, by decide +kernel⟩
theorem cs_Tm_37 : CsV "FileIndexer$Term" 37 k_Tm_hits y_Tm_hits 2 := ⟨cd_Tm_hits, Wd.t 609 (by decide +kernel) rfl, Wd.t 611 (by decide +kernel) rfl, ⟨by decide +kernel, rfl⟩, by decide +kernel⟩
theorem cs_Tm_45 : CsV "FileIndexer$Term" 45 k_En_wordAt y_En_wordAt 1 := ⟨cd_En_wordAt, Wd.t 613 (by decide +kernel) rfl, Wd.t 614 (by decide +kernel) rfl, Wd.t 615 (by decide +kernel) rfl, by decide +kernel⟩
theorem cs_Tm_41 : CsV "FileIndexer$Term" 41 k_En_weightAt y_En_weightAt 1 := ⟨cd_En_weightAt, Wd.t 617 (by decide +kernel) rfl, Wd.t 618 (by decide +kernel) rfl, Wd.t 619 (by decide +kernel) rfl, by decide +kernel⟩
theorem cs_Qy_67 : CsV "FileIndexer$Query" 67 k_Tm_isUnwanted y_Tm_isUnwanted 0 := ⟨cd_Tm_isUnwanted, Wd.t 621 (by decide +kernel) rfl, Wd.t 622 (by decide +kernel) rfl, Wd.t 623 (by decide +kernel) rfl, by decide +kernel⟩
theorem wm_Qy_53 : Wd (.methodLink "FileIndexer$Query" 53 y_Mt_max) := Wd.t 625 (by decide +kernel) rfl
theorem ws_Mt_max : Wd (.static y_Mt_max) := Wd.t 626 (by decide +kernel) rfl
theorem cs_Fi_209 : CsV "FileIndexer" 209 k_Rk_add y_Rk_add 2 := ⟨cd_Rk_add, Wd.t 628 (by decide +kernel) rfl, Wd.t 629 (by decide +kernel) rfl, Wd.t 630 (by decide +kernel) rfl, by decide +kernel⟩
theorem cs_Fi_174 : CsV "FileIndexer" 174 k_Rk_size y_Rk_size 0 := ⟨cd_Rk_size, Wd.t 632 (by decide +kernel) rfl, Wd.t 633 (by decide +kernel) rfl, Wd.t 634 (by decide +kernel) rfl, by decide +kernel⟩
theorem cs_Lw_103 : CsS "FileIndexerLaw" 103 k_Lw_result y_Lw_result 4 := ⟨cd_Lw_result, Wd.t 636 (by decide +kernel) rfl, Wd.t 637 (by decide +kernel) rfl, by decide +kernel⟩
theorem cs_Lw_43 : CsV "FileIndexerLaw" 43 k_Fi_result y_Fi_result 2 := ⟨cd_Fi_result, Wd.t 639 (by decide +kernel) rfl, Wd.t 640 (by decide +kernel) rfl, Wd.t 641 (by decide +kernel) rfl, by decide +kernel⟩
theorem cs_Fi_175 : CsV "FileIndexer" 175 k_Rk_fileAt y_Rk_fileAt 1 := ⟨cd_Rk_fileAt, Wd.t 643 (by decide +kernel) rfl, Wd.t 644 (by decide +kernel) rfl, Wd.t 645 (by decide +kernel) rfl, by decide +kernel⟩
theorem cs_Fi_176 : CsV "FileIndexer" 176 k_Rk_scoreAt y_Rk_scoreAt 1 := ⟨cd_Rk_scoreAt, Wd.t 647 (by decide +kernel) rfl, Wd.t 648 (by decide +kernel) rfl, Wd.t 649 (by decide +kernel) rfl, by decide +kernel⟩
theorem cs_Lw_106 : CsS "FileIndexerLaw" 106 k_Lw_words y_Lw_words 3 := ⟨cd_Lw_words, Wd.t 651 (by decide +kernel) rfl, Wd.t 652 (by decide +kernel) rfl, by decide +kernel⟩
theorem cs_Lw_46 : CsV "FileIndexerLaw" 46 k_Fi_words y_Fi_words 1 := ⟨cd_Fi_words, Wd.t 654 (by decide +kernel) rfl, Wd.t 655 (by decide +kernel) rfl, Wd.t 656 (by decide +kernel) rfl, by decide +kernel⟩
theorem cs_Fi_183 : CsV "FileIndexer" 183 k_En_size y_En_size 0 := ⟨cd_En_size, Wd.t 658 (by decide +kernel) rfl, Wd.t 606 (by decide +kernel) rfl, Wd.t 607 (by decide +kernel) rfl, by decide +kernel⟩
theorem cs_Lw_109 : CsS "FileIndexerLaw" 109 k_Lw_event y_Lw_event 3 := ⟨cd_Lw_event, Wd.t 659 (by decide +kernel) rfl, Wd.t 660 (by decide +kernel) rfl, by decide +kernel⟩
theorem cs_Lw_49 : CsV "FileIndexerLaw" 49 k_Fi_event y_Fi_event 1 := ⟨cd_Fi_event, Wd.t 662 (by decide +kernel) rfl, Wd.t 663 (by decide +kernel) rfl, Wd.t 664 (by decide +kernel) rfl, by decide +kernel⟩
theorem cs_Lw_112 : CsS "FileIndexerLaw" 112 k_Lw_count y_Lw_count 3 := ⟨cd_Lw_count, Wd.t 666 (by decide +kernel) rfl, Wd.t 667 (by decide +kernel) rfl, by decide +kernel⟩
theorem cs_Lw_52 : CsV "FileIndexerLaw" 52 k_Fi_count y_Fi_count 1 := ⟨cd_Fi_count, Wd.t 669 (by decide +kernel) rfl, Wd.t 670 (by decide +kernel) rfl, Wd.t 671 (by decide +kernel) rfl, by decide +kernel⟩
theorem cs_Fi_186 : CsV "FileIndexer" 186 k_Tr_nodesThere y_Tr_nodesThere 0 := ⟨cd_Tr_nodesThere, Wd.t 673 (by decide +kernel) rfl, Wd.t 674 (by decide +kernel) rfl, Wd.t 675 (by decide +kernel) rfl, by decide +kernel⟩
theorem cs_Fi_189 : CsV "FileIndexer" 189 k_Tr_filesThere y_Tr_filesThere 0 := ⟨cd_Tr_filesThere, Wd.t 677 (by decide +kernel) rfl, Wd.t 678 (by decide +kernel) rfl, Wd.t 679 (by decide +kernel) rfl, by decide +kernel⟩
theorem cs_Tr_33 : CsV "FileIndexer$Tree" 33 k_Tr_isFile y_Tr_isFile 1 := ⟨cd_Tr_isFile, Wd.t 681 (by decide +kernel) rfl, Wd.t 192 (by decide +kernel) rfl, Wd.t 193 (by decide +kernel) rfl, by decide +kernel⟩
theorem cs_Fi_192 : CsV "FileIndexer" 192 k_Ix_size y_Ix_size 0 := ⟨cd_Ix_size, Wd.t 682 (by decide +kernel) rfl, Wd.t 683 (by decide +kernel) rfl, Wd.t 684 (by decide +kernel) rfl, by decide +kernel⟩
theorem cs_Fi_193 : CsV "FileIndexer" 193 k_Ix_timesRead y_Ix_timesRead 0 := ⟨cd_Ix_timesRead, Wd.t 686 (by decide +kernel) rfl, Wd.t 687 (by decide +kernel) rfl, Wd.t 688 (by decide +kernel) rfl, by decide +kernel⟩
theorem cs_Lw_58 : CsI "FileIndexerLaw" 58 k_Md_init y_Md_init 0 := ⟨cd_Md_init, Or.inl (Wd.t 692 (by decide +kernel) rfl), Wd.t 693 (by decide +kernel) rfl, rfl, rfl, rfl, by decide +kernel⟩
theorem cs_Lw_65 : CsV "FileIndexerLaw" 65 k_Md_thrown y_Md_thrown 0 := ⟨cd_Md_thrown, Wd.t 799 (by decide +kernel) rfl, Wd.t 800 (by decide +kernel) rfl, Wd.t 801 (by decide +kernel) rfl, by decide +kernel⟩
theorem cs_Lw_64 : CsV "FileIndexerLaw" 64 k_Md_make y_Md_make 3 := ⟨cd_Md_make, Wd.t 803 (by decide +kernel) rfl, Wd.t 804 (by decide +kernel) rfl, Wd.t 805 (by decide +kernel) rfl, by decide +kernel⟩
theorem cs_Md_88 : CsS "FileIndexerModel" 88 k_Md_in y_Md_in 3 := ⟨cd_Md_in, Wd.t 807 (by decide +kernel) rfl, Wd.t 808 (by decide +kernel) rfl, by decide +kernel⟩
theorem cs_Md_107 : CsV "FileIndexerModel" 107 k_Md_raise y_Md_raise 1 := ⟨cd_Md_raise, Wd.t 810 (by decide +kernel) rfl, Wd.t 812 (by decide +kernel) rfl, ⟨by decide +kernel, rfl⟩, by decide +kernel⟩
theorem cs_Md_111 : CsV "FileIndexerModel" 111 k_Md_isFolder y_Md_isFolder 1 := ⟨cd_Md_isFolder, Wd.t 814 (by decide +kernel) rfl, Wd.t 816 (by decide +kernel) rfl, ⟨by decide +kernel, rfl⟩, by decide +kernel⟩
theorem cs_Md_115 : CsV "FileIndexerModel" 115 k_Md_tell y_Md_tell 2 := ⟨cd_Md_tell, Wd.t 818 (by decide +kernel) rfl, Wd.t 820 (by decide +kernel) rfl, ⟨by decide +kernel, rfl⟩, by decide +kernel⟩
theorem cs_Md_99 : CsS "FileIndexerModel" 99 k_Md_together y_Md_together 2 := ⟨cd_Md_together, Wd.t 822 (by decide +kernel) rfl, Wd.t 823 (by decide +kernel) rfl, by decide +kernel⟩
theorem cs_Md_103 : CsV "FileIndexerModel" 103 k_Md_drop y_Md_drop 1 := ⟨cd_Md_drop, Wd.t 825 (by decide +kernel) rfl, Wd.t 827 (by decide +kernel) rfl, ⟨by decide +kernel, rfl⟩, by decide +kernel⟩
theorem cs_Lw_74 : CsV "FileIndexerLaw" 74 k_Md_write y_Md_write 3 := ⟨cd_Md_write, Wd.t 829 (by decide +kernel) rfl, Wd.t 830 (by decide +kernel) rfl, Wd.t 831 (by decide +kernel) rfl, by decide +kernel⟩
theorem cs_Md_119 : CsV "FileIndexerModel" 119 k_Md_isFile y_Md_isFile 1 := ⟨cd_Md_isFile, Wd.t 833 (by decide +kernel) rfl, Wd.t 835 (by decide +kernel) rfl, ⟨by decide +kernel, rfl⟩, by decide +kernel⟩
theorem cs_Lw_78 : CsV "FileIndexerLaw" 78 k_Md_cut y_Md_cut 2 := ⟨cd_Md_cut, Wd.t 837 (by decide +kernel) rfl, Wd.t 838 (by decide +kernel) rfl, Wd.t 839 (by decide +kernel) rfl, by decide +kernel⟩
theorem cs_Lw_82 : CsV "FileIndexerLaw" 82 k_Md_remove y_Md_remove 1 := ⟨cd_Md_remove, Wd.t 841 (by decide +kernel) rfl, Wd.t 842 (by decide +kernel) rfl, Wd.t 843 (by decide +kernel) rfl, by decide +kernel⟩
theorem cs_Md_122 : CsV "FileIndexerModel" 122 k_Md_mark y_Md_mark 1 := ⟨cd_Md_mark, Wd.t 845 (by decide +kernel) rfl, Wd.t 847 (by decide +kernel) rfl, ⟨by decide +kernel, rfl⟩, by decide +kernel⟩
theorem cs_Md_125 : CsV "FileIndexerModel" 125 k_Md_within y_Md_within 2 := ⟨cd_Md_within, Wd.t 849 (by decide +kernel) rfl, Wd.t 851 (by decide +kernel) rfl, ⟨by decide +kernel, rfl⟩, by decide +kernel⟩
theorem cs_Lw_85 : CsV "FileIndexerLaw" 85 k_Md_move y_Md_move 2 := ⟨cd_Md_move, Wd.t 853 (by decide +kernel) rfl, Wd.t 854 (by decide +kernel) rfl, Wd.t 855 (by decide +kernel) rfl, by decide +kernel⟩
theorem cs_Lw_88 : CsV "FileIndexerLaw" 88 k_Md_work y_Md_work 1 := ⟨cd_Md_work, Wd.t 857 (by decide +kernel) rfl, Wd.t 858 (by decide +kernel) rfl, Wd.t 859 (by decide +kernel) rfl, by decide +kernel⟩
theorem cs_Md_135 : CsV "FileIndexerModel" 135 k_Md_read y_Md_read 1 := ⟨cd_Md_read, Wd.t 861 (by decide +kernel) rfl, Wd.t 863 (by decide +kernel) rfl, ⟨by decide +kernel, rfl⟩, by decide +kernel⟩
theorem cs_Md_129 : CsS "FileIndexerModel" 129 k_Md_letter y_Md_letter 1 := ⟨cd_Md_letter, Wd.t 865 (by decide +kernel) rfl, Wd.t 866 (by decide +kernel) rfl, by decide +kernel⟩
theorem cs_Lw_92 : CsV "FileIndexerLaw" 92 k_Md_rescan y_Md_rescan 0 := ⟨cd_Md_rescan, Wd.t 868 (by decide +kernel) rfl, Wd.t 869 (by decide +kernel) rfl, Wd.t 870 (by decide +kernel) rfl, by decide +kernel⟩
theorem cs_Lw_95 : CsV "FileIndexerLaw" 95 k_Md_type y_Md_type 1 := ⟨cd_Md_type, Wd.t 872 (by decide +kernel) rfl, Wd.t 873 (by decide +kernel) rfl, Wd.t 874 (by decide +kernel) rfl, by decide +kernel⟩
theorem cs_Lw_98 : CsV "FileIndexerLaw" 98 k_Md_search y_Md_search 1 := ⟨cd_Md_search, Wd.t 876 (by decide +kernel) rfl, Wd.t 877 (by decide +kernel) rfl, Wd.t 878 (by decide +kernel) rfl, by decide +kernel⟩
theorem cs_Md_181 : CsV "FileIndexerModel" 181 k_Md_parse y_Md_parse 0 := ⟨cd_Md_parse, Wd.t 880 (by decide +kernel) rfl, Wd.t 882 (by decide +kernel) rfl, ⟨by decide +kernel, rfl⟩, by decide +kernel⟩
theorem cs_Md_157 : CsV "FileIndexerModel" 157 k_Md_blanks y_Md_blanks 0 := ⟨cd_Md_blanks, Wd.t 884 (by decide +kernel) rfl, Wd.t 886 (by decide +kernel) rfl, ⟨by decide +kernel, rfl⟩, by decide +kernel⟩
theorem cs_Md_144 : CsV "FileIndexerModel" 144 k_Md_now y_Md_now 0 := ⟨cd_Md_now, Wd.t 888 (by decide +kernel) rfl, Wd.t 890 (by decide +kernel) rfl, ⟨by decide +kernel, rfl⟩, by decide +kernel⟩
theorem cs_Md_169 : CsV "FileIndexerModel" 169 k_Md_takeTerm y_Md_takeTerm 1 := ⟨cd_Md_takeTerm, Wd.t 892 (by decide +kernel) rfl, Wd.t 894 (by decide +kernel) rfl, ⟨by decide +kernel, rfl⟩, by decide +kernel⟩
theorem cs_Md_166 : CsV "FileIndexerModel" 166 k_Md_takePhrase y_Md_takePhrase 0 := ⟨cd_Md_takePhrase, Wd.t 896 (by decide +kernel) rfl, Wd.t 898 (by decide +kernel) rfl, ⟨by decide +kernel, rfl⟩, by decide +kernel⟩
theorem cs_Md_151 : CsV "FileIndexerModel" 151 k_Md_blame y_Md_blame 0 := ⟨cd_Md_blame, Wd.t 900 (by decide +kernel) rfl, Wd.t 902 (by decide +kernel) rfl, ⟨by decide +kernel, rfl⟩, by decide +kernel⟩
theorem cs_Md_160 : CsV "FileIndexerModel" 160 k_Md_takeWord y_Md_takeWord 0 := ⟨cd_Md_takeWord, Wd.t 904 (by decide +kernel) rfl, Wd.t 906 (by decide +kernel) rfl, ⟨by decide +kernel, rfl⟩, by decide +kernel⟩
theorem cs_Md_184 : CsV "FileIndexerModel" 184 k_Md_score y_Md_score 2 := ⟨cd_Md_score, Wd.t 908 (by decide +kernel) rfl, Wd.t 910 (by decide +kernel) rfl, ⟨by decide +kernel, rfl⟩, by decide +kernel⟩
theorem cs_Md_175 : CsV "FileIndexerModel" 175 k_Md_hits y_Md_hits 2 := ⟨cd_Md_hits, Wd.t 912 (by decide +kernel) rfl, Wd.t 914 (by decide +kernel) rfl, ⟨by decide +kernel, rfl⟩, by decide +kernel⟩
theorem cs_Md_172 : CsV "FileIndexerModel" 172 k_Md_hit y_Md_hit 2 := ⟨cd_Md_hit, Wd.t 916 (by decide +kernel) rfl, Wd.t 918 (by decide +kernel) rfl, ⟨by decide +kernel, rfl⟩, by decide +kernel⟩
theorem cs_Md_187 : CsV "FileIndexerModel" 187 k_Md_place y_Md_place 2 := ⟨cd_Md_place, Wd.t 920 (by decide +kernel) rfl, Wd.t 922 (by decide +kernel) rfl, ⟨by decide +kernel, rfl⟩, by decide +kernel⟩
theorem cs_Lw_102 : CsV "FileIndexerLaw" 102 k_Md_fault y_Md_fault 0 := ⟨cd_Md_fault, Wd.t 924 (by decide +kernel) rfl, Wd.t 925 (by decide +kernel) rfl, Wd.t 926 (by decide +kernel) rfl, by decide +kernel⟩
theorem cs_Lw_105 : CsV "FileIndexerLaw" 105 k_Md_result y_Md_result 2 := ⟨cd_Md_result, Wd.t 928 (by decide +kernel) rfl, Wd.t 929 (by decide +kernel) rfl, Wd.t 930 (by decide +kernel) rfl, by decide +kernel⟩
theorem cs_Lw_108 : CsV "FileIndexerLaw" 108 k_Md_words y_Md_words 1 := ⟨cd_Md_words, Wd.t 932 (by decide +kernel) rfl, Wd.t 933 (by decide +kernel) rfl, Wd.t 934 (by decide +kernel) rfl, by decide +kernel⟩
theorem cs_Lw_111 : CsV "FileIndexerLaw" 111 k_Md_event y_Md_event 1 := ⟨cd_Md_event, Wd.t 936 (by decide +kernel) rfl, Wd.t 937 (by decide +kernel) rfl, Wd.t 938 (by decide +kernel) rfl, by decide +kernel⟩
theorem cs_Lw_114 : CsV "FileIndexerLaw" 114 k_Md_count y_Md_count 1 := ⟨cd_Md_count, Wd.t 940 (by decide +kernel) rfl, Wd.t 941 (by decide +kernel) rfl, Wd.t 942 (by decide +kernel) rfl, by decide +kernel⟩
theorem cs_Fi_18 : CsI "FileIndexer" 18 k_Qu_init y_Qu_init 0 := ⟨cd_Qu_init, Or.inr ⟨"FileIndexer", lw_in (List.mem_of_getElem? (i := 49) (by decide +kernel))⟩, Wd.t 50 (by decide +kernel) rfl, rfl, rfl, rfl, by decide +kernel⟩
theorem cs_Ix_21 : CsI "FileIndexer$Index" 21 k_En_init y_En_init 0 := ⟨cd_En_init, Or.inr ⟨"FileIndexer", lw_in (List.mem_of_getElem? (i := 75) (by decide +kernel))⟩, Wd.t 76 (by decide +kernel) rfl, rfl, rfl, rfl, by decide +kernel⟩
theorem cs_Qy_21 : CsI "FileIndexer$Query" 21 k_Tm_init y_Tm_init 0 := ⟨cd_Tm_init, Or.inr ⟨"FileIndexer", lw_in (List.mem_of_getElem? (i := 110) (by decide +kernel))⟩, Wd.t 111 (by decide +kernel) rfl, rfl, rfl, rfl, by decide +kernel⟩
theorem cs_Fi_39 : CsI "FileIndexer" 39 k_Rk_init y_Rk_init 0 := ⟨cd_Rk_init, Or.inr ⟨"FileIndexer", lw_in (List.mem_of_getElem? (i := 154) (by decide +kernel))⟩, Wd.t 155 (by decide +kernel) rfl, rfl, rfl, rfl, by decide +kernel⟩
theorem cs_Tr_26 : CsN "FileIndexer$Tree" 26 k_Fi_isNode y_Fi_isNode 1 := ⟨cd_Fi_isNode, ⟨"FileIndexer", lw_in (List.mem_of_getElem? (i := 195) (by decide +kernel))⟩, Wd.t 196 (by decide +kernel) rfl, by decide +kernel⟩
theorem cs_En_27 : CsN "FileIndexer$Entry" 27 k_Fi_isLetter y_Fi_isLetter 1 := ⟨cd_Fi_isLetter, ⟨"FileIndexer", lw_in (List.mem_of_getElem? (i := 221) (by decide +kernel))⟩, Wd.t 222 (by decide +kernel) rfl, by decide +kernel⟩
theorem cs_En_31 : CsN "FileIndexer$Entry" 31 k_Fi_withLetter y_Fi_withLetter 3 := ⟨cd_Fi_withLetter, ⟨"FileIndexer", lw_in (List.mem_of_getElem? (i := 224) (by decide +kernel))⟩, Wd.t 225 (by decide +kernel) rfl, by decide +kernel⟩
theorem cs_Qy_102 : CsN "FileIndexer$Query" 102 k_Fi_isLetter y_Fi_isLetter 1 := ⟨cd_Fi_isLetter, ⟨"FileIndexer", lw_in (List.mem_of_getElem? (i := 538) (by decide +kernel))⟩, Wd.t 222 (by decide +kernel) rfl, by decide +kernel⟩
theorem cs_Qy_108 : CsN "FileIndexer$Query" 108 k_Fi_withLetter y_Fi_withLetter 3 := ⟨cd_Fi_withLetter, ⟨"FileIndexer", lw_in (List.mem_of_getElem? (i := 543) (by decide +kernel))⟩, Wd.t 225 (by decide +kernel) rfl, by decide +kernel⟩
theorem cs_Ix_22 : CsN "FileIndexer$Index" 22 k_Fi_isNode y_Fi_isNode 1 := ⟨cd_Fi_isNode, ⟨"FileIndexer", lw_in (List.mem_of_getElem? (i := 576) (by decide +kernel))⟩, Wd.t 196 (by decide +kernel) rfl, by decide +kernel⟩
theorem wl_Lw_8 : Wd (.classLink "FileIndexerLaw" 8 (kN 7)) := Wd.t 17 (by decide +kernel) rfl
theorem wl_Fi_7 : Wd (.classLink "FileIndexer" 7 (kN 6)) := Wd.t 25 (by decide +kernel) rfl
theorem wl_Tr_18 : Wd (.classLink "FileIndexer$Tree" 18 "[[I") := Wd.t 31 (by decide +kernel) rfl
theorem wl_Fi_16 : Wd (.classLink "FileIndexer" 16 (kN 3)) := Wd.t 47 (by decide +kernel) rfl
theorem wl_Fi_23 : Wd (.classLink "FileIndexer" 23 (kN 1)) := Wd.t 66 (by decide +kernel) rfl
theorem wl_Ix_9 : Wd (.classLink "FileIndexer$Index" 9 (kN 0)) := Wd.t 72 (by decide +kernel) rfl
theorem wl_Fi_30 : Wd (.classLink "FileIndexer" 30 (kN 2)) := Wd.t 101 (by decide +kernel) rfl
theorem wl_Qy_15 : Wd (.classLink "FileIndexer$Query" 15 (kN 5)) := Wd.t 107 (by decide +kernel) rfl
theorem wl_Fi_37 : Wd (.classLink "FileIndexer" 37 (kN 4)) := Wd.t 152 (by decide +kernel) rfl
theorem wl_Lw_13 : Wd (.classLink "FileIndexerLaw" 13 (kN 9)) := Wd.t 246 (by decide +kernel) rfl
theorem wl_Lw_15 : Wd (.classLink "FileIndexerLaw" 15 (kN 10)) := Wd.t 247 (by decide +kernel) rfl
theorem wl_Fi_55 : Wd (.classLink "FileIndexer" 55 (kN 9)) := Wd.t 256 (by decide +kernel) rfl
theorem wl_Fi_64 : Wd (.classLink "FileIndexer" 64 (kN 10)) := Wd.t 327 (by decide +kernel) rfl
theorem wl_Lw_21 : Wd (.classLink "FileIndexerLaw" 21 (kN 11)) := Wd.t 365 (by decide +kernel) rfl
theorem wl_Fi_78 : Wd (.classLink "FileIndexer" 78 (kN 11)) := Wd.t 370 (by decide +kernel) rfl
theorem wl_Lw_56 : Wd (.classLink "FileIndexerLaw" 56 (kN 8)) := Wd.t 690 (by decide +kernel) rfl
theorem wo_Fi : Wd (.methodLink "FileIndexer" 1 objectInit) := Wd.t 22 (by decide +kernel) rfl
theorem wo_Tr : Wd (.methodLink "FileIndexer$Tree" 3 objectInit) := Wd.t 30 (by decide +kernel) rfl
theorem wo_Qu : Wd (.methodLink "FileIndexer$Queue" 3 objectInit) := Wd.t 52 (by decide +kernel) rfl
theorem wo_Ix : Wd (.methodLink "FileIndexer$Index" 3 objectInit) := Wd.t 71 (by decide +kernel) rfl
theorem wo_En : Wd (.methodLink "FileIndexer$Entry" 3 objectInit) := Wd.t 78 (by decide +kernel) rfl
theorem wo_Qy : Wd (.methodLink "FileIndexer$Query" 3 objectInit) := Wd.t 106 (by decide +kernel) rfl
theorem wo_Tm : Wd (.methodLink "FileIndexer$Term" 3 objectInit) := Wd.t 113 (by decide +kernel) rfl
theorem wo_Rk : Wd (.methodLink "FileIndexer$Ranking" 3 objectInit) := Wd.t 157 (by decide +kernel) rfl
theorem wx_Fi_57 : Wd (.methodLink "FileIndexer" 57 (Bundle.init0 (kN 9))) := Wd.t 297 (by decide +kernel) rfl
theorem wx_Fi_66 : Wd (.methodLink "FileIndexer" 66 (Bundle.init0 (kN 10))) := Wd.t 336 (by decide +kernel) rfl
theorem wx_Fi_80 : Wd (.methodLink "FileIndexer" 80 (Bundle.init0 (kN 11))) := Wd.t 379 (by decide +kernel) rfl
theorem wo_Md : Wd (.methodLink "FileIndexerModel" 1 objectInit) := Wd.t 695 (by decide +kernel) rfl
theorem wo1 : Wd (.instanceMethod objectInit) := Wd.t 23 (by decide +kernel) rfl
theorem wo2 : Wd (.code objectInit ⟨#[0xb1]⟩ 1 none) := Wd.t 24 (by decide +kernel) rfl
theorem wk_Tm_26 : Wd (.constantLong "FileIndexer$Term" 26 (-1)) := Wd.t 521 (by decide +kernel) rfl
theorem wk_Lw_69 : Wd (.constantLong "FileIndexerLaw" 69 (4294967295)) := Wd.t 944 (by decide +kernel) rfl
theorem wa_int : Wd (.arrayClass .int) := Wd.t 46 (by decide +kernel) rfl
theorem wa_boolean : Wd (.arrayClass .boolean) := Wd.t 89 (by decide +kernel) rfl
theorem wa_long : Wd (.arrayClass .long) := Wd.t 90 (by decide +kernel) rfl
theorem wv_a : Cond.arrayOver (.array .int) ∈ lw_tbl := lw_in (List.mem_of_getElem? (i := 32) (by decide +kernel))
theorem wv_En : Cond.arrayOver (.object (kN 0)) ∈ lw_tbl := lw_in (List.mem_of_getElem? (i := 73) (by decide +kernel))
theorem wv_Tm : Cond.arrayOver (.object (kN 5)) ∈ lw_tbl := lw_in (List.mem_of_getElem? (i := 108) (by decide +kernel))
end
